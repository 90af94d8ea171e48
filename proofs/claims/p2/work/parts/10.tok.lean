theorem dX7_start_0 : decode cX7_start 0 = .ok (.aload_n 0, 1) := by decide +kernel
theorem dX7_start_1 : decode cX7_start 1 = .ok (.aload_n 1, 1) := by decide +kernel
theorem dX7_start_2 : decode cX7_start 2 = .ok (.putfield 13, 3) := by decide +kernel
theorem dX7_start_5 : decode cX7_start 5 = .ok (.aload_n 0, 1) := by decide +kernel
theorem dX7_start_6 : decode cX7_start 6 = .ok (.iload_n 2, 1) := by decide +kernel
theorem dX7_start_7 : decode cX7_start 7 = .ok (.aload_n 1, 1) := by decide +kernel
theorem dX7_start_8 : decode cX7_start 8 = .ok (.arraylength, 1) := by decide +kernel
theorem dX7_start_9 : decode cX7_start 9 = .ok (.invokestatic 33, 3) := by decide +kernel
theorem dX7_start_12 : decode cX7_start 12 = .ok (.putfield 39, 3) := by decide +kernel
theorem dX7_start_15 : decode cX7_start 15 = .ok (.aload_n 0, 1) := by decide +kernel
theorem dX7_start_16 : decode cX7_start 16 = .ok (.iconst 0, 1) := by decide +kernel
theorem dX7_start_17 : decode cX7_start 17 = .ok (.putfield 43, 3) := by decide +kernel
theorem dX7_start_20 : decode cX7_start 20 = .ok (.aload_n 0, 1) := by decide +kernel
theorem dX7_start_21 : decode cX7_start 21 = .ok (.invokevirtual 46, 3) := by decide +kernel
theorem dX7_start_24 : decode cX7_start 24 = .ok (.return_, 1) := by decide +kernel
theorem dX7_advance_0 : decode cX7_advance 0 = .ok (.aload_n 0, 1) := by decide +kernel
theorem dX7_advance_1 : decode cX7_advance 1 = .ok (.getfield 43, 3) := by decide +kernel
theorem dX7_advance_4 : decode cX7_advance 4 = .ok (.aload_n 0, 1) := by decide +kernel
theorem dX7_advance_5 : decode cX7_advance 5 = .ok (.getfield 39, 3) := by decide +kernel
theorem dX7_advance_8 : decode cX7_advance 8 = .ok (.if_icmp .ge 44, 3) := by decide +kernel
theorem dX7_advance_11 : decode cX7_advance 11 = .ok (.aload_n 0, 1) := by decide +kernel
theorem dX7_advance_12 : decode cX7_advance 12 = .ok (.getfield 13, 3) := by decide +kernel
theorem dX7_advance_15 : decode cX7_advance 15 = .ok (.aload_n 0, 1) := by decide +kernel
theorem dX7_advance_16 : decode cX7_advance 16 = .ok (.getfield 43, 3) := by decide +kernel
theorem dX7_advance_19 : decode cX7_advance 19 = .ok (.baload, 1) := by decide +kernel
theorem dX7_advance_20 : decode cX7_advance 20 = .ok (.bipush 32, 2) := by decide +kernel
theorem dX7_advance_22 : decode cX7_advance 22 = .ok (.if_icmp .eq 17, 3) := by decide +kernel
theorem dX7_advance_25 : decode cX7_advance 25 = .ok (.aload_n 0, 1) := by decide +kernel
theorem dX7_advance_26 : decode cX7_advance 26 = .ok (.getfield 13, 3) := by decide +kernel
theorem dX7_advance_29 : decode cX7_advance 29 = .ok (.aload_n 0, 1) := by decide +kernel
theorem dX7_advance_30 : decode cX7_advance 30 = .ok (.getfield 43, 3) := by decide +kernel
theorem dX7_advance_33 : decode cX7_advance 33 = .ok (.baload, 1) := by decide +kernel
theorem dX7_advance_34 : decode cX7_advance 34 = .ok (.bipush 10, 2) := by decide +kernel
theorem dX7_advance_36 : decode cX7_advance 36 = .ok (.if_icmp .ne 16, 3) := by decide +kernel
theorem dX7_advance_39 : decode cX7_advance 39 = .ok (.aload_n 0, 1) := by decide +kernel
theorem dX7_advance_40 : decode cX7_advance 40 = .ok (.dup, 1) := by decide +kernel
theorem dX7_advance_41 : decode cX7_advance 41 = .ok (.getfield 43, 3) := by decide +kernel
theorem dX7_advance_44 : decode cX7_advance 44 = .ok (.iconst 1, 1) := by decide +kernel
theorem dX7_advance_45 : decode cX7_advance 45 = .ok (.iadd, 1) := by decide +kernel
theorem dX7_advance_46 : decode cX7_advance 46 = .ok (.putfield 43, 3) := by decide +kernel
theorem dX7_advance_49 : decode cX7_advance 49 = .ok (.goto (-49), 3) := by decide +kernel
theorem dX7_advance_52 : decode cX7_advance 52 = .ok (.aload_n 0, 1) := by decide +kernel
theorem dX7_advance_53 : decode cX7_advance 53 = .ok (.aload_n 0, 1) := by decide +kernel
theorem dX7_advance_54 : decode cX7_advance 54 = .ok (.getfield 43, 3) := by decide +kernel
theorem dX7_advance_57 : decode cX7_advance 57 = .ok (.putfield 49, 3) := by decide +kernel
theorem dX7_advance_60 : decode cX7_advance 60 = .ok (.aload_n 0, 1) := by decide +kernel
theorem dX7_advance_61 : decode cX7_advance 61 = .ok (.getfield 43, 3) := by decide +kernel
theorem dX7_advance_64 : decode cX7_advance 64 = .ok (.aload_n 0, 1) := by decide +kernel
theorem dX7_advance_65 : decode cX7_advance 65 = .ok (.getfield 39, 3) := by decide +kernel
theorem dX7_advance_68 : decode cX7_advance 68 = .ok (.if_icmp .lt 12, 3) := by decide +kernel
theorem dX7_advance_71 : decode cX7_advance 71 = .ok (.aload_n 0, 1) := by decide +kernel
theorem dX7_advance_72 : decode cX7_advance 72 = .ok (.bipush 15, 2) := by decide +kernel
theorem dX7_advance_74 : decode cX7_advance 74 = .ok (.putfield 52, 3) := by decide +kernel
theorem dX7_advance_77 : decode cX7_advance 77 = .ok (.goto 82, 3) := by decide +kernel
theorem dX7_advance_80 : decode cX7_advance 80 = .ok (.aload_n 0, 1) := by decide +kernel
theorem dX7_advance_81 : decode cX7_advance 81 = .ok (.getfield 13, 3) := by decide +kernel
theorem dX7_advance_84 : decode cX7_advance 84 = .ok (.aload_n 0, 1) := by decide +kernel
theorem dX7_advance_85 : decode cX7_advance 85 = .ok (.getfield 43, 3) := by decide +kernel
theorem dX7_advance_88 : decode cX7_advance 88 = .ok (.baload, 1) := by decide +kernel
theorem dX7_advance_89 : decode cX7_advance 89 = .ok (.invokestatic 55, 3) := by decide +kernel
theorem dX7_advance_92 : decode cX7_advance 92 = .ok (.ifCond .eq 10, 3) := by decide +kernel
theorem dX7_advance_95 : decode cX7_advance 95 = .ok (.aload_n 0, 1) := by decide +kernel
theorem dX7_advance_96 : decode cX7_advance 96 = .ok (.invokevirtual 59, 3) := by decide +kernel
theorem dX7_advance_99 : decode cX7_advance 99 = .ok (.goto 60, 3) := by decide +kernel
theorem dX7_advance_102 : decode cX7_advance 102 = .ok (.aload_n 0, 1) := by decide +kernel
theorem dX7_advance_103 : decode cX7_advance 103 = .ok (.getfield 13, 3) := by decide +kernel
theorem dX7_advance_106 : decode cX7_advance 106 = .ok (.aload_n 0, 1) := by decide +kernel
theorem dX7_advance_107 : decode cX7_advance 107 = .ok (.getfield 43, 3) := by decide +kernel
theorem dX7_advance_110 : decode cX7_advance 110 = .ok (.baload, 1) := by decide +kernel
theorem dX7_advance_111 : decode cX7_advance 111 = .ok (.invokestatic 62, 3) := by decide +kernel
theorem dX7_advance_114 : decode cX7_advance 114 = .ok (.ifCond .eq 10, 3) := by decide +kernel
theorem dX7_advance_117 : decode cX7_advance 117 = .ok (.aload_n 0, 1) := by decide +kernel
theorem dX7_advance_118 : decode cX7_advance 118 = .ok (.invokevirtual 65, 3) := by decide +kernel
theorem dX7_advance_121 : decode cX7_advance 121 = .ok (.goto 38, 3) := by decide +kernel
theorem dX7_advance_124 : decode cX7_advance 124 = .ok (.aload_n 0, 1) := by decide +kernel
theorem dX7_advance_125 : decode cX7_advance 125 = .ok (.aload_n 0, 1) := by decide +kernel
theorem dX7_advance_126 : decode cX7_advance 126 = .ok (.getfield 13, 3) := by decide +kernel
theorem dX7_advance_129 : decode cX7_advance 129 = .ok (.aload_n 0, 1) := by decide +kernel
theorem dX7_advance_130 : decode cX7_advance 130 = .ok (.getfield 43, 3) := by decide +kernel
theorem dX7_advance_133 : decode cX7_advance 133 = .ok (.baload, 1) := by decide +kernel
theorem dX7_advance_134 : decode cX7_advance 134 = .ok (.bipush 59, 2) := by decide +kernel
theorem dX7_advance_136 : decode cX7_advance 136 = .ok (.if_icmp .ne 8, 3) := by decide +kernel
theorem dX7_advance_139 : decode cX7_advance 139 = .ok (.bipush 14, 2) := by decide +kernel
theorem dX7_advance_141 : decode cX7_advance 141 = .ok (.goto 5, 3) := by decide +kernel
theorem dX7_advance_144 : decode cX7_advance 144 = .ok (.bipush 16, 2) := by decide +kernel
theorem dX7_advance_146 : decode cX7_advance 146 = .ok (.putfield 52, 3) := by decide +kernel
theorem dX7_advance_149 : decode cX7_advance 149 = .ok (.aload_n 0, 1) := by decide +kernel
theorem dX7_advance_150 : decode cX7_advance 150 = .ok (.dup, 1) := by decide +kernel
theorem dX7_advance_151 : decode cX7_advance 151 = .ok (.getfield 43, 3) := by decide +kernel
theorem dX7_advance_154 : decode cX7_advance 154 = .ok (.iconst 1, 1) := by decide +kernel
theorem dX7_advance_155 : decode cX7_advance 155 = .ok (.iadd, 1) := by decide +kernel
theorem dX7_advance_156 : decode cX7_advance 156 = .ok (.putfield 43, 3) := by decide +kernel
theorem dX7_advance_159 : decode cX7_advance 159 = .ok (.return_, 1) := by decide +kernel
theorem dX7_takeWord_0 : decode cX7_takeWord 0 = .ok (.aload_n 0, 1) := by decide +kernel
theorem dX7_takeWord_1 : decode cX7_takeWord 1 = .ok (.lconst 0, 1) := by decide +kernel
theorem dX7_takeWord_2 : decode cX7_takeWord 2 = .ok (.putfield 68, 3) := by decide +kernel
theorem dX7_takeWord_5 : decode cX7_takeWord 5 = .ok (.aload_n 0, 1) := by decide +kernel
theorem dX7_takeWord_6 : decode cX7_takeWord 6 = .ok (.getfield 43, 3) := by decide +kernel
theorem dX7_takeWord_9 : decode cX7_takeWord 9 = .ok (.aload_n 0, 1) := by decide +kernel
theorem dX7_takeWord_10 : decode cX7_takeWord 10 = .ok (.getfield 39, 3) := by decide +kernel
theorem dX7_takeWord_13 : decode cX7_takeWord 13 = .ok (.if_icmp .ge 65, 3) := by decide +kernel
theorem dX7_takeWord_16 : decode cX7_takeWord 16 = .ok (.aload_n 0, 1) := by decide +kernel
theorem dX7_takeWord_17 : decode cX7_takeWord 17 = .ok (.getfield 13, 3) := by decide +kernel
theorem dX7_takeWord_20 : decode cX7_takeWord 20 = .ok (.aload_n 0, 1) := by decide +kernel
theorem dX7_takeWord_21 : decode cX7_takeWord 21 = .ok (.getfield 43, 3) := by decide +kernel
theorem dX7_takeWord_24 : decode cX7_takeWord 24 = .ok (.baload, 1) := by decide +kernel
theorem dX7_takeWord_25 : decode cX7_takeWord 25 = .ok (.invokestatic 55, 3) := by decide +kernel
theorem dX7_takeWord_28 : decode cX7_takeWord 28 = .ok (.ifCond .eq 50, 3) := by decide +kernel
theorem dX7_takeWord_31 : decode cX7_takeWord 31 = .ok (.aload_n 0, 1) := by decide +kernel
theorem dX7_takeWord_32 : decode cX7_takeWord 32 = .ok (.getfield 43, 3) := by decide +kernel
theorem dX7_takeWord_35 : decode cX7_takeWord 35 = .ok (.aload_n 0, 1) := by decide +kernel
theorem dX7_takeWord_36 : decode cX7_takeWord 36 = .ok (.getfield 49, 3) := by decide +kernel
theorem dX7_takeWord_39 : decode cX7_takeWord 39 = .ok (.isub, 1) := by decide +kernel
theorem dX7_takeWord_40 : decode cX7_takeWord 40 = .ok (.bipush 8, 2) := by decide +kernel
theorem dX7_takeWord_42 : decode cX7_takeWord 42 = .ok (.if_icmp .ge 23, 3) := by decide +kernel
theorem dX7_takeWord_45 : decode cX7_takeWord 45 = .ok (.aload_n 0, 1) := by decide +kernel
theorem dX7_takeWord_46 : decode cX7_takeWord 46 = .ok (.aload_n 0, 1) := by decide +kernel
theorem dX7_takeWord_47 : decode cX7_takeWord 47 = .ok (.getfield 68, 3) := by decide +kernel
theorem dX7_takeWord_50 : decode cX7_takeWord 50 = .ok (.aload_n 0, 1) := by decide +kernel
theorem dX7_takeWord_51 : decode cX7_takeWord 51 = .ok (.getfield 13, 3) := by decide +kernel
theorem dX7_takeWord_54 : decode cX7_takeWord 54 = .ok (.aload_n 0, 1) := by decide +kernel
theorem dX7_takeWord_55 : decode cX7_takeWord 55 = .ok (.getfield 43, 3) := by decide +kernel
theorem dX7_takeWord_58 : decode cX7_takeWord 58 = .ok (.baload, 1) := by decide +kernel
theorem dX7_takeWord_59 : decode cX7_takeWord 59 = .ok (.invokestatic 29, 3) := by decide +kernel
theorem dX7_takeWord_62 : decode cX7_takeWord 62 = .ok (.putfield 68, 3) := by decide +kernel
theorem dX7_takeWord_65 : decode cX7_takeWord 65 = .ok (.aload_n 0, 1) := by decide +kernel
theorem dX7_takeWord_66 : decode cX7_takeWord 66 = .ok (.dup, 1) := by decide +kernel
theorem dX7_takeWord_67 : decode cX7_takeWord 67 = .ok (.getfield 43, 3) := by decide +kernel
theorem dX7_takeWord_70 : decode cX7_takeWord 70 = .ok (.iconst 1, 1) := by decide +kernel
theorem dX7_takeWord_71 : decode cX7_takeWord 71 = .ok (.iadd, 1) := by decide +kernel
theorem dX7_takeWord_72 : decode cX7_takeWord 72 = .ok (.putfield 43, 3) := by decide +kernel
theorem dX7_takeWord_75 : decode cX7_takeWord 75 = .ok (.goto (-70), 3) := by decide +kernel
theorem dX7_takeWord_78 : decode cX7_takeWord 78 = .ok (.aload_n 0, 1) := by decide +kernel
theorem dX7_takeWord_79 : decode cX7_takeWord 79 = .ok (.aload_n 0, 1) := by decide +kernel
theorem dX7_takeWord_80 : decode cX7_takeWord 80 = .ok (.getfield 43, 3) := by decide +kernel
theorem dX7_takeWord_83 : decode cX7_takeWord 83 = .ok (.aload_n 0, 1) := by decide +kernel
theorem dX7_takeWord_84 : decode cX7_takeWord 84 = .ok (.getfield 49, 3) := by decide +kernel
theorem dX7_takeWord_87 : decode cX7_takeWord 87 = .ok (.isub, 1) := by decide +kernel
theorem dX7_takeWord_88 : decode cX7_takeWord 88 = .ok (.bipush 8, 2) := by decide +kernel
theorem dX7_takeWord_90 : decode cX7_takeWord 90 = .ok (.if_icmp .le 8, 3) := by decide +kernel
theorem dX7_takeWord_93 : decode cX7_takeWord 93 = .ok (.bipush 16, 2) := by decide +kernel
theorem dX7_takeWord_95 : decode cX7_takeWord 95 = .ok (.goto 11, 3) := by decide +kernel
theorem dX7_takeWord_98 : decode cX7_takeWord 98 = .ok (.aload_n 0, 1) := by decide +kernel
theorem dX7_takeWord_99 : decode cX7_takeWord 99 = .ok (.aload_n 0, 1) := by decide +kernel
theorem dX7_takeWord_100 : decode cX7_takeWord 100 = .ok (.getfield 68, 3) := by decide +kernel
theorem dX7_takeWord_103 : decode cX7_takeWord 103 = .ok (.invokevirtual 72, 3) := by decide +kernel
theorem dX7_takeWord_106 : decode cX7_takeWord 106 = .ok (.putfield 52, 3) := by decide +kernel
theorem dX7_takeWord_109 : decode cX7_takeWord 109 = .ok (.return_, 1) := by decide +kernel
theorem dX7_takeNumber_0 : decode cX7_takeNumber 0 = .ok (.aload_n 0, 1) := by decide +kernel
theorem dX7_takeNumber_1 : decode cX7_takeNumber 1 = .ok (.iconst 0, 1) := by decide +kernel
theorem dX7_takeNumber_2 : decode cX7_takeNumber 2 = .ok (.putfield 76, 3) := by decide +kernel
theorem dX7_takeNumber_5 : decode cX7_takeNumber 5 = .ok (.aload_n 0, 1) := by decide +kernel
theorem dX7_takeNumber_6 : decode cX7_takeNumber 6 = .ok (.getfield 43, 3) := by decide +kernel
theorem dX7_takeNumber_9 : decode cX7_takeNumber 9 = .ok (.aload_n 0, 1) := by decide +kernel
theorem dX7_takeNumber_10 : decode cX7_takeNumber 10 = .ok (.getfield 39, 3) := by decide +kernel
theorem dX7_takeNumber_13 : decode cX7_takeNumber 13 = .ok (.if_icmp .ge 69, 3) := by decide +kernel
theorem dX7_takeNumber_16 : decode cX7_takeNumber 16 = .ok (.aload_n 0, 1) := by decide +kernel
theorem dX7_takeNumber_17 : decode cX7_takeNumber 17 = .ok (.getfield 13, 3) := by decide +kernel
theorem dX7_takeNumber_20 : decode cX7_takeNumber 20 = .ok (.aload_n 0, 1) := by decide +kernel
theorem dX7_takeNumber_21 : decode cX7_takeNumber 21 = .ok (.getfield 43, 3) := by decide +kernel
theorem dX7_takeNumber_24 : decode cX7_takeNumber 24 = .ok (.baload, 1) := by decide +kernel
theorem dX7_takeNumber_25 : decode cX7_takeNumber 25 = .ok (.invokestatic 62, 3) := by decide +kernel
theorem dX7_takeNumber_28 : decode cX7_takeNumber 28 = .ok (.ifCond .eq 54, 3) := by decide +kernel
theorem dX7_takeNumber_31 : decode cX7_takeNumber 31 = .ok (.aload_n 0, 1) := by decide +kernel
theorem dX7_takeNumber_32 : decode cX7_takeNumber 32 = .ok (.getfield 43, 3) := by decide +kernel
theorem dX7_takeNumber_35 : decode cX7_takeNumber 35 = .ok (.aload_n 0, 1) := by decide +kernel
theorem dX7_takeNumber_36 : decode cX7_takeNumber 36 = .ok (.getfield 49, 3) := by decide +kernel
theorem dX7_takeNumber_39 : decode cX7_takeNumber 39 = .ok (.isub, 1) := by decide +kernel
theorem dX7_takeNumber_40 : decode cX7_takeNumber 40 = .ok (.bipush 8, 2) := by decide +kernel
theorem dX7_takeNumber_42 : decode cX7_takeNumber 42 = .ok (.if_icmp .ge 27, 3) := by decide +kernel
theorem dX7_takeNumber_45 : decode cX7_takeNumber 45 = .ok (.aload_n 0, 1) := by decide +kernel
theorem dX7_takeNumber_46 : decode cX7_takeNumber 46 = .ok (.aload_n 0, 1) := by decide +kernel
theorem dX7_takeNumber_47 : decode cX7_takeNumber 47 = .ok (.getfield 76, 3) := by decide +kernel
theorem dX7_takeNumber_50 : decode cX7_takeNumber 50 = .ok (.bipush 10, 2) := by decide +kernel
theorem dX7_takeNumber_52 : decode cX7_takeNumber 52 = .ok (.imul, 1) := by decide +kernel
theorem dX7_takeNumber_53 : decode cX7_takeNumber 53 = .ok (.aload_n 0, 1) := by decide +kernel
theorem dX7_takeNumber_54 : decode cX7_takeNumber 54 = .ok (.getfield 13, 3) := by decide +kernel
theorem dX7_takeNumber_57 : decode cX7_takeNumber 57 = .ok (.aload_n 0, 1) := by decide +kernel
theorem dX7_takeNumber_58 : decode cX7_takeNumber 58 = .ok (.getfield 43, 3) := by decide +kernel
theorem dX7_takeNumber_61 : decode cX7_takeNumber 61 = .ok (.baload, 1) := by decide +kernel
theorem dX7_takeNumber_62 : decode cX7_takeNumber 62 = .ok (.iadd, 1) := by decide +kernel
theorem dX7_takeNumber_63 : decode cX7_takeNumber 63 = .ok (.bipush 48, 2) := by decide +kernel
theorem dX7_takeNumber_65 : decode cX7_takeNumber 65 = .ok (.isub, 1) := by decide +kernel
theorem dX7_takeNumber_66 : decode cX7_takeNumber 66 = .ok (.putfield 76, 3) := by decide +kernel
theorem dX7_takeNumber_69 : decode cX7_takeNumber 69 = .ok (.aload_n 0, 1) := by decide +kernel
theorem dX7_takeNumber_70 : decode cX7_takeNumber 70 = .ok (.dup, 1) := by decide +kernel
theorem dX7_takeNumber_71 : decode cX7_takeNumber 71 = .ok (.getfield 43, 3) := by decide +kernel
theorem dX7_takeNumber_74 : decode cX7_takeNumber 74 = .ok (.iconst 1, 1) := by decide +kernel
theorem dX7_takeNumber_75 : decode cX7_takeNumber 75 = .ok (.iadd, 1) := by decide +kernel
theorem dX7_takeNumber_76 : decode cX7_takeNumber 76 = .ok (.putfield 43, 3) := by decide +kernel
theorem dX7_takeNumber_79 : decode cX7_takeNumber 79 = .ok (.goto (-74), 3) := by decide +kernel
theorem dX7_takeNumber_82 : decode cX7_takeNumber 82 = .ok (.aload_n 0, 1) := by decide +kernel
theorem dX7_takeNumber_83 : decode cX7_takeNumber 83 = .ok (.aload_n 0, 1) := by decide +kernel
theorem dX7_takeNumber_84 : decode cX7_takeNumber 84 = .ok (.getfield 43, 3) := by decide +kernel
theorem dX7_takeNumber_87 : decode cX7_takeNumber 87 = .ok (.aload_n 0, 1) := by decide +kernel
theorem dX7_takeNumber_88 : decode cX7_takeNumber 88 = .ok (.getfield 49, 3) := by decide +kernel
theorem dX7_takeNumber_91 : decode cX7_takeNumber 91 = .ok (.isub, 1) := by decide +kernel
theorem dX7_takeNumber_92 : decode cX7_takeNumber 92 = .ok (.bipush 8, 2) := by decide +kernel
theorem dX7_takeNumber_94 : decode cX7_takeNumber 94 = .ok (.if_icmp .le 8, 3) := by decide +kernel
theorem dX7_takeNumber_97 : decode cX7_takeNumber 97 = .ok (.bipush 16, 2) := by decide +kernel
theorem dX7_takeNumber_99 : decode cX7_takeNumber 99 = .ok (.goto 5, 3) := by decide +kernel
theorem dX7_takeNumber_102 : decode cX7_takeNumber 102 = .ok (.bipush 13, 2) := by decide +kernel
theorem dX7_takeNumber_104 : decode cX7_takeNumber 104 = .ok (.putfield 52, 3) := by decide +kernel
theorem dX7_takeNumber_107 : decode cX7_takeNumber 107 = .ok (.return_, 1) := by decide +kernel
theorem dX7_kindOf_0 : decode cX7_kindOf 0 = .ok (.iconst 0, 1) := by decide +kernel
theorem dX7_kindOf_1 : decode cX7_kindOf 1 = .ok (.istore_n 3, 1) := by decide +kernel
theorem dX7_kindOf_2 : decode cX7_kindOf 2 = .ok (.iload_n 3, 1) := by decide +kernel
theorem dX7_kindOf_3 : decode cX7_kindOf 3 = .ok (.bipush 12, 2) := by decide +kernel
theorem dX7_kindOf_5 : decode cX7_kindOf 5 = .ok (.if_icmp .ge 22, 3) := by decide +kernel
theorem dX7_kindOf_8 : decode cX7_kindOf 8 = .ok (.aload_n 0, 1) := by decide +kernel
theorem dX7_kindOf_9 : decode cX7_kindOf 9 = .ok (.getfield 9, 3) := by decide +kernel
theorem dX7_kindOf_12 : decode cX7_kindOf 12 = .ok (.iload_n 3, 1) := by decide +kernel
theorem dX7_kindOf_13 : decode cX7_kindOf 13 = .ok (.laload, 1) := by decide +kernel
theorem dX7_kindOf_14 : decode cX7_kindOf 14 = .ok (.lload_n 1, 1) := by decide +kernel
theorem dX7_kindOf_15 : decode cX7_kindOf 15 = .ok (.lcmp, 1) := by decide +kernel
theorem dX7_kindOf_16 : decode cX7_kindOf 16 = .ok (.ifCond .ne 5, 3) := by decide +kernel
theorem dX7_kindOf_19 : decode cX7_kindOf 19 = .ok (.iload_n 3, 1) := by decide +kernel
theorem dX7_kindOf_20 : decode cX7_kindOf 20 = .ok (.ireturn, 1) := by decide +kernel
theorem dX7_kindOf_21 : decode cX7_kindOf 21 = .ok (.iinc 3 1, 3) := by decide +kernel
theorem dX7_kindOf_24 : decode cX7_kindOf 24 = .ok (.goto (-22), 3) := by decide +kernel
theorem dX7_kindOf_27 : decode cX7_kindOf 27 = .ok (.bipush 12, 2) := by decide +kernel
theorem dX7_kindOf_29 : decode cX7_kindOf 29 = .ok (.ireturn, 1) := by decide +kernel
theorem dX7_withLetter_0 : decode cX7_withLetter 0 = .ok (.lload_n 0, 1) := by decide +kernel
theorem dX7_withLetter_1 : decode cX7_withLetter 1 = .ok (.ldc2_w 79, 3) := by decide +kernel
theorem dX7_withLetter_4 : decode cX7_withLetter 4 = .ok (.lmul, 1) := by decide +kernel
theorem dX7_withLetter_5 : decode cX7_withLetter 5 = .ok (.iload_n 2, 1) := by decide +kernel
theorem dX7_withLetter_6 : decode cX7_withLetter 6 = .ok (.i2l, 1) := by decide +kernel
theorem dX7_withLetter_7 : decode cX7_withLetter 7 = .ok (.ladd, 1) := by decide +kernel
theorem dX7_withLetter_8 : decode cX7_withLetter 8 = .ok (.ldc2_w 81, 3) := by decide +kernel
theorem dX7_withLetter_11 : decode cX7_withLetter 11 = .ok (.lsub, 1) := by decide +kernel
theorem dX7_withLetter_12 : decode cX7_withLetter 12 = .ok (.lconst 1, 1) := by decide +kernel
theorem dX7_withLetter_13 : decode cX7_withLetter 13 = .ok (.ladd, 1) := by decide +kernel
theorem dX7_withLetter_14 : decode cX7_withLetter 14 = .ok (.lreturn, 1) := by decide +kernel
theorem dX7_isLetter_0 : decode cX7_isLetter 0 = .ok (.iload_n 0, 1) := by decide +kernel
theorem dX7_isLetter_1 : decode cX7_isLetter 1 = .ok (.bipush 97, 2) := by decide +kernel
theorem dX7_isLetter_3 : decode cX7_isLetter 3 = .ok (.if_icmp .lt 13, 3) := by decide +kernel
theorem dX7_isLetter_6 : decode cX7_isLetter 6 = .ok (.iload_n 0, 1) := by decide +kernel
theorem dX7_isLetter_7 : decode cX7_isLetter 7 = .ok (.bipush 122, 2) := by decide +kernel
theorem dX7_isLetter_9 : decode cX7_isLetter 9 = .ok (.if_icmp .gt 7, 3) := by decide +kernel
theorem dX7_isLetter_12 : decode cX7_isLetter 12 = .ok (.iconst 1, 1) := by decide +kernel
theorem dX7_isLetter_13 : decode cX7_isLetter 13 = .ok (.goto 4, 3) := by decide +kernel
theorem dX7_isLetter_16 : decode cX7_isLetter 16 = .ok (.iconst 0, 1) := by decide +kernel
theorem dX7_isLetter_17 : decode cX7_isLetter 17 = .ok (.ireturn, 1) := by decide +kernel
theorem dX7_isDigit_0 : decode cX7_isDigit 0 = .ok (.iload_n 0, 1) := by decide +kernel
theorem dX7_isDigit_1 : decode cX7_isDigit 1 = .ok (.bipush 48, 2) := by decide +kernel
theorem dX7_isDigit_3 : decode cX7_isDigit 3 = .ok (.if_icmp .lt 13, 3) := by decide +kernel
theorem dX7_isDigit_6 : decode cX7_isDigit 6 = .ok (.iload_n 0, 1) := by decide +kernel
theorem dX7_isDigit_7 : decode cX7_isDigit 7 = .ok (.bipush 57, 2) := by decide +kernel
theorem dX7_isDigit_9 : decode cX7_isDigit 9 = .ok (.if_icmp .gt 7, 3) := by decide +kernel
theorem dX7_isDigit_12 : decode cX7_isDigit 12 = .ok (.iconst 1, 1) := by decide +kernel
theorem dX7_isDigit_13 : decode cX7_isDigit 13 = .ok (.goto 4, 3) := by decide +kernel
theorem dX7_isDigit_16 : decode cX7_isDigit 16 = .ok (.iconst 0, 1) := by decide +kernel
theorem dX7_isDigit_17 : decode cX7_isDigit 17 = .ok (.ireturn, 1) := by decide +kernel
theorem qw_60 : (Cond.constantLong RX7 79 (32) : Cond) ∈ TBL := List.mem_of_getElem? (i := 116) (by decide +kernel)
theorem qw_61 : (Cond.constantLong RX7 81 (97) : Cond) ∈ TBL := List.mem_of_getElem? (i := 117) (by decide +kernel)
theorem qw_62 : (Cond.fieldLink RX7 9 "ClosedUntil$Tokens" "keywords" "[J" : Cond) ∈ TBL := List.mem_of_getElem? (i := 62) (by decide +kernel)
theorem qw_63 : (Cond.fieldLink RX7 76 "ClosedUntil$Tokens" "number" "I" : Cond) ∈ TBL := List.mem_of_getElem? (i := 261) (by decide +kernel)
theorem qw_64 : (Cond.fieldLink RX7 43 "ClosedUntil$Tokens" "at" "I" : Cond) ∈ TBL := List.mem_of_getElem? (i := 235) (by decide +kernel)
theorem qw_65 : (Cond.fieldLink RX7 39 "ClosedUntil$Tokens" "end" "I" : Cond) ∈ TBL := List.mem_of_getElem? (i := 234) (by decide +kernel)
theorem qw_66 : (Cond.fieldLink RX7 49 "ClosedUntil$Tokens" "place" "I" : Cond) ∈ TBL := List.mem_of_getElem? (i := 240) (by decide +kernel)
theorem qw_67 : (Cond.fieldLink RX7 52 "ClosedUntil$Tokens" "kind" "I" : Cond) ∈ TBL := List.mem_of_getElem? (i := 241) (by decide +kernel)
theorem qw_68 : (Cond.fieldLink RX7 13 "ClosedUntil$Tokens" "bytes" "[B" : Cond) ∈ TBL := List.mem_of_getElem? (i := 63) (by decide +kernel)
theorem qw_69 : (Cond.code yX7_isDigit cX7_isDigit 1 (some .boolean) : Cond) ∈ TBL := List.mem_of_getElem? (i := 256) (by decide +kernel)
theorem qw_70 : (Cond.initialized RX7 : Cond) ∈ TBL := List.mem_of_getElem? (i := 53) (by decide +kernel)
theorem qw_71 : (Cond.methodLink RX7 62 yX7_isDigit : Cond) ∈ TBL := List.mem_of_getElem? (i := 254) (by decide +kernel)
theorem qw_72 : (Cond.static yX7_isDigit : Cond) ∈ TBL := List.mem_of_getElem? (i := 255) (by decide +kernel)
theorem qw_73 : (Cond.fieldLink RX7 68 "ClosedUntil$Tokens" "word" "J" : Cond) ∈ TBL := List.mem_of_getElem? (i := 249) (by decide +kernel)
theorem qw_74 : (Cond.code yX7_kindOf cX7_kindOf 4 (some .int) : Cond) ∈ TBL := List.mem_of_getElem? (i := 253) (by decide +kernel)
theorem qw_75 : (Cond.methodLink RX7 72 yX7_kindOf : Cond) ∈ TBL := List.mem_of_getElem? (i := 250) (by decide +kernel)
theorem qw_76 : (Cond.instanceMethod yX7_kindOf : Cond) ∈ TBL := List.mem_of_getElem? (i := 251) (by decide +kernel)
theorem qw_77 : (Cond.selects RX7 yX7_kindOf yX7_kindOf : Cond) ∈ TBL := List.mem_of_getElem? (i := 252) (by decide +kernel)
theorem qw_78 : (Cond.code yX7_isLetter cX7_isLetter 1 (some .boolean) : Cond) ∈ TBL := List.mem_of_getElem? (i := 244) (by decide +kernel)
theorem qw_79 : (Cond.methodLink RX7 55 yX7_isLetter : Cond) ∈ TBL := List.mem_of_getElem? (i := 242) (by decide +kernel)
theorem qw_80 : (Cond.static yX7_isLetter : Cond) ∈ TBL := List.mem_of_getElem? (i := 243) (by decide +kernel)
theorem qw_81 : (Cond.code yX7_withLetter cX7_withLetter 3 (some .long) : Cond) ∈ TBL := List.mem_of_getElem? (i := 115) (by decide +kernel)
theorem qw_82 : (Cond.methodLink RX7 29 yX7_withLetter : Cond) ∈ TBL := List.mem_of_getElem? (i := 113) (by decide +kernel)
theorem qw_83 : (Cond.static yX7_withLetter : Cond) ∈ TBL := List.mem_of_getElem? (i := 114) (by decide +kernel)
theorem qw_84 : (Cond.code yX7_takeNumber cX7_takeNumber 1 none : Cond) ∈ TBL := List.mem_of_getElem? (i := 260) (by decide +kernel)
theorem qw_85 : (Cond.methodLink RX7 65 yX7_takeNumber : Cond) ∈ TBL := List.mem_of_getElem? (i := 257) (by decide +kernel)
theorem qw_86 : (Cond.instanceMethod yX7_takeNumber : Cond) ∈ TBL := List.mem_of_getElem? (i := 258) (by decide +kernel)
theorem qw_87 : (Cond.selects RX7 yX7_takeNumber yX7_takeNumber : Cond) ∈ TBL := List.mem_of_getElem? (i := 259) (by decide +kernel)
theorem qw_88 : (Cond.code yX7_takeWord cX7_takeWord 1 none : Cond) ∈ TBL := List.mem_of_getElem? (i := 248) (by decide +kernel)
theorem qw_89 : (Cond.methodLink RX7 59 yX7_takeWord : Cond) ∈ TBL := List.mem_of_getElem? (i := 245) (by decide +kernel)
theorem qw_90 : (Cond.instanceMethod yX7_takeWord : Cond) ∈ TBL := List.mem_of_getElem? (i := 246) (by decide +kernel)
theorem qw_91 : (Cond.selects RX7 yX7_takeWord yX7_takeWord : Cond) ∈ TBL := List.mem_of_getElem? (i := 247) (by decide +kernel)
theorem qw_92 : (Cond.methodLink RX7 33 Lib.Math.min.name : Cond) ∈ TBL := List.mem_of_getElem? (i := 230) (by decide +kernel)
theorem qw_93 : (Cond.code yX7_advance cX7_advance 1 none : Cond) ∈ TBL := List.mem_of_getElem? (i := 239) (by decide +kernel)
theorem qw_94 : (Cond.methodLink RX7 46 yX7_advance : Cond) ∈ TBL := List.mem_of_getElem? (i := 236) (by decide +kernel)
theorem qw_95 : (Cond.instanceMethod yX7_advance : Cond) ∈ TBL := List.mem_of_getElem? (i := 237) (by decide +kernel)
theorem qw_96 : (Cond.selects RX7 yX7_advance yX7_advance : Cond) ∈ TBL := List.mem_of_getElem? (i := 238) (by decide +kernel)
theorem rgL3_619f1f5 {c0 c1 c2 : Nat × va_E} : (([c0, c1, c2] : va_W))[0]? = some c0 := rfl
theorem rgS3_dd231b9 {A : Nat → Prop} {D : va_G} {cl : List vw_C} {H : Heap} {c0 c1 c2 : Nat × va_E} {d e : Nat × va_E} (hP : va_P D cl (([c0, c1, c2]).set 0 d) H) (hD : va_D A (([c0, c1, c2]).set 0 d)) (h : d = e) : va_P D cl ([e, c1, c2]) H ∧ va_D A ([e, c1, c2]) := by subst h; exact ⟨hP, hD⟩
theorem rgP3_dd6138b {D : va_G} {cl : List vw_C} {H : Heap} {c0 c1 c2 : Nat × va_E} (h : va_P D cl ([c0, c1, c2]) H) : va_P D cl ([c0, c1]) H := h.sub (ws' := [c0, c1]) [0, 1] rfl
theorem rgK2_58023b0 {D : va_G} {cl : List vw_C} {U : State} {t0 t1 : ClassId × FieldType} (h : va_K D cl [t0, t1] U) : va_K D cl [t0] U := h.sub (tys' := [t0]) [0] rfl
theorem rgK2_b4df2fa {D : va_G} {cl : List vw_C} {U : State} {t0 t1 : ClassId × FieldType} (h : va_K D cl [t0, t1] U) : va_K D cl [] U := h.sub (tys' := []) [] rfl
theorem rgL3_2e0c0f7 {c0 c1 c2 : Nat × va_E} : (([c0, c1, c2] : va_W))[2]? = some c2 := rfl
theorem rgT2_d592b55 {t0 t1 : ClassId × FieldType} : (([t0, t1] : List (ClassId × FieldType)))[1]? = some t1 := rfl
theorem rgP3_953bfe7 {D : va_G} {cl : List vw_C} {H : Heap} {c0 c1 c2 : Nat × va_E} (h : va_P D cl ([c0, c1, c2]) H) : va_P D cl ([]) H := h.sub (ws' := []) [] rfl
theorem rgP3_e9f0f62 {D : va_G} {cl : List vw_C} {H : Heap} {c0 c1 c2 : Nat × va_E} (h : va_P D cl ([c0, c1, c2]) H) : va_P D cl ([c0, c2]) H := h.sub (ws' := [c0, c2]) [0, 2] rfl
theorem rgK2_f44ed73 {D : va_G} {cl : List vw_C} {U : State} {t0 t1 : ClassId × FieldType} (h : va_K D cl [t0, t1] U) : va_K D cl [t1] U := h.sub (tys' := [t1]) [1] rfl
theorem rgD3_bf75713 {A : Nat → Prop} {c0 c1 c2 : Nat × va_E} (h : va_D A ([c0, c1, c2])) : va_D A ([c0, c2]) := h.sub (ws' := [c0, c2]) [0, 2] (by decide +kernel) rfl
theorem rgJ3_839d91f {A0 : Nat → Prop} {D : va_G} {cl : List vw_C} {H H1 : Heap} {c0 c1 c2 : Nat × va_E} {d0 d1 : Nat × va_E} (hP : va_P D cl ([c0, c1, c2]) H) (hD : va_D A0 ([c0, c1, c2])) (hk : ∀ q : Nat, q < H.size → ¬ va_A ([c0, c2]) H.size q → H1[q]? = H[q]?) (hF : ∀ q, va_A ([c0, c2]) H.size q → A0 q) (hP1 : va_P D cl ([d0, d1]) H1) (hD1 : va_D (va_A ([c0, c2]) H.size) ([d0, d1])) : va_P D cl ([d0, c1, d1]) H1 ∧ va_D A0 ([d0, c1, d1]) := by
  obtain ⟨h1, h2⟩ := va_join (ws := [c0, c1, c2]) (wc := [c0, c2]) (wr := [c1]) (w1 := [d0, d1]) hP hD [0, 2] [1] rfl rfl (by decide +kernel) (by decide +kernel) hk hF hP1 hD1
  exact ⟨va_P.sub (ws := [c1, d0, d1]) (ws' := [d0, c1, d1]) h1 [1, 0, 2] rfl, va_D.sub (ws := [c1, d0, d1]) (ws' := [d0, c1, d1]) h2 [1, 0, 2] (by decide +kernel) rfl⟩
theorem rgJ3_bf26f92 {A0 : Nat → Prop} {D : va_G} {cl : List vw_C} {H H1 : Heap} {c0 c1 c2 : Nat × va_E} {d0 d1 d2 : Nat × va_E} (hP : va_P D cl ([c0, c1, c2]) H) (hD : va_D A0 ([c0, c1, c2])) (hk : ∀ q : Nat, q < H.size → ¬ va_A ([c0, c1, c2]) H.size q → H1[q]? = H[q]?) (hF : ∀ q, va_A ([c0, c1, c2]) H.size q → A0 q) (hP1 : va_P D cl ([d0, d1, d2]) H1) (hD1 : va_D (va_A ([c0, c1, c2]) H.size) ([d0, d1, d2])) : va_P D cl ([d0, d1, d2]) H1 ∧ va_D A0 ([d0, d1, d2]) := by
  obtain ⟨h1, h2⟩ := va_join (ws := [c0, c1, c2]) (wc := [c0, c1, c2]) (wr := []) (w1 := [d0, d1, d2]) hP hD [0, 1, 2] [] rfl rfl (by decide +kernel) (by decide +kernel) hk hF hP1 hD1
  exact ⟨va_P.sub (ws := [d0, d1, d2]) (ws' := [d0, d1, d2]) h1 [0, 1, 2] rfl, va_D.sub (ws := [d0, d1, d2]) (ws' := [d0, d1, d2]) h2 [0, 1, 2] (by decide +kernel) rfl⟩
set_option maxHeartbeats 4000000 in
set_option maxRecDepth 100000 in
theorem k_X7_isDigit (l : Launch) (dC : Nat → ClassId) (dI : Nat → Nat → Nat) (g : Gv) (a0 : Int32)  : Met l yX7_isDigit (.code yX7_isDigit cX7_isDigit 1 (some .boolean) :: TBL) ({ frames := 0, cells := 0, slots := 0, locals := 0 }) (va_Pc [.int a0] (fun U => va_P (dC, dI) vwCl [] U.heap ∧ va_K (dC, dI) vwCl [] U ∧ Ev g (fun _ => False) U)) (vp_Si (fun (r : Int32) => (r = 0 ∨ r = 1))) 0 0 (fun _ => False) := by
  refine Met.ofW (cc := cX7_isDigit) (maxL := 1) (ret := (some .boolean)) (by decide) rfl ?_
  intro p e s m args below meth c s₁ B hml hv
  obtain ⟨rfl, hP, hK, hE⟩ := hv
  have hx := B.exec
  have hb := B.bytes
  have hr := B.returns
  have hts0 := atoms_spec (ws := (.code yX7_isDigit cX7_isDigit 1 (some .boolean) :: TBL)) B.pre
  have hts := fun (w : Cond) (h : w ∈ TBL) => hts0 w (List.mem_cons_of_mem _ h)
  have hown : s.vm.findClass RX7 = some m.cls := findClass_of_methodNamed B.named
  have hlocks := B.notSynchronized
  have hN := hE.1
  have hS : va_S (fun _ => False) s.heap s.heap [] := va_S.rf
  replace hP : va_P (dC, dI) vwCl [] s.heap := hP
  have hl := lv_entry ([.int a0]) (n := 1) (Nat.le_of_ble_eq_true rfl)
  rw [lg_entry_eq]
  generalize (lg_sl ([.int a0]) ++ List.replicate (1 - (lg_sl ([.int a0])).length) Slot.unset).toArray = ls at hl ⊢
  have hl : lv_has ls 1 [(0, .int a0)] := hl
  have b_a0 := i32b a0
  refine lv_iload_n hx hb dX7_isDigit_0 rfl (lv_at hl 0 rfl) ?_
  refine lv_bipush (v := 48) hx hb dX7_isDigit_1 (by decide) ?_
  refine lv_icmp_lt (tgt := 16) hx hb dX7_isDigit_3 (by decide) (fun c3_1 => ?_) (fun c3_1 => ?_)
  · have c3_1 : a0.toInt < 48 := (cv_lt rfl (by decide)).mp c3_1
    refine lv_iconst (v := 0) hx hb dX7_isDigit_16 (by decide) ?_
    exact W.zret (v := 0) hx hb hr rfl (fun t ht hW => ⟨0, rfl, (by decide), ht⟩) (fun _ h => absurd h List.not_mem_nil) dX7_isDigit_17
  · have c3_1 : ¬ (a0.toInt < 48) := mt (cv_lt rfl (by decide)).mpr c3_1
    refine lv_iload_n hx hb dX7_isDigit_6 rfl (lv_at hl 0 rfl) ?_
    refine lv_bipush (v := 57) hx hb dX7_isDigit_7 (by decide) ?_
    refine lv_icmp_gt (tgt := 16) hx hb dX7_isDigit_9 (by decide) (fun c9_2 => ?_) (fun c9_2 => ?_)
    · have c9_2 : 57 < a0.toInt := (cv_lt (by decide) rfl).mp c9_2
      refine lv_iconst (v := 0) hx hb dX7_isDigit_16 (by decide) ?_
      exact W.zret (v := 0) hx hb hr rfl (fun t ht hW => ⟨0, rfl, (by decide), ht⟩) (fun _ h => absurd h List.not_mem_nil) dX7_isDigit_17
    · have c9_2 : ¬ (57 < a0.toInt) := mt (cv_lt (by decide) rfl).mpr c9_2
      refine lv_iconst (v := 1) hx hb dX7_isDigit_12 (by decide) ?_
      refine lv_goto (tgt := 17) hx hb dX7_isDigit_13 (by decide) ?_
      exact W.zret (v := 1) hx hb hr rfl (fun t ht hW => ⟨1, rfl, (by decide), ht⟩) (fun _ h => absurd h List.not_mem_nil) dX7_isDigit_17
set_option maxHeartbeats 4000000 in
set_option maxRecDepth 100000 in
theorem k_X7_isLetter (l : Launch) (dC : Nat → ClassId) (dI : Nat → Nat → Nat) (g : Gv) (a0 : Int32)  : Met l yX7_isLetter (.code yX7_isLetter cX7_isLetter 1 (some .boolean) :: TBL) ({ frames := 0, cells := 0, slots := 0, locals := 0 }) (va_Pc [.int a0] (fun U => va_P (dC, dI) vwCl [] U.heap ∧ va_K (dC, dI) vwCl [] U ∧ Ev g (fun _ => False) U)) (vp_Si (fun (r : Int32) => (r = 0 ∨ r = 1))) 0 0 (fun _ => False) := by
  refine Met.ofW (cc := cX7_isLetter) (maxL := 1) (ret := (some .boolean)) (by decide) rfl ?_
  intro p e s m args below meth c s₁ B hml hv
  obtain ⟨rfl, hP, hK, hE⟩ := hv
  have hx := B.exec
  have hb := B.bytes
  have hr := B.returns
  have hts0 := atoms_spec (ws := (.code yX7_isLetter cX7_isLetter 1 (some .boolean) :: TBL)) B.pre
  have hts := fun (w : Cond) (h : w ∈ TBL) => hts0 w (List.mem_cons_of_mem _ h)
  have hown : s.vm.findClass RX7 = some m.cls := findClass_of_methodNamed B.named
  have hlocks := B.notSynchronized
  have hN := hE.1
  have hS : va_S (fun _ => False) s.heap s.heap [] := va_S.rf
  replace hP : va_P (dC, dI) vwCl [] s.heap := hP
  have hl := lv_entry ([.int a0]) (n := 1) (Nat.le_of_ble_eq_true rfl)
  rw [lg_entry_eq]
  generalize (lg_sl ([.int a0]) ++ List.replicate (1 - (lg_sl ([.int a0])).length) Slot.unset).toArray = ls at hl ⊢
  have hl : lv_has ls 1 [(0, .int a0)] := hl
  have b_a0 := i32b a0
  refine lv_iload_n hx hb dX7_isLetter_0 rfl (lv_at hl 0 rfl) ?_
  refine lv_bipush (v := 97) hx hb dX7_isLetter_1 (by decide) ?_
  refine lv_icmp_lt (tgt := 16) hx hb dX7_isLetter_3 (by decide) (fun c3_1 => ?_) (fun c3_1 => ?_)
  · have c3_1 : a0.toInt < 97 := (cv_lt rfl (by decide)).mp c3_1
    refine lv_iconst (v := 0) hx hb dX7_isLetter_16 (by decide) ?_
    exact W.zret (v := 0) hx hb hr rfl (fun t ht hW => ⟨0, rfl, (by decide), ht⟩) (fun _ h => absurd h List.not_mem_nil) dX7_isLetter_17
  · have c3_1 : ¬ (a0.toInt < 97) := mt (cv_lt rfl (by decide)).mpr c3_1
    refine lv_iload_n hx hb dX7_isLetter_6 rfl (lv_at hl 0 rfl) ?_
    refine lv_bipush (v := 122) hx hb dX7_isLetter_7 (by decide) ?_
    refine lv_icmp_gt (tgt := 16) hx hb dX7_isLetter_9 (by decide) (fun c9_2 => ?_) (fun c9_2 => ?_)
    · have c9_2 : 122 < a0.toInt := (cv_lt (by decide) rfl).mp c9_2
      refine lv_iconst (v := 0) hx hb dX7_isLetter_16 (by decide) ?_
      exact W.zret (v := 0) hx hb hr rfl (fun t ht hW => ⟨0, rfl, (by decide), ht⟩) (fun _ h => absurd h List.not_mem_nil) dX7_isLetter_17
    · have c9_2 : ¬ (122 < a0.toInt) := mt (cv_lt (by decide) rfl).mpr c9_2
      refine lv_iconst (v := 1) hx hb dX7_isLetter_12 (by decide) ?_
      refine lv_goto (tgt := 17) hx hb dX7_isLetter_13 (by decide) ?_
      exact W.zret (v := 1) hx hb hr rfl (fun t ht hW => ⟨1, rfl, (by decide), ht⟩) (fun _ h => absurd h List.not_mem_nil) dX7_isLetter_17
set_option maxHeartbeats 4000000 in
set_option maxRecDepth 100000 in
theorem k_X7_withLetter (l : Launch) (dC : Nat → ClassId) (dI : Nat → Nat → Nat) (g : Gv) (a0 : Int64) (a1 : Int32)  : Met l yX7_withLetter (.code yX7_withLetter cX7_withLetter 3 (some .long) :: TBL) ({ frames := 0, cells := 0, slots := 0, locals := 0 }) (va_Pc [.long a0, .int a1] (fun U => va_P (dC, dI) vwCl [] U.heap ∧ va_K (dC, dI) vwCl [] U ∧ Ev g (fun _ => False) U)) (vp_Sl (fun (r : Int64) => True)) 0 0 (fun _ => False) := by
  refine Met.ofW (cc := cX7_withLetter) (maxL := 3) (ret := (some .long)) (by decide) rfl ?_
  intro p e s m args below meth c s₁ B hml hv
  obtain ⟨rfl, hP, hK, hE⟩ := hv
  have hx := B.exec
  have hb := B.bytes
  have hr := B.returns
  have hts0 := atoms_spec (ws := (.code yX7_withLetter cX7_withLetter 3 (some .long) :: TBL)) B.pre
  have hts := fun (w : Cond) (h : w ∈ TBL) => hts0 w (List.mem_cons_of_mem _ h)
  have hown : s.vm.findClass RX7 = some m.cls := findClass_of_methodNamed B.named
  have hlocks := B.notSynchronized
  have hN := hE.1
  have hS : va_S (fun _ => False) s.heap s.heap [] := va_S.rf
  replace hP : va_P (dC, dI) vwCl [] s.heap := hP
  have hl := lv_entry ([.long a0, .int a1]) (n := 3) (Nat.le_of_ble_eq_true rfl)
  rw [lg_entry_eq]
  generalize (lg_sl ([.long a0, .int a1]) ++ List.replicate (3 - (lg_sl ([.long a0, .int a1])).length) Slot.unset).toArray = ls at hl ⊢
  have hl : lv_has ls 3 [(0, .long a0), (2, .int a1)] := hl
  have b_a1 := i32b a1
  refine lv_lload_n hx hb dX7_withLetter_0 rfl (lv_at hl 0 rfl) ?_
  refine lv_ldc2 (v := 32) hx hb hown (hts (.constantLong RX7 79 (32)) qw_60) dX7_withLetter_1 ?_
  refine lv_lmul hx hb dX7_withLetter_4 ?_
  refine lv_topl (fun x1 e_x1 => ?_)
  refine lv_iload_n hx hb dX7_withLetter_5 rfl (lv_at hl 1 rfl) ?_
  refine lv_i2l hx hb dX7_withLetter_6 rfl ?_
  refine lv_ladd hx hb dX7_withLetter_7 ?_
  refine lv_topl (fun x2 e_x2 => ?_)
  refine lv_ldc2 (v := 97) hx hb hown (hts (.constantLong RX7 81 (97)) qw_61) dX7_withLetter_8 ?_
  refine lv_lsub hx hb dX7_withLetter_11 ?_
  refine lv_topl (fun x3 e_x3 => ?_)
  refine lv_lconst (v := 1) hx hb dX7_withLetter_12 (by decide) ?_
  refine lv_ladd hx hb dX7_withLetter_13 ?_
  refine lv_topl (fun x4 e_x4 => ?_)
  exact W.lret (v := x4) hx hb hr (fun t ht hW => ⟨x4, rfl, trivial, ht⟩) (fun _ h => absurd h List.not_mem_nil) dX7_withLetter_14
set_option maxHeartbeats 4000000 in
set_option maxRecDepth 100000 in
theorem k_X7_kindOf (l : Launch) (dC : Nat → ClassId) (dI : Nat → Nat → Nat) (g : Gv) (a0 : Nat) (a1 : Int64) (a0_0 : Nat) (a0_1 : Nat) (a0_2 : Int32) (a0_3 : Int32) (a0_4 : Int32) (a0_5 : Int32) (a0_6 : Int64) (a0_7 : Int32) (a0_0_c : ClassId) (a0_0_f : Nat → Int64) (h_a0_2 : 0 ≤ a0_2.toInt ∧ a0_2.toInt ≤ 1000) (h_a0_3 : 0 ≤ a0_3.toInt ∧ a0_3.toInt ≤ 1000) (h_a0_5 : 0 ≤ a0_5.toInt ∧ a0_5.toInt ≤ 1000) : Met l yX7_kindOf (.code yX7_kindOf cX7_kindOf 4 (some .int) :: TBL) ({ frames := 0, cells := 0, slots := 0, locals := 0 }) (va_Pc [.ref a0, .long a1] (fun U => va_P (dC, dI) vwCl [(a0, .inr (6, [.ref a0_0, .ref a0_1, .int a0_2, .int a0_3, .int a0_4, .int a0_5, .long a0_6, .int a0_7])), (a0_0, .inl (a0_0_c, 12, .inr (.inl a0_0_f)))] U.heap ∧ va_K (dC, dI) vwCl [(a0_0_c, .long)] U ∧ Ev g (fun _ => False) U)) (vp_Si (fun (r : Int32) => True)) 0 0 (fun _ => False) := by
  refine Met.ofW (cc := cX7_kindOf) (maxL := 4) (ret := (some .int)) (by decide) rfl ?_
  intro p e s m args below meth c s₁ B hml hv
  obtain ⟨rfl, hP, hK, hE⟩ := hv
  have hx := B.exec
  have hb := B.bytes
  have hr := B.returns
  have hts0 := atoms_spec (ws := (.code yX7_kindOf cX7_kindOf 4 (some .int) :: TBL)) B.pre
  have hts := fun (w : Cond) (h : w ∈ TBL) => hts0 w (List.mem_cons_of_mem _ h)
  have hown : s.vm.findClass RX7 = some m.cls := findClass_of_methodNamed B.named
  have hlocks := B.notSynchronized
  have hN := hE.1
  have hS : va_S (fun _ => False) s.heap s.heap [] := va_S.rf
  replace hP : va_P (dC, dI) vwCl [(a0, .inr (6, [.ref a0_0, .ref a0_1, .int a0_2, .int a0_3, .int a0_4, .int a0_5, .long a0_6, .int a0_7])), (a0_0, .inl (a0_0_c, 12, .inr (.inl a0_0_f)))] s.heap := hP
  have hl := lv_entry ([.ref a0, .long a1]) (n := 4) (Nat.le_of_ble_eq_true rfl)
  rw [lg_entry_eq]
  generalize (lg_sl ([.ref a0, .long a1]) ++ List.replicate (4 - (lg_sl ([.ref a0, .long a1])).length) Slot.unset).toArray = ls at hl ⊢
  have hl : lv_has ls 4 [(0, .ref a0), (1, .long a1)] := hl
  have b_a0_4 := i32b a0_4
  have b_a0_7 := i32b a0_7
  refine lv_iconst (v := 0) hx hb dX7_kindOf_0 (by decide) ?_
  refine lv_istore_n (lv' := [(3, .int 0), (0, .ref a0), (1, .long a1)]) hx hb dX7_kindOf_1 rfl hl (by decide) rfl (fun ls hl => ?_)
  have qc0 : (0 : Int32).toInt = 0 := by decide
  refine wloop (fun n H locs ls => ∃ (l2_3 : Int32), n = (2147483647 - l2_3.toInt).toNat ∧ (0 ≤ l2_3.toInt) ∧ lv_has ls 4 [(3, .int l2_3), (0, .ref a0), (1, .long a1)] ∧ H = s.heap ∧ locs = []) ?_ ((2147483647 - (0 : Int32).toInt).toNat) _ _ _ ⟨0, rfl, (by omega), lv_sub hl [0, 1, 2] rfl, rfl, rfl⟩
  intro n2 H locs ls hI ih2
  obtain ⟨l2_3, hn2, g_l2_3, hl, rfl, rfl⟩ := hI
  have b_l2_3 := i32b l2_3
  refine lv_iload_n hx hb dX7_kindOf_2 rfl (lv_at hl 0 rfl) ?_
  refine lv_bipush (v := 12) hx hb dX7_kindOf_3 (by decide) ?_
  refine lv_icmp_ge (tgt := 27) hx hb dX7_kindOf_5 (by decide) (fun c5_1 => ?_) (fun c5_1 => ?_)
  · have c5_1 : 12 ≤ l2_3.toInt := (cv_le (by decide) rfl).mp c5_1
    refine lv_bipush (v := 12) hx hb dX7_kindOf_27 (by decide) ?_
    exact W.iret (v := 12) hx hb hr (fun t ht hW => ⟨12, rfl, trivial, ht⟩) (fun _ h => absurd h List.not_mem_nil) dX7_kindOf_29
  · have c5_1 : ¬ (12 ≤ l2_3.toInt) := mt (cv_le (by decide) rfl).mpr c5_1
    refine lv_aload_n hx hb dX7_kindOf_8 rfl (lv_at hl 1 rfl) ?_
    refine va_get (D := (dC, dI)) (ci := 6) (v := .ref a0_0) (C := RX7) (T := TX7) (N := 8) hx hb hts inlX7 hown hK hP 0 rgL2_5ac5f51 rfl 0 (by decide) (hts (.fieldLink RX7 9 "ClosedUntil$Tokens" "keywords" "[J") qw_62) (fun _ h9 => h9) rfl dX7_kindOf_9 ?_
    refine lv_iload_n hx hb dX7_kindOf_12 rfl (lv_at hl 0 rfl) ?_
    refine va_lald hx hb hK hP 1 0 rgL2_906ef0f rgT1_bb00d73 (vinI (by omega) (by omega)) dX7_kindOf_13 ?_
    refine lv_topl (fun x2 e_x2 => ?_)
    refine lv_lload_n hx hb dX7_kindOf_14 rfl (lv_at hl 2 rfl) ?_
    refine W.lcmp hx hb dX7_kindOf_15 ?_
    refine lv_topi (fun x3 e_x3 => ?_)
    refine lv_if_ne (tgt := 21) hx hb dX7_kindOf_16 (by decide) (fun c16_4 => ?_) (fun c16_4 => ?_)
    · have c16_4 : ¬ (x3.toInt = 0) := mt (cv_eq rfl (by decide)).mpr c16_4
      obtain ⟨x5, e_x5⟩ : ∃ y : Int32, y = l2_3 + 1 := ⟨_, rfl⟩
      refine lv_iinc (v := x5) (lv' := [(3, .int x5), (0, .ref a0), (1, .long a1)]) hx hb dX7_kindOf_21 hl (k := 0) rfl (by rw [e_x5]; rfl) (by decide) rfl (fun ls hl => ?_)
      try have e_x5 := ti_add e_x5 rfl (show (1 : Int32).toInt = 1 by decide) (by omega)
      refine lv_goto (tgt := 2) hx hb dX7_kindOf_24 (by decide) ?_
      exact ih2 ((2147483647 - x5.toInt).toNat) _ _ _ (by omega) ⟨x5, rfl, (by omega), lv_sub hl [0, 1, 2] rfl, rfl, rfl⟩
    · have c16_4 : x3.toInt = 0 := (cv_eq rfl (by decide)).mp c16_4
      refine lv_iload_n hx hb dX7_kindOf_19 rfl (lv_at hl 0 rfl) ?_
      exact W.iret (v := l2_3) hx hb hr (fun t ht hW => ⟨l2_3, rfl, trivial, ht⟩) (fun _ h => absurd h List.not_mem_nil) dX7_kindOf_20
set_option maxHeartbeats 4000000 in
set_option maxRecDepth 100000 in
theorem k_X7_takeNumber (l : Launch) (dC : Nat → ClassId) (dI : Nat → Nat → Nat) (g : Gv) (sz : Nat) (a0 : Nat) (a0_0 : Nat) (a0_1 : Nat) (a0_2 : Int32) (a0_3 : Int32) (a0_4 : Int32) (a0_5 : Int32) (a0_6 : Int64) (a0_7 : Int32) (a0_1_c : ClassId) (a0_1_f : Nat → Int32) (h_a0_2 : 0 ≤ a0_2.toInt ∧ a0_2.toInt ≤ 1000) (h_a0_3 : 0 ≤ a0_3.toInt ∧ a0_3.toInt ≤ 1000) (h_a0_5 : 0 ≤ a0_5.toInt ∧ a0_5.toInt ≤ 1000) : Met l yX7_takeNumber (.code yX7_takeNumber cX7_takeNumber 1 none :: TBL) ({ frames := 1, cells := 0, slots := 0, locals := 20 }) (va_Pc [.ref a0] (fun U => U.heap.size = sz ∧ va_P (dC, dI) vwCl [(a0, .inr (6, [.ref a0_0, .ref a0_1, .int a0_2, .int a0_3, .int a0_4, .int a0_5, .long a0_6, .int a0_7])), (a0_1, .inl (a0_1_c, 1000, .inl a0_1_f))] U.heap ∧ va_K (dC, dI) vwCl [(a0_1_c, .byte)] U ∧ va_D (fun _ => True) [(a0, .inr (6, [.ref a0_0, .ref a0_1, .int a0_2, .int a0_3, .int a0_4, .int a0_5, .long a0_6, .int a0_7])), (a0_1, .inl (a0_1_c, 1000, .inl a0_1_f))] ∧ Ev g (va_A [(a0, .inr (6, [.ref a0_0, .ref a0_1, .int a0_2, .int a0_3, .int a0_4, .int a0_5, .long a0_6, .int a0_7])), (a0_1, .inl (a0_1_c, 1000, .inl a0_1_f))] sz) U)) (va_Qv (fun (_ : Unit) => True) (fun (_ : Unit) (t : State) => ∃ (za0_3 : Int32) (za0_4 : Int32) (za0_7 : Int32), (0 ≤ za0_3.toInt ∧ za0_3.toInt ≤ 1000) ∧ va_P (dC, dI) vwCl [(a0, .inr (6, [.ref a0_0, .ref a0_1, .int a0_2, .int za0_3, .int za0_4, .int a0_5, .long a0_6, .int za0_7])), (a0_1, .inl (a0_1_c, 1000, .inl a0_1_f))] t.heap ∧ va_K (dC, dI) vwCl [] t ∧ va_D (va_A [(a0, .inr (6, [.ref a0_0, .ref a0_1, .int a0_2, .int a0_3, .int a0_4, .int a0_5, .long a0_6, .int a0_7])), (a0_1, .inl (a0_1_c, 1000, .inl a0_1_f))] sz) [(a0, .inr (6, [.ref a0_0, .ref a0_1, .int a0_2, .int za0_3, .int za0_4, .int a0_5, .long a0_6, .int za0_7])), (a0_1, .inl (a0_1_c, 1000, .inl a0_1_f))]) (va_A [(a0, .inr (6, [.ref a0_0, .ref a0_1, .int a0_2, .int a0_3, .int a0_4, .int a0_5, .long a0_6, .int a0_7])), (a0_1, .inl (a0_1_c, 1000, .inl a0_1_f))] sz)) 0 0 (va_A [(a0, .inr (6, [.ref a0_0, .ref a0_1, .int a0_2, .int a0_3, .int a0_4, .int a0_5, .long a0_6, .int a0_7])), (a0_1, .inl (a0_1_c, 1000, .inl a0_1_f))] sz) := by
  refine Met.ofW (cc := cX7_takeNumber) (maxL := 1) (ret := none) (by decide) rfl ?_
  intro p e s m args below meth c s₁ B hml hv
  obtain ⟨rfl, hsz, hP, hK, hD0, hE⟩ := hv
  have hx := B.exec
  have hb := B.bytes
  have hr := B.returns
  have hts0 := atoms_spec (ws := (.code yX7_takeNumber cX7_takeNumber 1 none :: TBL)) B.pre
  have hts := fun (w : Cond) (h : w ∈ TBL) => hts0 w (List.mem_cons_of_mem _ h)
  have hown : s.vm.findClass RX7 = some m.cls := findClass_of_methodNamed B.named
  have hlocks := B.notSynchronized
  have hN := hE.1
  subst hsz
  have hD := hD0.self (sz := s.heap.size)
  generalize hAe : va_A [(a0, .inr (6, [.ref a0_0, .ref a0_1, .int a0_2, .int a0_3, .int a0_4, .int a0_5, .long a0_6, .int a0_7])), (a0_1, .inl (a0_1_c, 1000, .inl a0_1_f))] s.heap.size = A at hD hE ⊢
  have hA : ∀ q : Nat, s.heap.size ≤ q → A q := fun q h => by rw [← hAe]; exact Or.inr h
  have hS : va_S A s.heap s.heap [] := va_S.rf
  replace hP : va_P (dC, dI) vwCl [(a0, .inr (6, [.ref a0_0, .ref a0_1, .int a0_2, .int a0_3, .int a0_4, .int a0_5, .long a0_6, .int a0_7])), (a0_1, .inl (a0_1_c, 1000, .inl a0_1_f))] s.heap := hP
  have hl := lv_entry ([.ref a0]) (n := 1) (Nat.le_of_ble_eq_true rfl)
  rw [lg_entry_eq]
  generalize (lg_sl ([.ref a0]) ++ List.replicate (1 - (lg_sl ([.ref a0])).length) Slot.unset).toArray = ls at hl ⊢
  have hl : lv_has ls 1 [(0, .ref a0)] := hl
  have b_a0_4 := i32b a0_4
  have b_a0_7 := i32b a0_7
  refine lv_aload_n hx hb dX7_takeNumber_0 rfl (lv_at hl 0 rfl) ?_
  refine lv_iconst (v := 0) hx hb dX7_takeNumber_1 (by decide) ?_
  refine va_put (D := (dC, dI)) (ci := 6) (v := .int 0) (ty := .int) (C := RX7) (T := TX7) (N := 8) hx hb hts inlX7 tyX7 tyX7_ok nmX7 hown hK hP hD hS 0 rgL2_5ac5f51 rfl 7 (by decide) (hts (.fieldLink RX7 76 "ClosedUntil$Tokens" "number" "I") qw_63) (fun _ h9 => h9) rfl (by decide +kernel) rfl rfl (Nat.le_of_ble_eq_true rfl) dX7_takeNumber_2 (fun H locs hP9 hD9 hS9 => ?_)
  clear hP hD hS
  obtain ⟨hP, hD⟩ := rgS2_40109d0 (e := (a0, .inr (6, [.ref a0_0, .ref a0_1, .int a0_2, .int a0_3, .int a0_4, .int a0_5, .long a0_6, .int 0]))) hP9 hD9 rfl
  have hS := hS9; clear hP9 hD9 hS9
  have qc0 : (0 : Int32).toInt = 0 := by decide
  refine wloop (fun n H locs ls => ∃ (f5_0_3 : Int32) (f5_0_7 : Int32), n = (1000 - f5_0_3.toInt).toNat ∧ ((0 ≤ f5_0_3.toInt ∧ f5_0_3.toInt ≤ 1000)) ∧ lv_has ls 1 [(0, .ref a0)] ∧ va_P (dC, dI) vwCl [(a0, .inr (6, [.ref a0_0, .ref a0_1, .int a0_2, .int f5_0_3, .int a0_4, .int a0_5, .long a0_6, .int f5_0_7])), (a0_1, .inl (a0_1_c, 1000, .inl a0_1_f))] H ∧ va_D A [(a0, .inr (6, [.ref a0_0, .ref a0_1, .int a0_2, .int f5_0_3, .int a0_4, .int a0_5, .long a0_6, .int f5_0_7])), (a0_1, .inl (a0_1_c, 1000, .inl a0_1_f))] ∧ va_S A s.heap H locs) ?_ ((1000 - a0_3.toInt).toNat) _ _ _ ⟨a0_3, 0, rfl, (by omega), lv_sub hl [0] rfl, hP, hD, hS⟩
  intro n5 H locs ls hI ih5
  obtain ⟨f5_0_3, f5_0_7, hn5, g_f5_0_3, hl, hP, hD, hS⟩ := hI
  have b_f5_0_3 := i32b f5_0_3
  have b_f5_0_7 := i32b f5_0_7
  refine lv_aload_n hx hb dX7_takeNumber_5 rfl (lv_at hl 0 rfl) ?_
  refine va_get (D := (dC, dI)) (ci := 6) (v := .int f5_0_3) (C := RX7) (T := TX7) (N := 8) hx hb hts inlX7 hown hK hP 0 rgL2_5ac5f51 rfl 3 (by decide) (hts (.fieldLink RX7 43 "ClosedUntil$Tokens" "at" "I") qw_64) (fun _ h9 => h9) rfl dX7_takeNumber_6 ?_
  refine lv_aload_n hx hb dX7_takeNumber_9 rfl (lv_at hl 0 rfl) ?_
  refine va_get (D := (dC, dI)) (ci := 6) (v := .int a0_2) (C := RX7) (T := TX7) (N := 8) hx hb hts inlX7 hown hK hP 0 rgL2_5ac5f51 rfl 2 (by decide) (hts (.fieldLink RX7 39 "ClosedUntil$Tokens" "end" "I") qw_65) (fun _ h9 => h9) rfl dX7_takeNumber_10 ?_
  refine lv_icmp_ge (tgt := 82) hx hb dX7_takeNumber_13 (by decide) (fun c13_1 => ?_) (fun c13_1 => ?_)
  · have c13_1 : a0_2.toInt ≤ f5_0_3.toInt := (cv_le rfl rfl).mp c13_1
    refine lv_aload_n hx hb dX7_takeNumber_82 rfl (lv_at hl 0 rfl) ?_
    refine lv_aload_n hx hb dX7_takeNumber_83 rfl (lv_at hl 0 rfl) ?_
    refine va_get (D := (dC, dI)) (ci := 6) (v := .int f5_0_3) (C := RX7) (T := TX7) (N := 8) hx hb hts inlX7 hown hK hP 0 rgL2_5ac5f51 rfl 3 (by decide) (hts (.fieldLink RX7 43 "ClosedUntil$Tokens" "at" "I") qw_64) (fun _ h9 => h9) rfl dX7_takeNumber_84 ?_
    refine lv_aload_n hx hb dX7_takeNumber_87 rfl (lv_at hl 0 rfl) ?_
    refine va_get (D := (dC, dI)) (ci := 6) (v := .int a0_5) (C := RX7) (T := TX7) (N := 8) hx hb hts inlX7 hown hK hP 0 rgL2_5ac5f51 rfl 5 (by decide) (hts (.fieldLink RX7 49 "ClosedUntil$Tokens" "place" "I") qw_66) (fun _ h9 => h9) rfl dX7_takeNumber_88 ?_
    refine lv_isub hx hb dX7_takeNumber_91 ?_
    refine lv_topi (fun x2 e_x2 => ?_)
    try have e_x2 := ti_sub e_x2 rfl rfl (by omega)
    refine lv_bipush (v := 8) hx hb dX7_takeNumber_92 (by decide) ?_
    refine lv_icmp_le (tgt := 102) hx hb dX7_takeNumber_94 (by decide) (fun c94_3 => ?_) (fun c94_3 => ?_)
    · have c94_3 : x2.toInt ≤ 8 := (cv_le rfl (by decide)).mp c94_3
      refine lv_bipush (v := 13) hx hb dX7_takeNumber_102 (by decide) ?_
      refine va_put (D := (dC, dI)) (ci := 6) (v := .int 13) (ty := .int) (C := RX7) (T := TX7) (N := 8) hx hb hts inlX7 tyX7 tyX7_ok nmX7 hown hK hP hD hS 0 rgL2_5ac5f51 rfl 4 (by decide) (hts (.fieldLink RX7 52 "ClosedUntil$Tokens" "kind" "I") qw_67) (fun _ h9 => h9) rfl (by decide +kernel) rfl rfl (Nat.le_of_ble_eq_true rfl) dX7_takeNumber_104 (fun H locs hP9 hD9 hS9 => ?_)
      clear hP hD hS
      obtain ⟨hP, hD⟩ := rgS2_40109d0 (e := (a0, .inr (6, [.ref a0_0, .ref a0_1, .int a0_2, .int f5_0_3, .int 13, .int a0_5, .long a0_6, .int f5_0_7]))) hP9 hD9 rfl
      have hS := hS9; clear hP9 hD9 hS9
      have qc13 : (13 : Int32).toInt = 13 := by decide
      refine W.widen (k := 0) (n := 0) (Nat.le_of_ble_eq_true rfl) (Nat.le_of_ble_eq_true rfl) ?_
      have hP9 := hP
      have hD9 := hD
      have hK9 := (rgK1_f3b3254 hK)
      have hf9_0 : (0 ≤ f5_0_3.toInt ∧ f5_0_3.toInt ≤ 1000) := by omega
      exact W.vret hx hb hr (fun t ht hW => ⟨⟨(), rfl, trivial, f5_0_3, 13, f5_0_7, hf9_0, atB ht hP9, va_K.moved hW.alike hK9, hD9⟩, hS.F ht⟩) hS.2.2 dX7_takeNumber_107
    · have c94_3 : ¬ (x2.toInt ≤ 8) := mt (cv_le rfl (by decide)).mpr c94_3
      refine lv_bipush (v := 16) hx hb dX7_takeNumber_97 (by decide) ?_
      refine lv_goto (tgt := 104) hx hb dX7_takeNumber_99 (by decide) ?_
      refine va_put (D := (dC, dI)) (ci := 6) (v := .int 16) (ty := .int) (C := RX7) (T := TX7) (N := 8) hx hb hts inlX7 tyX7 tyX7_ok nmX7 hown hK hP hD hS 0 rgL2_5ac5f51 rfl 4 (by decide) (hts (.fieldLink RX7 52 "ClosedUntil$Tokens" "kind" "I") qw_67) (fun _ h9 => h9) rfl (by decide +kernel) rfl rfl (Nat.le_of_ble_eq_true rfl) dX7_takeNumber_104 (fun H locs hP9 hD9 hS9 => ?_)
      clear hP hD hS
      obtain ⟨hP, hD⟩ := rgS2_40109d0 (e := (a0, .inr (6, [.ref a0_0, .ref a0_1, .int a0_2, .int f5_0_3, .int 16, .int a0_5, .long a0_6, .int f5_0_7]))) hP9 hD9 rfl
      have hS := hS9; clear hP9 hD9 hS9
      have qc16 : (16 : Int32).toInt = 16 := by decide
      refine W.widen (k := 0) (n := 0) (Nat.le_of_ble_eq_true rfl) (Nat.le_of_ble_eq_true rfl) ?_
      have hP9 := hP
      have hD9 := hD
      have hK9 := (rgK1_f3b3254 hK)
      have hf9_0 : (0 ≤ f5_0_3.toInt ∧ f5_0_3.toInt ≤ 1000) := by omega
      exact W.vret hx hb hr (fun t ht hW => ⟨⟨(), rfl, trivial, f5_0_3, 16, f5_0_7, hf9_0, atB ht hP9, va_K.moved hW.alike hK9, hD9⟩, hS.F ht⟩) hS.2.2 dX7_takeNumber_107
  · have c13_1 : ¬ (a0_2.toInt ≤ f5_0_3.toInt) := mt (cv_le rfl rfl).mpr c13_1
    refine lv_aload_n hx hb dX7_takeNumber_16 rfl (lv_at hl 0 rfl) ?_
    refine va_get (D := (dC, dI)) (ci := 6) (v := .ref a0_1) (C := RX7) (T := TX7) (N := 8) hx hb hts inlX7 hown hK hP 0 rgL2_5ac5f51 rfl 1 (by decide) (hts (.fieldLink RX7 13 "ClosedUntil$Tokens" "bytes" "[B") qw_68) (fun _ h9 => h9) rfl dX7_takeNumber_17 ?_
    refine lv_aload_n hx hb dX7_takeNumber_20 rfl (lv_at hl 0 rfl) ?_
    refine va_get (D := (dC, dI)) (ci := 6) (v := .int f5_0_3) (C := RX7) (T := TX7) (N := 8) hx hb hts inlX7 hown hK hP 0 rgL2_5ac5f51 rfl 3 (by decide) (hts (.fieldLink RX7 43 "ClosedUntil$Tokens" "at" "I") qw_64) (fun _ h9 => h9) rfl dX7_takeNumber_21 ?_
    refine va_bald hx hb hK hP 1 0 rgL2_906ef0f rgT1_bb00d73 (vinI (by omega) (by omega)) dX7_takeNumber_24 ?_
    refine lv_topi (fun x4 e_x4 => ?_)
    have b_x4 := i32b x4
    have hPc := (rgP2_6c9046d hP)
    have hKc := (rgK1_f3b3254 hK)
    refine vp_callSi ((va_runS (As := [.int x4]) (rest := []) ⟨hx, hb, hml, hown, hts⟩ (k_X7_isDigit l dC dI g (x4) ) (va_cwS 1 hts (gwS qw_71 qw_72 qw_70 qw_69) rfl rfl rfl (by decide +kernel) ⟨Nat.le_of_ble_eq_true rfl, Nat.le_of_ble_eq_true rfl⟩) ⟨fun a U g9 mk q => ⟨q.1, q.2.1, va_K.moved (u := U) (U := U.calling g9 mk a) (Vm.Alike.refl U.vm) q.2.2.1, Ev.bl q.2.2.2⟩, fun U hU hW => ⟨rfl, atB hU hPc, va_K.moved hW.alike hKc, hE.go hS (fun _ h => h.elim) hU hW⟩⟩ rfl rfl hl.1 rfl (lv_room (Nat.le_of_ble_eq_true rfl)) dX7_takeNumber_25 ⟨Nat.le_of_ble_eq_true rfl, Nat.le_of_ble_eq_true rfl⟩)).run (fun r5 h_r5 => ?_)
    have h_r5 : (r5 = 0 ∨ r5 = 1) := h_r5
    have b_r5 := z01 (show r5 = 0 ∨ r5 = 1 from h_r5)
    refine lv_if_eq (tgt := 82) hx hb dX7_takeNumber_28 (by decide) (fun c28_6 => ?_) (fun c28_6 => ?_)
    · have c28_6 : r5.toInt = 0 := (cv_eq rfl (by decide)).mp c28_6
      refine lv_aload_n hx hb dX7_takeNumber_82 rfl (lv_at hl 0 rfl) ?_
      refine lv_aload_n hx hb dX7_takeNumber_83 rfl (lv_at hl 0 rfl) ?_
      refine va_get (D := (dC, dI)) (ci := 6) (v := .int f5_0_3) (C := RX7) (T := TX7) (N := 8) hx hb hts inlX7 hown hK hP 0 rgL2_5ac5f51 rfl 3 (by decide) (hts (.fieldLink RX7 43 "ClosedUntil$Tokens" "at" "I") qw_64) (fun _ h9 => h9) rfl dX7_takeNumber_84 ?_
      refine lv_aload_n hx hb dX7_takeNumber_87 rfl (lv_at hl 0 rfl) ?_
      refine va_get (D := (dC, dI)) (ci := 6) (v := .int a0_5) (C := RX7) (T := TX7) (N := 8) hx hb hts inlX7 hown hK hP 0 rgL2_5ac5f51 rfl 5 (by decide) (hts (.fieldLink RX7 49 "ClosedUntil$Tokens" "place" "I") qw_66) (fun _ h9 => h9) rfl dX7_takeNumber_88 ?_
      refine lv_isub hx hb dX7_takeNumber_91 ?_
      refine lv_topi (fun x7 e_x7 => ?_)
      try have e_x7 := ti_sub e_x7 rfl rfl (by omega)
      refine lv_bipush (v := 8) hx hb dX7_takeNumber_92 (by decide) ?_
      refine lv_icmp_le (tgt := 102) hx hb dX7_takeNumber_94 (by decide) (fun c94_8 => ?_) (fun c94_8 => ?_)
      · have c94_8 : x7.toInt ≤ 8 := (cv_le rfl (by decide)).mp c94_8
        refine lv_bipush (v := 13) hx hb dX7_takeNumber_102 (by decide) ?_
        refine va_put (D := (dC, dI)) (ci := 6) (v := .int 13) (ty := .int) (C := RX7) (T := TX7) (N := 8) hx hb hts inlX7 tyX7 tyX7_ok nmX7 hown hK hP hD hS 0 rgL2_5ac5f51 rfl 4 (by decide) (hts (.fieldLink RX7 52 "ClosedUntil$Tokens" "kind" "I") qw_67) (fun _ h9 => h9) rfl (by decide +kernel) rfl rfl (Nat.le_of_ble_eq_true rfl) dX7_takeNumber_104 (fun H locs hP9 hD9 hS9 => ?_)
        clear hP hD hS
        obtain ⟨hP, hD⟩ := rgS2_40109d0 (e := (a0, .inr (6, [.ref a0_0, .ref a0_1, .int a0_2, .int f5_0_3, .int 13, .int a0_5, .long a0_6, .int f5_0_7]))) hP9 hD9 rfl
        have hS := hS9; clear hP9 hD9 hS9
        have qc13 : (13 : Int32).toInt = 13 := by decide
        refine W.widen (k := 0) (n := 0) (Nat.le_of_ble_eq_true rfl) (Nat.le_of_ble_eq_true rfl) ?_
        have hP9 := hP
        have hD9 := hD
        have hK9 := (rgK1_f3b3254 hK)
        have hf9_0 : (0 ≤ f5_0_3.toInt ∧ f5_0_3.toInt ≤ 1000) := by omega
        exact W.vret hx hb hr (fun t ht hW => ⟨⟨(), rfl, trivial, f5_0_3, 13, f5_0_7, hf9_0, atB ht hP9, va_K.moved hW.alike hK9, hD9⟩, hS.F ht⟩) hS.2.2 dX7_takeNumber_107
      · have c94_8 : ¬ (x7.toInt ≤ 8) := mt (cv_le rfl (by decide)).mpr c94_8
        refine lv_bipush (v := 16) hx hb dX7_takeNumber_97 (by decide) ?_
        refine lv_goto (tgt := 104) hx hb dX7_takeNumber_99 (by decide) ?_
        refine va_put (D := (dC, dI)) (ci := 6) (v := .int 16) (ty := .int) (C := RX7) (T := TX7) (N := 8) hx hb hts inlX7 tyX7 tyX7_ok nmX7 hown hK hP hD hS 0 rgL2_5ac5f51 rfl 4 (by decide) (hts (.fieldLink RX7 52 "ClosedUntil$Tokens" "kind" "I") qw_67) (fun _ h9 => h9) rfl (by decide +kernel) rfl rfl (Nat.le_of_ble_eq_true rfl) dX7_takeNumber_104 (fun H locs hP9 hD9 hS9 => ?_)
        clear hP hD hS
        obtain ⟨hP, hD⟩ := rgS2_40109d0 (e := (a0, .inr (6, [.ref a0_0, .ref a0_1, .int a0_2, .int f5_0_3, .int 16, .int a0_5, .long a0_6, .int f5_0_7]))) hP9 hD9 rfl
        have hS := hS9; clear hP9 hD9 hS9
        have qc16 : (16 : Int32).toInt = 16 := by decide
        refine W.widen (k := 0) (n := 0) (Nat.le_of_ble_eq_true rfl) (Nat.le_of_ble_eq_true rfl) ?_
        have hP9 := hP
        have hD9 := hD
        have hK9 := (rgK1_f3b3254 hK)
        have hf9_0 : (0 ≤ f5_0_3.toInt ∧ f5_0_3.toInt ≤ 1000) := by omega
        exact W.vret hx hb hr (fun t ht hW => ⟨⟨(), rfl, trivial, f5_0_3, 16, f5_0_7, hf9_0, atB ht hP9, va_K.moved hW.alike hK9, hD9⟩, hS.F ht⟩) hS.2.2 dX7_takeNumber_107
    · have c28_6 : ¬ (r5.toInt = 0) := mt (cv_eq rfl (by decide)).mpr c28_6
      refine lv_aload_n hx hb dX7_takeNumber_31 rfl (lv_at hl 0 rfl) ?_
      refine va_get (D := (dC, dI)) (ci := 6) (v := .int f5_0_3) (C := RX7) (T := TX7) (N := 8) hx hb hts inlX7 hown hK hP 0 rgL2_5ac5f51 rfl 3 (by decide) (hts (.fieldLink RX7 43 "ClosedUntil$Tokens" "at" "I") qw_64) (fun _ h9 => h9) rfl dX7_takeNumber_32 ?_
      refine lv_aload_n hx hb dX7_takeNumber_35 rfl (lv_at hl 0 rfl) ?_
      refine va_get (D := (dC, dI)) (ci := 6) (v := .int a0_5) (C := RX7) (T := TX7) (N := 8) hx hb hts inlX7 hown hK hP 0 rgL2_5ac5f51 rfl 5 (by decide) (hts (.fieldLink RX7 49 "ClosedUntil$Tokens" "place" "I") qw_66) (fun _ h9 => h9) rfl dX7_takeNumber_36 ?_
      refine lv_isub hx hb dX7_takeNumber_39 ?_
      refine lv_topi (fun x9 e_x9 => ?_)
      try have e_x9 := ti_sub e_x9 rfl rfl (by omega)
      refine lv_bipush (v := 8) hx hb dX7_takeNumber_40 (by decide) ?_
      refine lv_icmp_ge (tgt := 69) hx hb dX7_takeNumber_42 (by decide) (fun c42_10 => ?_) (fun c42_10 => ?_)
      · have c42_10 : 8 ≤ x9.toInt := (cv_le (by decide) rfl).mp c42_10
        refine lv_aload_n hx hb dX7_takeNumber_69 rfl (lv_at hl 0 rfl) ?_
        refine lv_dup hx hb dX7_takeNumber_70 rfl ?_
        refine va_get (D := (dC, dI)) (ci := 6) (v := .int f5_0_3) (C := RX7) (T := TX7) (N := 8) hx hb hts inlX7 hown hK hP 0 rgL2_5ac5f51 rfl 3 (by decide) (hts (.fieldLink RX7 43 "ClosedUntil$Tokens" "at" "I") qw_64) (fun _ h9 => h9) rfl dX7_takeNumber_71 ?_
        refine lv_iconst (v := 1) hx hb dX7_takeNumber_74 (by decide) ?_
        refine lv_iadd hx hb dX7_takeNumber_75 ?_
        refine lv_topi (fun x11 e_x11 => ?_)
        try have e_x11 := ti_add e_x11 rfl (show (1 : Int32).toInt = 1 by decide) (by omega)
        refine va_put (D := (dC, dI)) (ci := 6) (v := .int x11) (ty := .int) (C := RX7) (T := TX7) (N := 8) hx hb hts inlX7 tyX7 tyX7_ok nmX7 hown hK hP hD hS 0 rgL2_5ac5f51 rfl 3 (by decide) (hts (.fieldLink RX7 43 "ClosedUntil$Tokens" "at" "I") qw_64) (fun _ h9 => h9) rfl (by decide +kernel) rfl rfl (Nat.le_of_ble_eq_true rfl) dX7_takeNumber_76 (fun H locs hP9 hD9 hS9 => ?_)
        clear hP hD hS
        obtain ⟨hP, hD⟩ := rgS2_40109d0 (e := (a0, .inr (6, [.ref a0_0, .ref a0_1, .int a0_2, .int x11, .int a0_4, .int a0_5, .long a0_6, .int f5_0_7]))) hP9 hD9 rfl
        have hS := hS9; clear hP9 hD9 hS9
        refine lv_goto (tgt := 5) hx hb dX7_takeNumber_79 (by decide) ?_
        exact ih5 ((1000 - x11.toInt).toNat) _ _ _ (by omega) ⟨x11, f5_0_7, rfl, (by omega), lv_sub hl [0] rfl, hP, hD, hS⟩
      · have c42_10 : ¬ (8 ≤ x9.toInt) := mt (cv_le (by decide) rfl).mpr c42_10
        refine lv_aload_n hx hb dX7_takeNumber_45 rfl (lv_at hl 0 rfl) ?_
        refine lv_aload_n hx hb dX7_takeNumber_46 rfl (lv_at hl 0 rfl) ?_
        refine va_get (D := (dC, dI)) (ci := 6) (v := .int f5_0_7) (C := RX7) (T := TX7) (N := 8) hx hb hts inlX7 hown hK hP 0 rgL2_5ac5f51 rfl 7 (by decide) (hts (.fieldLink RX7 76 "ClosedUntil$Tokens" "number" "I") qw_63) (fun _ h9 => h9) rfl dX7_takeNumber_47 ?_
        refine lv_bipush (v := 10) hx hb dX7_takeNumber_50 (by decide) ?_
        refine lv_imul hx hb dX7_takeNumber_52 ?_
        refine lv_topi (fun x12 e_x12 => ?_)
        try have e_x12 := ti_mul e_x12 rfl (show (10 : Int32).toInt = 10 by decide) (by omega)
        refine lv_aload_n hx hb dX7_takeNumber_53 rfl (lv_at hl 0 rfl) ?_
        refine va_get (D := (dC, dI)) (ci := 6) (v := .ref a0_1) (C := RX7) (T := TX7) (N := 8) hx hb hts inlX7 hown hK hP 0 rgL2_5ac5f51 rfl 1 (by decide) (hts (.fieldLink RX7 13 "ClosedUntil$Tokens" "bytes" "[B") qw_68) (fun _ h9 => h9) rfl dX7_takeNumber_54 ?_
        refine lv_aload_n hx hb dX7_takeNumber_57 rfl (lv_at hl 0 rfl) ?_
        refine va_get (D := (dC, dI)) (ci := 6) (v := .int f5_0_3) (C := RX7) (T := TX7) (N := 8) hx hb hts inlX7 hown hK hP 0 rgL2_5ac5f51 rfl 3 (by decide) (hts (.fieldLink RX7 43 "ClosedUntil$Tokens" "at" "I") qw_64) (fun _ h9 => h9) rfl dX7_takeNumber_58 ?_
        refine va_bald hx hb hK hP 1 0 rgL2_906ef0f rgT1_bb00d73 (vinI (by omega) (by omega)) dX7_takeNumber_61 ?_
        refine lv_topi (fun x13 e_x13 => ?_)
        have b_x13 := i32b x13
        refine lv_iadd hx hb dX7_takeNumber_62 ?_
        refine lv_topi (fun x14 e_x14 => ?_)
        try have e_x14 := ti_add e_x14 rfl rfl (by omega)
        refine lv_bipush (v := 48) hx hb dX7_takeNumber_63 (by decide) ?_
        refine lv_isub hx hb dX7_takeNumber_65 ?_
        refine lv_topi (fun x15 e_x15 => ?_)
        try have e_x15 := ti_sub e_x15 rfl (show (48 : Int32).toInt = 48 by decide) (by omega)
        refine va_put (D := (dC, dI)) (ci := 6) (v := .int x15) (ty := .int) (C := RX7) (T := TX7) (N := 8) hx hb hts inlX7 tyX7 tyX7_ok nmX7 hown hK hP hD hS 0 rgL2_5ac5f51 rfl 7 (by decide) (hts (.fieldLink RX7 76 "ClosedUntil$Tokens" "number" "I") qw_63) (fun _ h9 => h9) rfl (by decide +kernel) rfl rfl (Nat.le_of_ble_eq_true rfl) dX7_takeNumber_66 (fun H locs hP9 hD9 hS9 => ?_)
        clear hP hD hS
        obtain ⟨hP, hD⟩ := rgS2_40109d0 (e := (a0, .inr (6, [.ref a0_0, .ref a0_1, .int a0_2, .int f5_0_3, .int a0_4, .int a0_5, .long a0_6, .int x15]))) hP9 hD9 rfl
        have hS := hS9; clear hP9 hD9 hS9
        refine lv_aload_n hx hb dX7_takeNumber_69 rfl (lv_at hl 0 rfl) ?_
        refine lv_dup hx hb dX7_takeNumber_70 rfl ?_
        refine va_get (D := (dC, dI)) (ci := 6) (v := .int f5_0_3) (C := RX7) (T := TX7) (N := 8) hx hb hts inlX7 hown hK hP 0 rgL2_5ac5f51 rfl 3 (by decide) (hts (.fieldLink RX7 43 "ClosedUntil$Tokens" "at" "I") qw_64) (fun _ h9 => h9) rfl dX7_takeNumber_71 ?_
        refine lv_iconst (v := 1) hx hb dX7_takeNumber_74 (by decide) ?_
        refine lv_iadd hx hb dX7_takeNumber_75 ?_
        refine lv_topi (fun x16 e_x16 => ?_)
        try have e_x16 := ti_add e_x16 rfl (show (1 : Int32).toInt = 1 by decide) (by omega)
        refine va_put (D := (dC, dI)) (ci := 6) (v := .int x16) (ty := .int) (C := RX7) (T := TX7) (N := 8) hx hb hts inlX7 tyX7 tyX7_ok nmX7 hown hK hP hD hS 0 rgL2_5ac5f51 rfl 3 (by decide) (hts (.fieldLink RX7 43 "ClosedUntil$Tokens" "at" "I") qw_64) (fun _ h9 => h9) rfl (by decide +kernel) rfl rfl (Nat.le_of_ble_eq_true rfl) dX7_takeNumber_76 (fun H locs hP9 hD9 hS9 => ?_)
        clear hP hD hS
        obtain ⟨hP, hD⟩ := rgS2_40109d0 (e := (a0, .inr (6, [.ref a0_0, .ref a0_1, .int a0_2, .int x16, .int a0_4, .int a0_5, .long a0_6, .int x15]))) hP9 hD9 rfl
        have hS := hS9; clear hP9 hD9 hS9
        refine lv_goto (tgt := 5) hx hb dX7_takeNumber_79 (by decide) ?_
        exact ih5 ((1000 - x16.toInt).toNat) _ _ _ (by omega) ⟨x16, x15, rfl, (by omega), lv_sub hl [0] rfl, hP, hD, hS⟩
set_option maxHeartbeats 4000000 in
set_option maxRecDepth 100000 in
theorem k_X7_takeWord (l : Launch) (dC : Nat → ClassId) (dI : Nat → Nat → Nat) (g : Gv) (sz : Nat) (a0 : Nat) (a0_0 : Nat) (a0_1 : Nat) (a0_2 : Int32) (a0_3 : Int32) (a0_4 : Int32) (a0_5 : Int32) (a0_6 : Int64) (a0_7 : Int32) (a0_0_c : ClassId) (a0_0_f : Nat → Int64) (a0_1_c : ClassId) (a0_1_f : Nat → Int32) (h_a0_2 : 0 ≤ a0_2.toInt ∧ a0_2.toInt ≤ 1000) (h_a0_3 : 0 ≤ a0_3.toInt ∧ a0_3.toInt ≤ 1000) (h_a0_5 : 0 ≤ a0_5.toInt ∧ a0_5.toInt ≤ 1000) : Met l yX7_takeWord (.code yX7_takeWord cX7_takeWord 1 none :: TBL) ({ frames := 1, cells := 0, slots := 0, locals := 23 }) (va_Pc [.ref a0] (fun U => U.heap.size = sz ∧ va_P (dC, dI) vwCl [(a0, .inr (6, [.ref a0_0, .ref a0_1, .int a0_2, .int a0_3, .int a0_4, .int a0_5, .long a0_6, .int a0_7])), (a0_0, .inl (a0_0_c, 12, .inr (.inl a0_0_f))), (a0_1, .inl (a0_1_c, 1000, .inl a0_1_f))] U.heap ∧ va_K (dC, dI) vwCl [(a0_0_c, .long), (a0_1_c, .byte)] U ∧ va_D (fun _ => True) [(a0, .inr (6, [.ref a0_0, .ref a0_1, .int a0_2, .int a0_3, .int a0_4, .int a0_5, .long a0_6, .int a0_7])), (a0_0, .inl (a0_0_c, 12, .inr (.inl a0_0_f))), (a0_1, .inl (a0_1_c, 1000, .inl a0_1_f))] ∧ Ev g (va_A [(a0, .inr (6, [.ref a0_0, .ref a0_1, .int a0_2, .int a0_3, .int a0_4, .int a0_5, .long a0_6, .int a0_7])), (a0_0, .inl (a0_0_c, 12, .inr (.inl a0_0_f))), (a0_1, .inl (a0_1_c, 1000, .inl a0_1_f))] sz) U)) (va_Qv (fun (_ : Unit) => True) (fun (_ : Unit) (t : State) => ∃ (za0_3 : Int32) (za0_4 : Int32) (za0_6 : Int64), (0 ≤ za0_3.toInt ∧ za0_3.toInt ≤ 1000) ∧ va_P (dC, dI) vwCl [(a0, .inr (6, [.ref a0_0, .ref a0_1, .int a0_2, .int za0_3, .int za0_4, .int a0_5, .long za0_6, .int a0_7])), (a0_0, .inl (a0_0_c, 12, .inr (.inl a0_0_f))), (a0_1, .inl (a0_1_c, 1000, .inl a0_1_f))] t.heap ∧ va_K (dC, dI) vwCl [] t ∧ va_D (va_A [(a0, .inr (6, [.ref a0_0, .ref a0_1, .int a0_2, .int a0_3, .int a0_4, .int a0_5, .long a0_6, .int a0_7])), (a0_0, .inl (a0_0_c, 12, .inr (.inl a0_0_f))), (a0_1, .inl (a0_1_c, 1000, .inl a0_1_f))] sz) [(a0, .inr (6, [.ref a0_0, .ref a0_1, .int a0_2, .int za0_3, .int za0_4, .int a0_5, .long za0_6, .int a0_7])), (a0_0, .inl (a0_0_c, 12, .inr (.inl a0_0_f))), (a0_1, .inl (a0_1_c, 1000, .inl a0_1_f))]) (va_A [(a0, .inr (6, [.ref a0_0, .ref a0_1, .int a0_2, .int a0_3, .int a0_4, .int a0_5, .long a0_6, .int a0_7])), (a0_0, .inl (a0_0_c, 12, .inr (.inl a0_0_f))), (a0_1, .inl (a0_1_c, 1000, .inl a0_1_f))] sz)) 0 0 (va_A [(a0, .inr (6, [.ref a0_0, .ref a0_1, .int a0_2, .int a0_3, .int a0_4, .int a0_5, .long a0_6, .int a0_7])), (a0_0, .inl (a0_0_c, 12, .inr (.inl a0_0_f))), (a0_1, .inl (a0_1_c, 1000, .inl a0_1_f))] sz) := by
  refine Met.ofW (cc := cX7_takeWord) (maxL := 1) (ret := none) (by decide) rfl ?_
  intro p e s m args below meth c s₁ B hml hv
  obtain ⟨rfl, hsz, hP, hK, hD0, hE⟩ := hv
  have hx := B.exec
  have hb := B.bytes
  have hr := B.returns
  have hts0 := atoms_spec (ws := (.code yX7_takeWord cX7_takeWord 1 none :: TBL)) B.pre
  have hts := fun (w : Cond) (h : w ∈ TBL) => hts0 w (List.mem_cons_of_mem _ h)
  have hown : s.vm.findClass RX7 = some m.cls := findClass_of_methodNamed B.named
  have hlocks := B.notSynchronized
  have hN := hE.1
  subst hsz
  have hD := hD0.self (sz := s.heap.size)
  generalize hAe : va_A [(a0, .inr (6, [.ref a0_0, .ref a0_1, .int a0_2, .int a0_3, .int a0_4, .int a0_5, .long a0_6, .int a0_7])), (a0_0, .inl (a0_0_c, 12, .inr (.inl a0_0_f))), (a0_1, .inl (a0_1_c, 1000, .inl a0_1_f))] s.heap.size = A at hD hE ⊢
  have hA : ∀ q : Nat, s.heap.size ≤ q → A q := fun q h => by rw [← hAe]; exact Or.inr h
  have hS : va_S A s.heap s.heap [] := va_S.rf
  replace hP : va_P (dC, dI) vwCl [(a0, .inr (6, [.ref a0_0, .ref a0_1, .int a0_2, .int a0_3, .int a0_4, .int a0_5, .long a0_6, .int a0_7])), (a0_0, .inl (a0_0_c, 12, .inr (.inl a0_0_f))), (a0_1, .inl (a0_1_c, 1000, .inl a0_1_f))] s.heap := hP
  have hl := lv_entry ([.ref a0]) (n := 1) (Nat.le_of_ble_eq_true rfl)
  rw [lg_entry_eq]
  generalize (lg_sl ([.ref a0]) ++ List.replicate (1 - (lg_sl ([.ref a0])).length) Slot.unset).toArray = ls at hl ⊢
  have hl : lv_has ls 1 [(0, .ref a0)] := hl
  have b_a0_4 := i32b a0_4
  have b_a0_7 := i32b a0_7
  refine lv_aload_n hx hb dX7_takeWord_0 rfl (lv_at hl 0 rfl) ?_
  refine lv_lconst (v := 0) hx hb dX7_takeWord_1 (by decide) ?_
  refine va_put (D := (dC, dI)) (ci := 6) (v := .long 0) (ty := .long) (C := RX7) (T := TX7) (N := 8) hx hb hts inlX7 tyX7 tyX7_ok nmX7 hown hK hP hD hS 0 rgL3_619f1f5 rfl 6 (by decide) (hts (.fieldLink RX7 68 "ClosedUntil$Tokens" "word" "J") qw_73) (fun _ h9 => h9) rfl (by decide +kernel) rfl rfl (Nat.le_of_ble_eq_true rfl) dX7_takeWord_2 (fun H locs hP9 hD9 hS9 => ?_)
  clear hP hD hS
  obtain ⟨hP, hD⟩ := rgS3_dd231b9 (e := (a0, .inr (6, [.ref a0_0, .ref a0_1, .int a0_2, .int a0_3, .int a0_4, .int a0_5, .long 0, .int a0_7]))) hP9 hD9 rfl
  have hS := hS9; clear hP9 hD9 hS9
  refine wloop (fun n H locs ls => ∃ (f5_0_3 : Int32) (f5_0_6 : Int64), n = (1000 - f5_0_3.toInt).toNat ∧ ((0 ≤ f5_0_3.toInt ∧ f5_0_3.toInt ≤ 1000)) ∧ lv_has ls 1 [(0, .ref a0)] ∧ va_P (dC, dI) vwCl [(a0, .inr (6, [.ref a0_0, .ref a0_1, .int a0_2, .int f5_0_3, .int a0_4, .int a0_5, .long f5_0_6, .int a0_7])), (a0_0, .inl (a0_0_c, 12, .inr (.inl a0_0_f))), (a0_1, .inl (a0_1_c, 1000, .inl a0_1_f))] H ∧ va_D A [(a0, .inr (6, [.ref a0_0, .ref a0_1, .int a0_2, .int f5_0_3, .int a0_4, .int a0_5, .long f5_0_6, .int a0_7])), (a0_0, .inl (a0_0_c, 12, .inr (.inl a0_0_f))), (a0_1, .inl (a0_1_c, 1000, .inl a0_1_f))] ∧ va_S A s.heap H locs) ?_ ((1000 - a0_3.toInt).toNat) _ _ _ ⟨a0_3, 0, rfl, (by omega), lv_sub hl [0] rfl, hP, hD, hS⟩
  intro n5 H locs ls hI ih5
  obtain ⟨f5_0_3, f5_0_6, hn5, g_f5_0_3, hl, hP, hD, hS⟩ := hI
  have b_f5_0_3 := i32b f5_0_3
  refine lv_aload_n hx hb dX7_takeWord_5 rfl (lv_at hl 0 rfl) ?_
  refine va_get (D := (dC, dI)) (ci := 6) (v := .int f5_0_3) (C := RX7) (T := TX7) (N := 8) hx hb hts inlX7 hown hK hP 0 rgL3_619f1f5 rfl 3 (by decide) (hts (.fieldLink RX7 43 "ClosedUntil$Tokens" "at" "I") qw_64) (fun _ h9 => h9) rfl dX7_takeWord_6 ?_
  refine lv_aload_n hx hb dX7_takeWord_9 rfl (lv_at hl 0 rfl) ?_
  refine va_get (D := (dC, dI)) (ci := 6) (v := .int a0_2) (C := RX7) (T := TX7) (N := 8) hx hb hts inlX7 hown hK hP 0 rgL3_619f1f5 rfl 2 (by decide) (hts (.fieldLink RX7 39 "ClosedUntil$Tokens" "end" "I") qw_65) (fun _ h9 => h9) rfl dX7_takeWord_10 ?_
  refine lv_icmp_ge (tgt := 78) hx hb dX7_takeWord_13 (by decide) (fun c13_1 => ?_) (fun c13_1 => ?_)
  · have c13_1 : a0_2.toInt ≤ f5_0_3.toInt := (cv_le rfl rfl).mp c13_1
    refine lv_aload_n hx hb dX7_takeWord_78 rfl (lv_at hl 0 rfl) ?_
    refine lv_aload_n hx hb dX7_takeWord_79 rfl (lv_at hl 0 rfl) ?_
    refine va_get (D := (dC, dI)) (ci := 6) (v := .int f5_0_3) (C := RX7) (T := TX7) (N := 8) hx hb hts inlX7 hown hK hP 0 rgL3_619f1f5 rfl 3 (by decide) (hts (.fieldLink RX7 43 "ClosedUntil$Tokens" "at" "I") qw_64) (fun _ h9 => h9) rfl dX7_takeWord_80 ?_
    refine lv_aload_n hx hb dX7_takeWord_83 rfl (lv_at hl 0 rfl) ?_
    refine va_get (D := (dC, dI)) (ci := 6) (v := .int a0_5) (C := RX7) (T := TX7) (N := 8) hx hb hts inlX7 hown hK hP 0 rgL3_619f1f5 rfl 5 (by decide) (hts (.fieldLink RX7 49 "ClosedUntil$Tokens" "place" "I") qw_66) (fun _ h9 => h9) rfl dX7_takeWord_84 ?_
    refine lv_isub hx hb dX7_takeWord_87 ?_
    refine lv_topi (fun x2 e_x2 => ?_)
    try have e_x2 := ti_sub e_x2 rfl rfl (by omega)
    refine lv_bipush (v := 8) hx hb dX7_takeWord_88 (by decide) ?_
    refine lv_icmp_le (tgt := 98) hx hb dX7_takeWord_90 (by decide) (fun c90_3 => ?_) (fun c90_3 => ?_)
    · have c90_3 : x2.toInt ≤ 8 := (cv_le rfl (by decide)).mp c90_3
      refine lv_aload_n hx hb dX7_takeWord_98 rfl (lv_at hl 0 rfl) ?_
      refine lv_aload_n hx hb dX7_takeWord_99 rfl (lv_at hl 0 rfl) ?_
      refine va_get (D := (dC, dI)) (ci := 6) (v := .long f5_0_6) (C := RX7) (T := TX7) (N := 8) hx hb hts inlX7 hown hK hP 0 rgL3_619f1f5 rfl 6 (by decide) (hts (.fieldLink RX7 68 "ClosedUntil$Tokens" "word" "J") qw_73) (fun _ h9 => h9) rfl dX7_takeWord_100 ?_
      have hPc := (rgP3_dd6138b hP)
      have hKc := (rgK2_58023b0 hK)
      refine vp_callSi ((va_runV (As := [.long f5_0_6]) (rest := [.ref a0]) ⟨hx, hb, hml, hown, hts⟩ (k_X7_kindOf l dC dI g (a0) (f5_0_6) (a0_0) (a0_1) (a0_2) (f5_0_3) (a0_4) (a0_5) (f5_0_6) (a0_7) (a0_0_c) (a0_0_f) (by omega) (by omega) (by omega)) (cwV 1 hts (gwV qw_75 qw_76 qw_77 qw_70 qw_74) rfl rfl rfl (by decide +kernel) ⟨Nat.le_of_ble_eq_true rfl, Nat.le_of_ble_eq_true rfl⟩) ⟨fun a U g9 mk q => ⟨q.1, q.2.1, va_K.moved (u := U) (U := U.calling g9 mk a) (Vm.Alike.refl U.vm) q.2.2.1, Ev.bl q.2.2.2⟩, va_recv hK hP (ci := 6) (q0 := 0) rfl rgL3_619f1f5, fun U hU hW => ⟨rfl, atB hU hPc, va_K.moved hW.alike hKc, hE.go hS (fun _ h => h.elim) hU hW⟩⟩ rfl rfl hl.1 rfl (lv_room (Nat.le_of_ble_eq_true rfl)) dX7_takeWord_103 ⟨Nat.le_of_ble_eq_true rfl, Nat.le_of_ble_eq_true rfl⟩)).run (fun r4 h_r4 => ?_)
      have b_r4 := i32b r4
      refine va_put (D := (dC, dI)) (ci := 6) (v := .int r4) (ty := .int) (C := RX7) (T := TX7) (N := 8) hx hb hts inlX7 tyX7 tyX7_ok nmX7 hown hK hP hD hS 0 rgL3_619f1f5 rfl 4 (by decide) (hts (.fieldLink RX7 52 "ClosedUntil$Tokens" "kind" "I") qw_67) (fun _ h9 => h9) rfl (by decide +kernel) rfl rfl (Nat.le_of_ble_eq_true rfl) dX7_takeWord_106 (fun H locs hP9 hD9 hS9 => ?_)
      clear hP hD hS
      obtain ⟨hP, hD⟩ := rgS3_dd231b9 (e := (a0, .inr (6, [.ref a0_0, .ref a0_1, .int a0_2, .int f5_0_3, .int r4, .int a0_5, .long f5_0_6, .int a0_7]))) hP9 hD9 rfl
      have hS := hS9; clear hP9 hD9 hS9
      refine W.widen (k := 0) (n := 0) (Nat.le_of_ble_eq_true rfl) (Nat.le_of_ble_eq_true rfl) ?_
      have hP9 := hP
      have hD9 := hD
      have hK9 := (rgK2_b4df2fa hK)
      have hf9_0 : (0 ≤ f5_0_3.toInt ∧ f5_0_3.toInt ≤ 1000) := by omega
      exact W.vret hx hb hr (fun t ht hW => ⟨⟨(), rfl, trivial, f5_0_3, r4, f5_0_6, hf9_0, atB ht hP9, va_K.moved hW.alike hK9, hD9⟩, hS.F ht⟩) hS.2.2 dX7_takeWord_109
    · have c90_3 : ¬ (x2.toInt ≤ 8) := mt (cv_le rfl (by decide)).mpr c90_3
      refine lv_bipush (v := 16) hx hb dX7_takeWord_93 (by decide) ?_
      refine lv_goto (tgt := 106) hx hb dX7_takeWord_95 (by decide) ?_
      refine va_put (D := (dC, dI)) (ci := 6) (v := .int 16) (ty := .int) (C := RX7) (T := TX7) (N := 8) hx hb hts inlX7 tyX7 tyX7_ok nmX7 hown hK hP hD hS 0 rgL3_619f1f5 rfl 4 (by decide) (hts (.fieldLink RX7 52 "ClosedUntil$Tokens" "kind" "I") qw_67) (fun _ h9 => h9) rfl (by decide +kernel) rfl rfl (Nat.le_of_ble_eq_true rfl) dX7_takeWord_106 (fun H locs hP9 hD9 hS9 => ?_)
      clear hP hD hS
      obtain ⟨hP, hD⟩ := rgS3_dd231b9 (e := (a0, .inr (6, [.ref a0_0, .ref a0_1, .int a0_2, .int f5_0_3, .int 16, .int a0_5, .long f5_0_6, .int a0_7]))) hP9 hD9 rfl
      have hS := hS9; clear hP9 hD9 hS9
      have qc16 : (16 : Int32).toInt = 16 := by decide
      refine W.widen (k := 0) (n := 0) (Nat.le_of_ble_eq_true rfl) (Nat.le_of_ble_eq_true rfl) ?_
      have hP9 := hP
      have hD9 := hD
      have hK9 := (rgK2_b4df2fa hK)
      have hf9_0 : (0 ≤ f5_0_3.toInt ∧ f5_0_3.toInt ≤ 1000) := by omega
      exact W.vret hx hb hr (fun t ht hW => ⟨⟨(), rfl, trivial, f5_0_3, 16, f5_0_6, hf9_0, atB ht hP9, va_K.moved hW.alike hK9, hD9⟩, hS.F ht⟩) hS.2.2 dX7_takeWord_109
  · have c13_1 : ¬ (a0_2.toInt ≤ f5_0_3.toInt) := mt (cv_le rfl rfl).mpr c13_1
    refine lv_aload_n hx hb dX7_takeWord_16 rfl (lv_at hl 0 rfl) ?_
    refine va_get (D := (dC, dI)) (ci := 6) (v := .ref a0_1) (C := RX7) (T := TX7) (N := 8) hx hb hts inlX7 hown hK hP 0 rgL3_619f1f5 rfl 1 (by decide) (hts (.fieldLink RX7 13 "ClosedUntil$Tokens" "bytes" "[B") qw_68) (fun _ h9 => h9) rfl dX7_takeWord_17 ?_
    refine lv_aload_n hx hb dX7_takeWord_20 rfl (lv_at hl 0 rfl) ?_
    refine va_get (D := (dC, dI)) (ci := 6) (v := .int f5_0_3) (C := RX7) (T := TX7) (N := 8) hx hb hts inlX7 hown hK hP 0 rgL3_619f1f5 rfl 3 (by decide) (hts (.fieldLink RX7 43 "ClosedUntil$Tokens" "at" "I") qw_64) (fun _ h9 => h9) rfl dX7_takeWord_21 ?_
    refine va_bald hx hb hK hP 2 1 rgL3_2e0c0f7 rgT2_d592b55 (vinI (by omega) (by omega)) dX7_takeWord_24 ?_
    refine lv_topi (fun x5 e_x5 => ?_)
    have b_x5 := i32b x5
    have hPc := (rgP3_953bfe7 hP)
    have hKc := (rgK2_b4df2fa hK)
    refine vp_callSi ((va_runS (As := [.int x5]) (rest := []) ⟨hx, hb, hml, hown, hts⟩ (k_X7_isLetter l dC dI g (x5) ) (va_cwS 1 hts (gwS qw_79 qw_80 qw_70 qw_78) rfl rfl rfl (by decide +kernel) ⟨Nat.le_of_ble_eq_true rfl, Nat.le_of_ble_eq_true rfl⟩) ⟨fun a U g9 mk q => ⟨q.1, q.2.1, va_K.moved (u := U) (U := U.calling g9 mk a) (Vm.Alike.refl U.vm) q.2.2.1, Ev.bl q.2.2.2⟩, fun U hU hW => ⟨rfl, atB hU hPc, va_K.moved hW.alike hKc, hE.go hS (fun _ h => h.elim) hU hW⟩⟩ rfl rfl hl.1 rfl (lv_room (Nat.le_of_ble_eq_true rfl)) dX7_takeWord_25 ⟨Nat.le_of_ble_eq_true rfl, Nat.le_of_ble_eq_true rfl⟩)).run (fun r6 h_r6 => ?_)
    have h_r6 : (r6 = 0 ∨ r6 = 1) := h_r6
    have b_r6 := z01 (show r6 = 0 ∨ r6 = 1 from h_r6)
    refine lv_if_eq (tgt := 78) hx hb dX7_takeWord_28 (by decide) (fun c28_7 => ?_) (fun c28_7 => ?_)
    · have c28_7 : r6.toInt = 0 := (cv_eq rfl (by decide)).mp c28_7
      refine lv_aload_n hx hb dX7_takeWord_78 rfl (lv_at hl 0 rfl) ?_
      refine lv_aload_n hx hb dX7_takeWord_79 rfl (lv_at hl 0 rfl) ?_
      refine va_get (D := (dC, dI)) (ci := 6) (v := .int f5_0_3) (C := RX7) (T := TX7) (N := 8) hx hb hts inlX7 hown hK hP 0 rgL3_619f1f5 rfl 3 (by decide) (hts (.fieldLink RX7 43 "ClosedUntil$Tokens" "at" "I") qw_64) (fun _ h9 => h9) rfl dX7_takeWord_80 ?_
      refine lv_aload_n hx hb dX7_takeWord_83 rfl (lv_at hl 0 rfl) ?_
      refine va_get (D := (dC, dI)) (ci := 6) (v := .int a0_5) (C := RX7) (T := TX7) (N := 8) hx hb hts inlX7 hown hK hP 0 rgL3_619f1f5 rfl 5 (by decide) (hts (.fieldLink RX7 49 "ClosedUntil$Tokens" "place" "I") qw_66) (fun _ h9 => h9) rfl dX7_takeWord_84 ?_
      refine lv_isub hx hb dX7_takeWord_87 ?_
      refine lv_topi (fun x8 e_x8 => ?_)
      try have e_x8 := ti_sub e_x8 rfl rfl (by omega)
      refine lv_bipush (v := 8) hx hb dX7_takeWord_88 (by decide) ?_
      refine lv_icmp_le (tgt := 98) hx hb dX7_takeWord_90 (by decide) (fun c90_9 => ?_) (fun c90_9 => ?_)
      · have c90_9 : x8.toInt ≤ 8 := (cv_le rfl (by decide)).mp c90_9
        refine lv_aload_n hx hb dX7_takeWord_98 rfl (lv_at hl 0 rfl) ?_
        refine lv_aload_n hx hb dX7_takeWord_99 rfl (lv_at hl 0 rfl) ?_
        refine va_get (D := (dC, dI)) (ci := 6) (v := .long f5_0_6) (C := RX7) (T := TX7) (N := 8) hx hb hts inlX7 hown hK hP 0 rgL3_619f1f5 rfl 6 (by decide) (hts (.fieldLink RX7 68 "ClosedUntil$Tokens" "word" "J") qw_73) (fun _ h9 => h9) rfl dX7_takeWord_100 ?_
        have hPc := (rgP3_dd6138b hP)
        have hKc := (rgK2_58023b0 hK)
        refine vp_callSi ((va_runV (As := [.long f5_0_6]) (rest := [.ref a0]) ⟨hx, hb, hml, hown, hts⟩ (k_X7_kindOf l dC dI g (a0) (f5_0_6) (a0_0) (a0_1) (a0_2) (f5_0_3) (a0_4) (a0_5) (f5_0_6) (a0_7) (a0_0_c) (a0_0_f) (by omega) (by omega) (by omega)) (cwV 1 hts (gwV qw_75 qw_76 qw_77 qw_70 qw_74) rfl rfl rfl (by decide +kernel) ⟨Nat.le_of_ble_eq_true rfl, Nat.le_of_ble_eq_true rfl⟩) ⟨fun a U g9 mk q => ⟨q.1, q.2.1, va_K.moved (u := U) (U := U.calling g9 mk a) (Vm.Alike.refl U.vm) q.2.2.1, Ev.bl q.2.2.2⟩, va_recv hK hP (ci := 6) (q0 := 0) rfl rgL3_619f1f5, fun U hU hW => ⟨rfl, atB hU hPc, va_K.moved hW.alike hKc, hE.go hS (fun _ h => h.elim) hU hW⟩⟩ rfl rfl hl.1 rfl (lv_room (Nat.le_of_ble_eq_true rfl)) dX7_takeWord_103 ⟨Nat.le_of_ble_eq_true rfl, Nat.le_of_ble_eq_true rfl⟩)).run (fun r10 h_r10 => ?_)
        have b_r10 := i32b r10
        refine va_put (D := (dC, dI)) (ci := 6) (v := .int r10) (ty := .int) (C := RX7) (T := TX7) (N := 8) hx hb hts inlX7 tyX7 tyX7_ok nmX7 hown hK hP hD hS 0 rgL3_619f1f5 rfl 4 (by decide) (hts (.fieldLink RX7 52 "ClosedUntil$Tokens" "kind" "I") qw_67) (fun _ h9 => h9) rfl (by decide +kernel) rfl rfl (Nat.le_of_ble_eq_true rfl) dX7_takeWord_106 (fun H locs hP9 hD9 hS9 => ?_)
        clear hP hD hS
        obtain ⟨hP, hD⟩ := rgS3_dd231b9 (e := (a0, .inr (6, [.ref a0_0, .ref a0_1, .int a0_2, .int f5_0_3, .int r10, .int a0_5, .long f5_0_6, .int a0_7]))) hP9 hD9 rfl
        have hS := hS9; clear hP9 hD9 hS9
        refine W.widen (k := 0) (n := 0) (Nat.le_of_ble_eq_true rfl) (Nat.le_of_ble_eq_true rfl) ?_
        have hP9 := hP
        have hD9 := hD
        have hK9 := (rgK2_b4df2fa hK)
        have hf9_0 : (0 ≤ f5_0_3.toInt ∧ f5_0_3.toInt ≤ 1000) := by omega
        exact W.vret hx hb hr (fun t ht hW => ⟨⟨(), rfl, trivial, f5_0_3, r10, f5_0_6, hf9_0, atB ht hP9, va_K.moved hW.alike hK9, hD9⟩, hS.F ht⟩) hS.2.2 dX7_takeWord_109
      · have c90_9 : ¬ (x8.toInt ≤ 8) := mt (cv_le rfl (by decide)).mpr c90_9
        refine lv_bipush (v := 16) hx hb dX7_takeWord_93 (by decide) ?_
        refine lv_goto (tgt := 106) hx hb dX7_takeWord_95 (by decide) ?_
        refine va_put (D := (dC, dI)) (ci := 6) (v := .int 16) (ty := .int) (C := RX7) (T := TX7) (N := 8) hx hb hts inlX7 tyX7 tyX7_ok nmX7 hown hK hP hD hS 0 rgL3_619f1f5 rfl 4 (by decide) (hts (.fieldLink RX7 52 "ClosedUntil$Tokens" "kind" "I") qw_67) (fun _ h9 => h9) rfl (by decide +kernel) rfl rfl (Nat.le_of_ble_eq_true rfl) dX7_takeWord_106 (fun H locs hP9 hD9 hS9 => ?_)
        clear hP hD hS
        obtain ⟨hP, hD⟩ := rgS3_dd231b9 (e := (a0, .inr (6, [.ref a0_0, .ref a0_1, .int a0_2, .int f5_0_3, .int 16, .int a0_5, .long f5_0_6, .int a0_7]))) hP9 hD9 rfl
        have hS := hS9; clear hP9 hD9 hS9
        have qc16 : (16 : Int32).toInt = 16 := by decide
        refine W.widen (k := 0) (n := 0) (Nat.le_of_ble_eq_true rfl) (Nat.le_of_ble_eq_true rfl) ?_
        have hP9 := hP
        have hD9 := hD
        have hK9 := (rgK2_b4df2fa hK)
        have hf9_0 : (0 ≤ f5_0_3.toInt ∧ f5_0_3.toInt ≤ 1000) := by omega
        exact W.vret hx hb hr (fun t ht hW => ⟨⟨(), rfl, trivial, f5_0_3, 16, f5_0_6, hf9_0, atB ht hP9, va_K.moved hW.alike hK9, hD9⟩, hS.F ht⟩) hS.2.2 dX7_takeWord_109
    · have c28_7 : ¬ (r6.toInt = 0) := mt (cv_eq rfl (by decide)).mpr c28_7
      refine lv_aload_n hx hb dX7_takeWord_31 rfl (lv_at hl 0 rfl) ?_
      refine va_get (D := (dC, dI)) (ci := 6) (v := .int f5_0_3) (C := RX7) (T := TX7) (N := 8) hx hb hts inlX7 hown hK hP 0 rgL3_619f1f5 rfl 3 (by decide) (hts (.fieldLink RX7 43 "ClosedUntil$Tokens" "at" "I") qw_64) (fun _ h9 => h9) rfl dX7_takeWord_32 ?_
      refine lv_aload_n hx hb dX7_takeWord_35 rfl (lv_at hl 0 rfl) ?_
      refine va_get (D := (dC, dI)) (ci := 6) (v := .int a0_5) (C := RX7) (T := TX7) (N := 8) hx hb hts inlX7 hown hK hP 0 rgL3_619f1f5 rfl 5 (by decide) (hts (.fieldLink RX7 49 "ClosedUntil$Tokens" "place" "I") qw_66) (fun _ h9 => h9) rfl dX7_takeWord_36 ?_
      refine lv_isub hx hb dX7_takeWord_39 ?_
      refine lv_topi (fun x11 e_x11 => ?_)
      try have e_x11 := ti_sub e_x11 rfl rfl (by omega)
      refine lv_bipush (v := 8) hx hb dX7_takeWord_40 (by decide) ?_
      refine lv_icmp_ge (tgt := 65) hx hb dX7_takeWord_42 (by decide) (fun c42_12 => ?_) (fun c42_12 => ?_)
      · have c42_12 : 8 ≤ x11.toInt := (cv_le (by decide) rfl).mp c42_12
        refine lv_aload_n hx hb dX7_takeWord_65 rfl (lv_at hl 0 rfl) ?_
        refine lv_dup hx hb dX7_takeWord_66 rfl ?_
        refine va_get (D := (dC, dI)) (ci := 6) (v := .int f5_0_3) (C := RX7) (T := TX7) (N := 8) hx hb hts inlX7 hown hK hP 0 rgL3_619f1f5 rfl 3 (by decide) (hts (.fieldLink RX7 43 "ClosedUntil$Tokens" "at" "I") qw_64) (fun _ h9 => h9) rfl dX7_takeWord_67 ?_
        refine lv_iconst (v := 1) hx hb dX7_takeWord_70 (by decide) ?_
        refine lv_iadd hx hb dX7_takeWord_71 ?_
        refine lv_topi (fun x13 e_x13 => ?_)
        try have e_x13 := ti_add e_x13 rfl (show (1 : Int32).toInt = 1 by decide) (by omega)
        refine va_put (D := (dC, dI)) (ci := 6) (v := .int x13) (ty := .int) (C := RX7) (T := TX7) (N := 8) hx hb hts inlX7 tyX7 tyX7_ok nmX7 hown hK hP hD hS 0 rgL3_619f1f5 rfl 3 (by decide) (hts (.fieldLink RX7 43 "ClosedUntil$Tokens" "at" "I") qw_64) (fun _ h9 => h9) rfl (by decide +kernel) rfl rfl (Nat.le_of_ble_eq_true rfl) dX7_takeWord_72 (fun H locs hP9 hD9 hS9 => ?_)
        clear hP hD hS
        obtain ⟨hP, hD⟩ := rgS3_dd231b9 (e := (a0, .inr (6, [.ref a0_0, .ref a0_1, .int a0_2, .int x13, .int a0_4, .int a0_5, .long f5_0_6, .int a0_7]))) hP9 hD9 rfl
        have hS := hS9; clear hP9 hD9 hS9
        refine lv_goto (tgt := 5) hx hb dX7_takeWord_75 (by decide) ?_
        exact ih5 ((1000 - x13.toInt).toNat) _ _ _ (by omega) ⟨x13, f5_0_6, rfl, (by omega), lv_sub hl [0] rfl, hP, hD, hS⟩
      · have c42_12 : ¬ (8 ≤ x11.toInt) := mt (cv_le (by decide) rfl).mpr c42_12
        refine lv_aload_n hx hb dX7_takeWord_45 rfl (lv_at hl 0 rfl) ?_
        refine lv_aload_n hx hb dX7_takeWord_46 rfl (lv_at hl 0 rfl) ?_
        refine va_get (D := (dC, dI)) (ci := 6) (v := .long f5_0_6) (C := RX7) (T := TX7) (N := 8) hx hb hts inlX7 hown hK hP 0 rgL3_619f1f5 rfl 6 (by decide) (hts (.fieldLink RX7 68 "ClosedUntil$Tokens" "word" "J") qw_73) (fun _ h9 => h9) rfl dX7_takeWord_47 ?_
        refine lv_aload_n hx hb dX7_takeWord_50 rfl (lv_at hl 0 rfl) ?_
        refine va_get (D := (dC, dI)) (ci := 6) (v := .ref a0_1) (C := RX7) (T := TX7) (N := 8) hx hb hts inlX7 hown hK hP 0 rgL3_619f1f5 rfl 1 (by decide) (hts (.fieldLink RX7 13 "ClosedUntil$Tokens" "bytes" "[B") qw_68) (fun _ h9 => h9) rfl dX7_takeWord_51 ?_
        refine lv_aload_n hx hb dX7_takeWord_54 rfl (lv_at hl 0 rfl) ?_
        refine va_get (D := (dC, dI)) (ci := 6) (v := .int f5_0_3) (C := RX7) (T := TX7) (N := 8) hx hb hts inlX7 hown hK hP 0 rgL3_619f1f5 rfl 3 (by decide) (hts (.fieldLink RX7 43 "ClosedUntil$Tokens" "at" "I") qw_64) (fun _ h9 => h9) rfl dX7_takeWord_55 ?_
        refine va_bald hx hb hK hP 2 1 rgL3_2e0c0f7 rgT2_d592b55 (vinI (by omega) (by omega)) dX7_takeWord_58 ?_
        refine lv_topi (fun x14 e_x14 => ?_)
        have b_x14 := i32b x14
        have hPc := (rgP3_953bfe7 hP)
        have hKc := (rgK2_b4df2fa hK)
        refine vp_callSl ((va_runS (As := [.long f5_0_6, .int x14]) (rest := [.ref a0]) ⟨hx, hb, hml, hown, hts⟩ (k_X7_withLetter l dC dI g (f5_0_6) (x14) ) (va_cwS 2 hts (gwS qw_82 qw_83 qw_70 qw_81) rfl rfl rfl (by decide +kernel) ⟨Nat.le_of_ble_eq_true rfl, Nat.le_of_ble_eq_true rfl⟩) ⟨fun a U g9 mk q => ⟨q.1, q.2.1, va_K.moved (u := U) (U := U.calling g9 mk a) (Vm.Alike.refl U.vm) q.2.2.1, Ev.bl q.2.2.2⟩, fun U hU hW => ⟨rfl, atB hU hPc, va_K.moved hW.alike hKc, hE.go hS (fun _ h => h.elim) hU hW⟩⟩ rfl rfl hl.1 rfl (lv_room (Nat.le_of_ble_eq_true rfl)) dX7_takeWord_59 ⟨Nat.le_of_ble_eq_true rfl, Nat.le_of_ble_eq_true rfl⟩)).run (fun r15 h_r15 => ?_)
        refine va_put (D := (dC, dI)) (ci := 6) (v := .long r15) (ty := .long) (C := RX7) (T := TX7) (N := 8) hx hb hts inlX7 tyX7 tyX7_ok nmX7 hown hK hP hD hS 0 rgL3_619f1f5 rfl 6 (by decide) (hts (.fieldLink RX7 68 "ClosedUntil$Tokens" "word" "J") qw_73) (fun _ h9 => h9) rfl (by decide +kernel) rfl rfl (Nat.le_of_ble_eq_true rfl) dX7_takeWord_62 (fun H locs hP9 hD9 hS9 => ?_)
        clear hP hD hS
        obtain ⟨hP, hD⟩ := rgS3_dd231b9 (e := (a0, .inr (6, [.ref a0_0, .ref a0_1, .int a0_2, .int f5_0_3, .int a0_4, .int a0_5, .long r15, .int a0_7]))) hP9 hD9 rfl
        have hS := hS9; clear hP9 hD9 hS9
        refine lv_aload_n hx hb dX7_takeWord_65 rfl (lv_at hl 0 rfl) ?_
        refine lv_dup hx hb dX7_takeWord_66 rfl ?_
        refine va_get (D := (dC, dI)) (ci := 6) (v := .int f5_0_3) (C := RX7) (T := TX7) (N := 8) hx hb hts inlX7 hown hK hP 0 rgL3_619f1f5 rfl 3 (by decide) (hts (.fieldLink RX7 43 "ClosedUntil$Tokens" "at" "I") qw_64) (fun _ h9 => h9) rfl dX7_takeWord_67 ?_
        refine lv_iconst (v := 1) hx hb dX7_takeWord_70 (by decide) ?_
        refine lv_iadd hx hb dX7_takeWord_71 ?_
        refine lv_topi (fun x16 e_x16 => ?_)
        try have e_x16 := ti_add e_x16 rfl (show (1 : Int32).toInt = 1 by decide) (by omega)
        refine va_put (D := (dC, dI)) (ci := 6) (v := .int x16) (ty := .int) (C := RX7) (T := TX7) (N := 8) hx hb hts inlX7 tyX7 tyX7_ok nmX7 hown hK hP hD hS 0 rgL3_619f1f5 rfl 3 (by decide) (hts (.fieldLink RX7 43 "ClosedUntil$Tokens" "at" "I") qw_64) (fun _ h9 => h9) rfl (by decide +kernel) rfl rfl (Nat.le_of_ble_eq_true rfl) dX7_takeWord_72 (fun H locs hP9 hD9 hS9 => ?_)
        clear hP hD hS
        obtain ⟨hP, hD⟩ := rgS3_dd231b9 (e := (a0, .inr (6, [.ref a0_0, .ref a0_1, .int a0_2, .int x16, .int a0_4, .int a0_5, .long r15, .int a0_7]))) hP9 hD9 rfl
        have hS := hS9; clear hP9 hD9 hS9
        refine lv_goto (tgt := 5) hx hb dX7_takeWord_75 (by decide) ?_
        exact ih5 ((1000 - x16.toInt).toNat) _ _ _ (by omega) ⟨x16, r15, rfl, (by omega), lv_sub hl [0] rfl, hP, hD, hS⟩
set_option maxHeartbeats 4000000 in
set_option maxRecDepth 100000 in
theorem k_X7_advance (l : Launch) (dC : Nat → ClassId) (dI : Nat → Nat → Nat) (g : Gv) (sz : Nat) (a0 : Nat) (a0_0 : Nat) (a0_1 : Nat) (a0_2 : Int32) (a0_3 : Int32) (a0_4 : Int32) (a0_5 : Int32) (a0_6 : Int64) (a0_7 : Int32) (a0_0_c : ClassId) (a0_0_f : Nat → Int64) (a0_1_c : ClassId) (a0_1_f : Nat → Int32) (h_a0_2 : 0 ≤ a0_2.toInt ∧ a0_2.toInt ≤ 1000) (h_a0_3 : 0 ≤ a0_3.toInt ∧ a0_3.toInt ≤ 1000) (h_a0_5 : 0 ≤ a0_5.toInt ∧ a0_5.toInt ≤ 1000) : Met l yX7_advance (.code yX7_advance cX7_advance 1 none :: TBL) ({ frames := 2, cells := 0, slots := 0, locals := 43 }) (va_Pc [.ref a0] (fun U => U.heap.size = sz ∧ va_P (dC, dI) vwCl [(a0, .inr (6, [.ref a0_0, .ref a0_1, .int a0_2, .int a0_3, .int a0_4, .int a0_5, .long a0_6, .int a0_7])), (a0_0, .inl (a0_0_c, 12, .inr (.inl a0_0_f))), (a0_1, .inl (a0_1_c, 1000, .inl a0_1_f))] U.heap ∧ va_K (dC, dI) vwCl [(a0_0_c, .long), (a0_1_c, .byte)] U ∧ va_D (fun _ => True) [(a0, .inr (6, [.ref a0_0, .ref a0_1, .int a0_2, .int a0_3, .int a0_4, .int a0_5, .long a0_6, .int a0_7])), (a0_0, .inl (a0_0_c, 12, .inr (.inl a0_0_f))), (a0_1, .inl (a0_1_c, 1000, .inl a0_1_f))] ∧ Ev g (va_A [(a0, .inr (6, [.ref a0_0, .ref a0_1, .int a0_2, .int a0_3, .int a0_4, .int a0_5, .long a0_6, .int a0_7])), (a0_0, .inl (a0_0_c, 12, .inr (.inl a0_0_f))), (a0_1, .inl (a0_1_c, 1000, .inl a0_1_f))] sz) U)) (va_Qv (fun (_ : Unit) => True) (fun (_ : Unit) (t : State) => ∃ (za0_3 : Int32) (za0_4 : Int32) (za0_5 : Int32) (za0_6 : Int64) (za0_7 : Int32), (0 ≤ za0_3.toInt ∧ za0_3.toInt ≤ 1000) ∧ (0 ≤ za0_5.toInt ∧ za0_5.toInt ≤ 1000) ∧ va_P (dC, dI) vwCl [(a0, .inr (6, [.ref a0_0, .ref a0_1, .int a0_2, .int za0_3, .int za0_4, .int za0_5, .long za0_6, .int za0_7])), (a0_0, .inl (a0_0_c, 12, .inr (.inl a0_0_f))), (a0_1, .inl (a0_1_c, 1000, .inl a0_1_f))] t.heap ∧ va_K (dC, dI) vwCl [] t ∧ va_D (va_A [(a0, .inr (6, [.ref a0_0, .ref a0_1, .int a0_2, .int a0_3, .int a0_4, .int a0_5, .long a0_6, .int a0_7])), (a0_0, .inl (a0_0_c, 12, .inr (.inl a0_0_f))), (a0_1, .inl (a0_1_c, 1000, .inl a0_1_f))] sz) [(a0, .inr (6, [.ref a0_0, .ref a0_1, .int a0_2, .int za0_3, .int za0_4, .int za0_5, .long za0_6, .int za0_7])), (a0_0, .inl (a0_0_c, 12, .inr (.inl a0_0_f))), (a0_1, .inl (a0_1_c, 1000, .inl a0_1_f))]) (va_A [(a0, .inr (6, [.ref a0_0, .ref a0_1, .int a0_2, .int a0_3, .int a0_4, .int a0_5, .long a0_6, .int a0_7])), (a0_0, .inl (a0_0_c, 12, .inr (.inl a0_0_f))), (a0_1, .inl (a0_1_c, 1000, .inl a0_1_f))] sz)) 0 0 (va_A [(a0, .inr (6, [.ref a0_0, .ref a0_1, .int a0_2, .int a0_3, .int a0_4, .int a0_5, .long a0_6, .int a0_7])), (a0_0, .inl (a0_0_c, 12, .inr (.inl a0_0_f))), (a0_1, .inl (a0_1_c, 1000, .inl a0_1_f))] sz) := by
  refine Met.ofW (cc := cX7_advance) (maxL := 1) (ret := none) (by decide) rfl ?_
  intro p e s m args below meth c s₁ B hml hv
  obtain ⟨rfl, hsz, hP, hK, hD0, hE⟩ := hv
  have hx := B.exec
  have hb := B.bytes
  have hr := B.returns
  have hts0 := atoms_spec (ws := (.code yX7_advance cX7_advance 1 none :: TBL)) B.pre
  have hts := fun (w : Cond) (h : w ∈ TBL) => hts0 w (List.mem_cons_of_mem _ h)
  have hown : s.vm.findClass RX7 = some m.cls := findClass_of_methodNamed B.named
  have hlocks := B.notSynchronized
  have hN := hE.1
  subst hsz
  have hD := hD0.self (sz := s.heap.size)
  generalize hAe : va_A [(a0, .inr (6, [.ref a0_0, .ref a0_1, .int a0_2, .int a0_3, .int a0_4, .int a0_5, .long a0_6, .int a0_7])), (a0_0, .inl (a0_0_c, 12, .inr (.inl a0_0_f))), (a0_1, .inl (a0_1_c, 1000, .inl a0_1_f))] s.heap.size = A at hD hE ⊢
  have hA : ∀ q : Nat, s.heap.size ≤ q → A q := fun q h => by rw [← hAe]; exact Or.inr h
  have hS : va_S A s.heap s.heap [] := va_S.rf
  replace hP : va_P (dC, dI) vwCl [(a0, .inr (6, [.ref a0_0, .ref a0_1, .int a0_2, .int a0_3, .int a0_4, .int a0_5, .long a0_6, .int a0_7])), (a0_0, .inl (a0_0_c, 12, .inr (.inl a0_0_f))), (a0_1, .inl (a0_1_c, 1000, .inl a0_1_f))] s.heap := hP
  have hl := lv_entry ([.ref a0]) (n := 1) (Nat.le_of_ble_eq_true rfl)
  rw [lg_entry_eq]
  generalize (lg_sl ([.ref a0]) ++ List.replicate (1 - (lg_sl ([.ref a0])).length) Slot.unset).toArray = ls at hl ⊢
  have hl : lv_has ls 1 [(0, .ref a0)] := hl
  have b_a0_4 := i32b a0_4
  have b_a0_7 := i32b a0_7
  refine wloop (fun n H locs ls => ∃ (f0_0_3 : Int32), n = (1000 - f0_0_3.toInt).toNat ∧ ((0 ≤ f0_0_3.toInt ∧ f0_0_3.toInt ≤ 1000)) ∧ lv_has ls 1 [(0, .ref a0)] ∧ va_P (dC, dI) vwCl [(a0, .inr (6, [.ref a0_0, .ref a0_1, .int a0_2, .int f0_0_3, .int a0_4, .int a0_5, .long a0_6, .int a0_7])), (a0_0, .inl (a0_0_c, 12, .inr (.inl a0_0_f))), (a0_1, .inl (a0_1_c, 1000, .inl a0_1_f))] H ∧ va_D A [(a0, .inr (6, [.ref a0_0, .ref a0_1, .int a0_2, .int f0_0_3, .int a0_4, .int a0_5, .long a0_6, .int a0_7])), (a0_0, .inl (a0_0_c, 12, .inr (.inl a0_0_f))), (a0_1, .inl (a0_1_c, 1000, .inl a0_1_f))] ∧ va_S A s.heap H locs) ?_ ((1000 - a0_3.toInt).toNat) _ _ _ ⟨a0_3, rfl, (by omega), lv_sub hl [0] rfl, hP, hD, hS⟩
  intro n0 H locs ls hI ih0
  obtain ⟨f0_0_3, hn0, g_f0_0_3, hl, hP, hD, hS⟩ := hI
  have b_f0_0_3 := i32b f0_0_3
  refine lv_aload_n hx hb dX7_advance_0 rfl (lv_at hl 0 rfl) ?_
  refine va_get (D := (dC, dI)) (ci := 6) (v := .int f0_0_3) (C := RX7) (T := TX7) (N := 8) hx hb hts inlX7 hown hK hP 0 rgL3_619f1f5 rfl 3 (by decide) (hts (.fieldLink RX7 43 "ClosedUntil$Tokens" "at" "I") qw_64) (fun _ h9 => h9) rfl dX7_advance_1 ?_
  refine lv_aload_n hx hb dX7_advance_4 rfl (lv_at hl 0 rfl) ?_
  refine va_get (D := (dC, dI)) (ci := 6) (v := .int a0_2) (C := RX7) (T := TX7) (N := 8) hx hb hts inlX7 hown hK hP 0 rgL3_619f1f5 rfl 2 (by decide) (hts (.fieldLink RX7 39 "ClosedUntil$Tokens" "end" "I") qw_65) (fun _ h9 => h9) rfl dX7_advance_5 ?_
  refine lv_icmp_ge (tgt := 52) hx hb dX7_advance_8 (by decide) (fun c8_1 => ?_) (fun c8_1 => ?_)
  · have c8_1 : a0_2.toInt ≤ f0_0_3.toInt := (cv_le rfl rfl).mp c8_1
    refine lv_aload_n hx hb dX7_advance_52 rfl (lv_at hl 0 rfl) ?_
    refine lv_aload_n hx hb dX7_advance_53 rfl (lv_at hl 0 rfl) ?_
    refine va_get (D := (dC, dI)) (ci := 6) (v := .int f0_0_3) (C := RX7) (T := TX7) (N := 8) hx hb hts inlX7 hown hK hP 0 rgL3_619f1f5 rfl 3 (by decide) (hts (.fieldLink RX7 43 "ClosedUntil$Tokens" "at" "I") qw_64) (fun _ h9 => h9) rfl dX7_advance_54 ?_
    refine va_put (D := (dC, dI)) (ci := 6) (v := .int f0_0_3) (ty := .int) (C := RX7) (T := TX7) (N := 8) hx hb hts inlX7 tyX7 tyX7_ok nmX7 hown hK hP hD hS 0 rgL3_619f1f5 rfl 5 (by decide) (hts (.fieldLink RX7 49 "ClosedUntil$Tokens" "place" "I") qw_66) (fun _ h9 => h9) rfl (by decide +kernel) rfl rfl (Nat.le_of_ble_eq_true rfl) dX7_advance_57 (fun H locs hP9 hD9 hS9 => ?_)
    clear hP hD hS
    obtain ⟨hP, hD⟩ := rgS3_dd231b9 (e := (a0, .inr (6, [.ref a0_0, .ref a0_1, .int a0_2, .int f0_0_3, .int a0_4, .int f0_0_3, .long a0_6, .int a0_7]))) hP9 hD9 rfl
    have hS := hS9; clear hP9 hD9 hS9
    refine lv_aload_n hx hb dX7_advance_60 rfl (lv_at hl 0 rfl) ?_
    refine va_get (D := (dC, dI)) (ci := 6) (v := .int f0_0_3) (C := RX7) (T := TX7) (N := 8) hx hb hts inlX7 hown hK hP 0 rgL3_619f1f5 rfl 3 (by decide) (hts (.fieldLink RX7 43 "ClosedUntil$Tokens" "at" "I") qw_64) (fun _ h9 => h9) rfl dX7_advance_61 ?_
    refine lv_aload_n hx hb dX7_advance_64 rfl (lv_at hl 0 rfl) ?_
    refine va_get (D := (dC, dI)) (ci := 6) (v := .int a0_2) (C := RX7) (T := TX7) (N := 8) hx hb hts inlX7 hown hK hP 0 rgL3_619f1f5 rfl 2 (by decide) (hts (.fieldLink RX7 39 "ClosedUntil$Tokens" "end" "I") qw_65) (fun _ h9 => h9) rfl dX7_advance_65 ?_
    refine lv_icmp_lt (tgt := 80) hx hb dX7_advance_68 (by decide) (fun c68_2 => ?_) (fun c68_2 => ?_)
    · have c68_2 : f0_0_3.toInt < a0_2.toInt := (cv_lt rfl rfl).mp c68_2
      refine lv_aload_n hx hb dX7_advance_80 rfl (lv_at hl 0 rfl) ?_
      refine va_get (D := (dC, dI)) (ci := 6) (v := .ref a0_1) (C := RX7) (T := TX7) (N := 8) hx hb hts inlX7 hown hK hP 0 rgL3_619f1f5 rfl 1 (by decide) (hts (.fieldLink RX7 13 "ClosedUntil$Tokens" "bytes" "[B") qw_68) (fun _ h9 => h9) rfl dX7_advance_81 ?_
      refine lv_aload_n hx hb dX7_advance_84 rfl (lv_at hl 0 rfl) ?_
      refine va_get (D := (dC, dI)) (ci := 6) (v := .int f0_0_3) (C := RX7) (T := TX7) (N := 8) hx hb hts inlX7 hown hK hP 0 rgL3_619f1f5 rfl 3 (by decide) (hts (.fieldLink RX7 43 "ClosedUntil$Tokens" "at" "I") qw_64) (fun _ h9 => h9) rfl dX7_advance_85 ?_
      refine va_bald hx hb hK hP 2 1 rgL3_2e0c0f7 rgT2_d592b55 (vinI (by omega) (by omega)) dX7_advance_88 ?_
      refine lv_topi (fun x3 e_x3 => ?_)
      have b_x3 := i32b x3
      have hPc := (rgP3_953bfe7 hP)
      have hKc := (rgK2_b4df2fa hK)
      refine vp_callSi ((va_runS (As := [.int x3]) (rest := []) ⟨hx, hb, hml, hown, hts⟩ (k_X7_isLetter l dC dI g (x3) ) (va_cwS 1 hts (gwS qw_79 qw_80 qw_70 qw_78) rfl rfl rfl (by decide +kernel) ⟨Nat.le_of_ble_eq_true rfl, Nat.le_of_ble_eq_true rfl⟩) ⟨fun a U g9 mk q => ⟨q.1, q.2.1, va_K.moved (u := U) (U := U.calling g9 mk a) (Vm.Alike.refl U.vm) q.2.2.1, Ev.bl q.2.2.2⟩, fun U hU hW => ⟨rfl, atB hU hPc, va_K.moved hW.alike hKc, hE.go hS (fun _ h => h.elim) hU hW⟩⟩ rfl rfl hl.1 rfl (lv_room (Nat.le_of_ble_eq_true rfl)) dX7_advance_89 ⟨Nat.le_of_ble_eq_true rfl, Nat.le_of_ble_eq_true rfl⟩)).run (fun r4 h_r4 => ?_)
      have h_r4 : (r4 = 0 ∨ r4 = 1) := h_r4
      have b_r4 := z01 (show r4 = 0 ∨ r4 = 1 from h_r4)
      refine lv_if_eq (tgt := 102) hx hb dX7_advance_92 (by decide) (fun c92_5 => ?_) (fun c92_5 => ?_)
      · have c92_5 : r4.toInt = 0 := (cv_eq rfl (by decide)).mp c92_5
        refine lv_aload_n hx hb dX7_advance_102 rfl (lv_at hl 0 rfl) ?_
        refine va_get (D := (dC, dI)) (ci := 6) (v := .ref a0_1) (C := RX7) (T := TX7) (N := 8) hx hb hts inlX7 hown hK hP 0 rgL3_619f1f5 rfl 1 (by decide) (hts (.fieldLink RX7 13 "ClosedUntil$Tokens" "bytes" "[B") qw_68) (fun _ h9 => h9) rfl dX7_advance_103 ?_
        refine lv_aload_n hx hb dX7_advance_106 rfl (lv_at hl 0 rfl) ?_
        refine va_get (D := (dC, dI)) (ci := 6) (v := .int f0_0_3) (C := RX7) (T := TX7) (N := 8) hx hb hts inlX7 hown hK hP 0 rgL3_619f1f5 rfl 3 (by decide) (hts (.fieldLink RX7 43 "ClosedUntil$Tokens" "at" "I") qw_64) (fun _ h9 => h9) rfl dX7_advance_107 ?_
        refine va_bald hx hb hK hP 2 1 rgL3_2e0c0f7 rgT2_d592b55 (vinI (by omega) (by omega)) dX7_advance_110 ?_
        refine lv_topi (fun x6 e_x6 => ?_)
        have b_x6 := i32b x6
        have hPc := (rgP3_953bfe7 hP)
        have hKc := (rgK2_b4df2fa hK)
        refine vp_callSi ((va_runS (As := [.int x6]) (rest := []) ⟨hx, hb, hml, hown, hts⟩ (k_X7_isDigit l dC dI g (x6) ) (va_cwS 1 hts (gwS qw_71 qw_72 qw_70 qw_69) rfl rfl rfl (by decide +kernel) ⟨Nat.le_of_ble_eq_true rfl, Nat.le_of_ble_eq_true rfl⟩) ⟨fun a U g9 mk q => ⟨q.1, q.2.1, va_K.moved (u := U) (U := U.calling g9 mk a) (Vm.Alike.refl U.vm) q.2.2.1, Ev.bl q.2.2.2⟩, fun U hU hW => ⟨rfl, atB hU hPc, va_K.moved hW.alike hKc, hE.go hS (fun _ h => h.elim) hU hW⟩⟩ rfl rfl hl.1 rfl (lv_room (Nat.le_of_ble_eq_true rfl)) dX7_advance_111 ⟨Nat.le_of_ble_eq_true rfl, Nat.le_of_ble_eq_true rfl⟩)).run (fun r7 h_r7 => ?_)
        have h_r7 : (r7 = 0 ∨ r7 = 1) := h_r7
        have b_r7 := z01 (show r7 = 0 ∨ r7 = 1 from h_r7)
        refine lv_if_eq (tgt := 124) hx hb dX7_advance_114 (by decide) (fun c114_8 => ?_) (fun c114_8 => ?_)
        · have c114_8 : r7.toInt = 0 := (cv_eq rfl (by decide)).mp c114_8
          refine lv_aload_n hx hb dX7_advance_124 rfl (lv_at hl 0 rfl) ?_
          refine lv_aload_n hx hb dX7_advance_125 rfl (lv_at hl 0 rfl) ?_
          refine va_get (D := (dC, dI)) (ci := 6) (v := .ref a0_1) (C := RX7) (T := TX7) (N := 8) hx hb hts inlX7 hown hK hP 0 rgL3_619f1f5 rfl 1 (by decide) (hts (.fieldLink RX7 13 "ClosedUntil$Tokens" "bytes" "[B") qw_68) (fun _ h9 => h9) rfl dX7_advance_126 ?_
          refine lv_aload_n hx hb dX7_advance_129 rfl (lv_at hl 0 rfl) ?_
          refine va_get (D := (dC, dI)) (ci := 6) (v := .int f0_0_3) (C := RX7) (T := TX7) (N := 8) hx hb hts inlX7 hown hK hP 0 rgL3_619f1f5 rfl 3 (by decide) (hts (.fieldLink RX7 43 "ClosedUntil$Tokens" "at" "I") qw_64) (fun _ h9 => h9) rfl dX7_advance_130 ?_
          refine va_bald hx hb hK hP 2 1 rgL3_2e0c0f7 rgT2_d592b55 (vinI (by omega) (by omega)) dX7_advance_133 ?_
          refine lv_topi (fun x9 e_x9 => ?_)
          have b_x9 := i32b x9
          refine lv_bipush (v := 59) hx hb dX7_advance_134 (by decide) ?_
          refine lv_icmp_ne (tgt := 144) hx hb dX7_advance_136 (by decide) (fun c136_10 => ?_) (fun c136_10 => ?_)
          · have c136_10 : ¬ (x9.toInt = 59) := mt (cv_eq rfl (by decide)).mpr c136_10
            refine lv_bipush (v := 16) hx hb dX7_advance_144 (by decide) ?_
            refine va_put (D := (dC, dI)) (ci := 6) (v := .int 16) (ty := .int) (C := RX7) (T := TX7) (N := 8) hx hb hts inlX7 tyX7 tyX7_ok nmX7 hown hK hP hD hS 0 rgL3_619f1f5 rfl 4 (by decide) (hts (.fieldLink RX7 52 "ClosedUntil$Tokens" "kind" "I") qw_67) (fun _ h9 => h9) rfl (by decide +kernel) rfl rfl (Nat.le_of_ble_eq_true rfl) dX7_advance_146 (fun H locs hP9 hD9 hS9 => ?_)
            clear hP hD hS
            obtain ⟨hP, hD⟩ := rgS3_dd231b9 (e := (a0, .inr (6, [.ref a0_0, .ref a0_1, .int a0_2, .int f0_0_3, .int 16, .int f0_0_3, .long a0_6, .int a0_7]))) hP9 hD9 rfl
            have hS := hS9; clear hP9 hD9 hS9
            refine lv_aload_n hx hb dX7_advance_149 rfl (lv_at hl 0 rfl) ?_
            refine lv_dup hx hb dX7_advance_150 rfl ?_
            refine va_get (D := (dC, dI)) (ci := 6) (v := .int f0_0_3) (C := RX7) (T := TX7) (N := 8) hx hb hts inlX7 hown hK hP 0 rgL3_619f1f5 rfl 3 (by decide) (hts (.fieldLink RX7 43 "ClosedUntil$Tokens" "at" "I") qw_64) (fun _ h9 => h9) rfl dX7_advance_151 ?_
            refine lv_iconst (v := 1) hx hb dX7_advance_154 (by decide) ?_
            refine lv_iadd hx hb dX7_advance_155 ?_
            refine lv_topi (fun x11 e_x11 => ?_)
            try have e_x11 := ti_add e_x11 rfl (show (1 : Int32).toInt = 1 by decide) (by omega)
            refine va_put (D := (dC, dI)) (ci := 6) (v := .int x11) (ty := .int) (C := RX7) (T := TX7) (N := 8) hx hb hts inlX7 tyX7 tyX7_ok nmX7 hown hK hP hD hS 0 rgL3_619f1f5 rfl 3 (by decide) (hts (.fieldLink RX7 43 "ClosedUntil$Tokens" "at" "I") qw_64) (fun _ h9 => h9) rfl (by decide +kernel) rfl rfl (Nat.le_of_ble_eq_true rfl) dX7_advance_156 (fun H locs hP9 hD9 hS9 => ?_)
            clear hP hD hS
            obtain ⟨hP, hD⟩ := rgS3_dd231b9 (e := (a0, .inr (6, [.ref a0_0, .ref a0_1, .int a0_2, .int x11, .int 16, .int f0_0_3, .long a0_6, .int a0_7]))) hP9 hD9 rfl
            have hS := hS9; clear hP9 hD9 hS9
            have qc16 : (16 : Int32).toInt = 16 := by decide
            refine W.widen (k := 0) (n := 0) (Nat.le_of_ble_eq_true rfl) (Nat.le_of_ble_eq_true rfl) ?_
            have hP9 := hP
            have hD9 := hD
            have hK9 := (rgK2_b4df2fa hK)
            have hf9_0 : (0 ≤ x11.toInt ∧ x11.toInt ≤ 1000) := by omega
            have hf9_1 : (0 ≤ f0_0_3.toInt ∧ f0_0_3.toInt ≤ 1000) := by omega
            exact W.vret hx hb hr (fun t ht hW => ⟨⟨(), rfl, trivial, x11, 16, f0_0_3, a0_6, a0_7, hf9_0, hf9_1, atB ht hP9, va_K.moved hW.alike hK9, hD9⟩, hS.F ht⟩) hS.2.2 dX7_advance_159
          · have c136_10 : x9.toInt = 59 := (cv_eq rfl (by decide)).mp c136_10
            refine lv_bipush (v := 14) hx hb dX7_advance_139 (by decide) ?_
            refine lv_goto (tgt := 146) hx hb dX7_advance_141 (by decide) ?_
            refine va_put (D := (dC, dI)) (ci := 6) (v := .int 14) (ty := .int) (C := RX7) (T := TX7) (N := 8) hx hb hts inlX7 tyX7 tyX7_ok nmX7 hown hK hP hD hS 0 rgL3_619f1f5 rfl 4 (by decide) (hts (.fieldLink RX7 52 "ClosedUntil$Tokens" "kind" "I") qw_67) (fun _ h9 => h9) rfl (by decide +kernel) rfl rfl (Nat.le_of_ble_eq_true rfl) dX7_advance_146 (fun H locs hP9 hD9 hS9 => ?_)
            clear hP hD hS
            obtain ⟨hP, hD⟩ := rgS3_dd231b9 (e := (a0, .inr (6, [.ref a0_0, .ref a0_1, .int a0_2, .int f0_0_3, .int 14, .int f0_0_3, .long a0_6, .int a0_7]))) hP9 hD9 rfl
            have hS := hS9; clear hP9 hD9 hS9
            refine lv_aload_n hx hb dX7_advance_149 rfl (lv_at hl 0 rfl) ?_
            refine lv_dup hx hb dX7_advance_150 rfl ?_
            refine va_get (D := (dC, dI)) (ci := 6) (v := .int f0_0_3) (C := RX7) (T := TX7) (N := 8) hx hb hts inlX7 hown hK hP 0 rgL3_619f1f5 rfl 3 (by decide) (hts (.fieldLink RX7 43 "ClosedUntil$Tokens" "at" "I") qw_64) (fun _ h9 => h9) rfl dX7_advance_151 ?_
            refine lv_iconst (v := 1) hx hb dX7_advance_154 (by decide) ?_
            refine lv_iadd hx hb dX7_advance_155 ?_
            refine lv_topi (fun x12 e_x12 => ?_)
            try have e_x12 := ti_add e_x12 rfl (show (1 : Int32).toInt = 1 by decide) (by omega)
            refine va_put (D := (dC, dI)) (ci := 6) (v := .int x12) (ty := .int) (C := RX7) (T := TX7) (N := 8) hx hb hts inlX7 tyX7 tyX7_ok nmX7 hown hK hP hD hS 0 rgL3_619f1f5 rfl 3 (by decide) (hts (.fieldLink RX7 43 "ClosedUntil$Tokens" "at" "I") qw_64) (fun _ h9 => h9) rfl (by decide +kernel) rfl rfl (Nat.le_of_ble_eq_true rfl) dX7_advance_156 (fun H locs hP9 hD9 hS9 => ?_)
            clear hP hD hS
            obtain ⟨hP, hD⟩ := rgS3_dd231b9 (e := (a0, .inr (6, [.ref a0_0, .ref a0_1, .int a0_2, .int x12, .int 14, .int f0_0_3, .long a0_6, .int a0_7]))) hP9 hD9 rfl
            have hS := hS9; clear hP9 hD9 hS9
            have qc14 : (14 : Int32).toInt = 14 := by decide
            refine W.widen (k := 0) (n := 0) (Nat.le_of_ble_eq_true rfl) (Nat.le_of_ble_eq_true rfl) ?_
            have hP9 := hP
            have hD9 := hD
            have hK9 := (rgK2_b4df2fa hK)
            have hf9_0 : (0 ≤ x12.toInt ∧ x12.toInt ≤ 1000) := by omega
            have hf9_1 : (0 ≤ f0_0_3.toInt ∧ f0_0_3.toInt ≤ 1000) := by omega
            exact W.vret hx hb hr (fun t ht hW => ⟨⟨(), rfl, trivial, x12, 14, f0_0_3, a0_6, a0_7, hf9_0, hf9_1, atB ht hP9, va_K.moved hW.alike hK9, hD9⟩, hS.F ht⟩) hS.2.2 dX7_advance_159
        · have c114_8 : ¬ (r7.toInt = 0) := mt (cv_eq rfl (by decide)).mpr c114_8
          refine lv_aload_n hx hb dX7_advance_117 rfl (lv_at hl 0 rfl) ?_
          have hPc := (rgP3_e9f0f62 hP)
          have hKc := (rgK2_f44ed73 hK)
          have hDc := (rgD3_bf75713 hD)
          have hFc := freeW hDc hS hA
          refine va_callv (va_runV (As := []) (rest := []) ⟨hx, hb, hml, hown, hts⟩ (k_X7_takeNumber l dC dI g H.size (a0) (a0_0) (a0_1) (a0_2) (f0_0_3) (a0_4) (f0_0_3) (a0_6) (a0_7) (a0_1_c) (a0_1_f) (by omega) (by omega) (by omega)) (cwV 0 hts (gwV qw_85 qw_86 qw_87 qw_70 qw_84) rfl rfl rfl (by decide +kernel) ⟨Nat.le_of_ble_eq_true rfl, Nat.le_of_ble_eq_true rfl⟩) ⟨fun a U g9 mk q => ⟨q.1, q.2.1, q.2.2.1, va_K.moved (u := U) (U := U.calling g9 mk a) (Vm.Alike.refl U.vm) q.2.2.2.1, q.2.2.2.2.1, Ev.bl q.2.2.2.2.2⟩, va_recv hK hP (ci := 6) (q0 := 0) rfl rgL3_619f1f5, fun U hU hW => ⟨rfl, by rw [hU], atB hU hPc, va_K.moved hW.alike hKc, hDc.weaken (fun _ _ _ _ => trivial), hE.go hS hFc hU hW⟩⟩ rfl rfl hl.1 rfl (lv_room (Nat.le_of_ble_eq_true rfl)) dX7_advance_118 ⟨Nat.le_of_ble_eq_true rfl, Nat.le_of_ble_eq_true rfl⟩) hS (fun q _ h => hFc q h) hFc (fun u13 t H1 locs ht hvm h_u13 hB hz1 hk1 hS => ?_)
          obtain ⟨za0_3_15, za0_4_16, za0_7_17, hF18, hP1, hK1, hD1⟩ := hB
          have hK1 := va_K.moved hvm.symm hK1
          have hJ9 := rgJ3_839d91f hP hD hk1 hFc (atH ht hP1) hD1
          clear hP hD hPc hKc hDc hFc hP1 hD1 hk1 hz1
          obtain ⟨hP, hD⟩ := hJ9
          clear hK1
          generalize H1 = H at hP hS ⊢
          refine W.widen (k := 0) (n := 0) (Nat.le_of_ble_eq_true rfl) (Nat.le_of_ble_eq_true rfl) ?_
          refine lv_goto (tgt := 159) hx hb dX7_advance_121 (by decide) ?_
          refine W.widen (k := 0) (n := 0) (Nat.le_of_ble_eq_true rfl) (Nat.le_of_ble_eq_true rfl) ?_
          have hP9 := hP
          have hD9 := hD
          have hK9 := (rgK2_b4df2fa hK)
          have hf9_0 : (0 ≤ za0_3_15.toInt ∧ za0_3_15.toInt ≤ 1000) := by omega
          have hf9_1 : (0 ≤ f0_0_3.toInt ∧ f0_0_3.toInt ≤ 1000) := by omega
          exact W.vret hx hb hr (fun t ht hW => ⟨⟨(), rfl, trivial, za0_3_15, za0_4_16, f0_0_3, a0_6, za0_7_17, hf9_0, hf9_1, atB ht hP9, va_K.moved hW.alike hK9, hD9⟩, hS.F ht⟩) hS.2.2 dX7_advance_159
      · have c92_5 : ¬ (r4.toInt = 0) := mt (cv_eq rfl (by decide)).mpr c92_5
        refine lv_aload_n hx hb dX7_advance_95 rfl (lv_at hl 0 rfl) ?_
        have hPc := hP
        have hKc := hK
        have hDc := hD
        have hFc := freeW hDc hS hA
        refine va_callv (va_runV (As := []) (rest := []) ⟨hx, hb, hml, hown, hts⟩ (k_X7_takeWord l dC dI g H.size (a0) (a0_0) (a0_1) (a0_2) (f0_0_3) (a0_4) (f0_0_3) (a0_6) (a0_7) (a0_0_c) (a0_0_f) (a0_1_c) (a0_1_f) (by omega) (by omega) (by omega)) (cwV 0 hts (gwV qw_89 qw_90 qw_91 qw_70 qw_88) rfl rfl rfl (by decide +kernel) ⟨Nat.le_of_ble_eq_true rfl, Nat.le_of_ble_eq_true rfl⟩) ⟨fun a U g9 mk q => ⟨q.1, q.2.1, q.2.2.1, va_K.moved (u := U) (U := U.calling g9 mk a) (Vm.Alike.refl U.vm) q.2.2.2.1, q.2.2.2.2.1, Ev.bl q.2.2.2.2.2⟩, va_recv hK hP (ci := 6) (q0 := 0) rfl rgL3_619f1f5, fun U hU hW => ⟨rfl, by rw [hU], atB hU hPc, va_K.moved hW.alike hKc, hDc.weaken (fun _ _ _ _ => trivial), hE.go hS hFc hU hW⟩⟩ rfl rfl hl.1 rfl (lv_room (Nat.le_of_ble_eq_true rfl)) dX7_advance_96 ⟨Nat.le_of_ble_eq_true rfl, Nat.le_of_ble_eq_true rfl⟩) hS (fun q _ h => hFc q h) hFc (fun u19 t H1 locs ht hvm h_u19 hB hz1 hk1 hS => ?_)
        obtain ⟨za0_3_21, za0_4_22, za0_6_23, hF24, hP1, hK1, hD1⟩ := hB
        have hK1 := va_K.moved hvm.symm hK1
        have hJ9 := rgJ3_bf26f92 hP hD hk1 hFc (atH ht hP1) hD1
        clear hP hD hPc hKc hDc hFc hP1 hD1 hk1 hz1
        obtain ⟨hP, hD⟩ := hJ9
        clear hK1
        generalize H1 = H at hP hS ⊢
        refine W.widen (k := 0) (n := 0) (Nat.le_of_ble_eq_true rfl) (Nat.le_of_ble_eq_true rfl) ?_
        refine lv_goto (tgt := 159) hx hb dX7_advance_99 (by decide) ?_
        refine W.widen (k := 0) (n := 0) (Nat.le_of_ble_eq_true rfl) (Nat.le_of_ble_eq_true rfl) ?_
        have hP9 := hP
        have hD9 := hD
        have hK9 := (rgK2_b4df2fa hK)
        have hf9_0 : (0 ≤ za0_3_21.toInt ∧ za0_3_21.toInt ≤ 1000) := by omega
        have hf9_1 : (0 ≤ f0_0_3.toInt ∧ f0_0_3.toInt ≤ 1000) := by omega
        exact W.vret hx hb hr (fun t ht hW => ⟨⟨(), rfl, trivial, za0_3_21, za0_4_22, f0_0_3, za0_6_23, a0_7, hf9_0, hf9_1, atB ht hP9, va_K.moved hW.alike hK9, hD9⟩, hS.F ht⟩) hS.2.2 dX7_advance_159
    · have c68_2 : ¬ (f0_0_3.toInt < a0_2.toInt) := mt (cv_lt rfl rfl).mpr c68_2
      refine lv_aload_n hx hb dX7_advance_71 rfl (lv_at hl 0 rfl) ?_
      refine lv_bipush (v := 15) hx hb dX7_advance_72 (by decide) ?_
      refine va_put (D := (dC, dI)) (ci := 6) (v := .int 15) (ty := .int) (C := RX7) (T := TX7) (N := 8) hx hb hts inlX7 tyX7 tyX7_ok nmX7 hown hK hP hD hS 0 rgL3_619f1f5 rfl 4 (by decide) (hts (.fieldLink RX7 52 "ClosedUntil$Tokens" "kind" "I") qw_67) (fun _ h9 => h9) rfl (by decide +kernel) rfl rfl (Nat.le_of_ble_eq_true rfl) dX7_advance_74 (fun H locs hP9 hD9 hS9 => ?_)
      clear hP hD hS
      obtain ⟨hP, hD⟩ := rgS3_dd231b9 (e := (a0, .inr (6, [.ref a0_0, .ref a0_1, .int a0_2, .int f0_0_3, .int 15, .int f0_0_3, .long a0_6, .int a0_7]))) hP9 hD9 rfl
      have hS := hS9; clear hP9 hD9 hS9
      refine lv_goto (tgt := 159) hx hb dX7_advance_77 (by decide) ?_
      have qc15 : (15 : Int32).toInt = 15 := by decide
      refine W.widen (k := 0) (n := 0) (Nat.le_of_ble_eq_true rfl) (Nat.le_of_ble_eq_true rfl) ?_
      have hP9 := hP
      have hD9 := hD
      have hK9 := (rgK2_b4df2fa hK)
      have hf9_0 : (0 ≤ f0_0_3.toInt ∧ f0_0_3.toInt ≤ 1000) := by omega
      have hf9_1 : (0 ≤ f0_0_3.toInt ∧ f0_0_3.toInt ≤ 1000) := by omega
      exact W.vret hx hb hr (fun t ht hW => ⟨⟨(), rfl, trivial, f0_0_3, 15, f0_0_3, a0_6, a0_7, hf9_0, hf9_1, atB ht hP9, va_K.moved hW.alike hK9, hD9⟩, hS.F ht⟩) hS.2.2 dX7_advance_159
  · have c8_1 : ¬ (a0_2.toInt ≤ f0_0_3.toInt) := mt (cv_le rfl rfl).mpr c8_1
    refine lv_aload_n hx hb dX7_advance_11 rfl (lv_at hl 0 rfl) ?_
    refine va_get (D := (dC, dI)) (ci := 6) (v := .ref a0_1) (C := RX7) (T := TX7) (N := 8) hx hb hts inlX7 hown hK hP 0 rgL3_619f1f5 rfl 1 (by decide) (hts (.fieldLink RX7 13 "ClosedUntil$Tokens" "bytes" "[B") qw_68) (fun _ h9 => h9) rfl dX7_advance_12 ?_
    refine lv_aload_n hx hb dX7_advance_15 rfl (lv_at hl 0 rfl) ?_
    refine va_get (D := (dC, dI)) (ci := 6) (v := .int f0_0_3) (C := RX7) (T := TX7) (N := 8) hx hb hts inlX7 hown hK hP 0 rgL3_619f1f5 rfl 3 (by decide) (hts (.fieldLink RX7 43 "ClosedUntil$Tokens" "at" "I") qw_64) (fun _ h9 => h9) rfl dX7_advance_16 ?_
    refine va_bald hx hb hK hP 2 1 rgL3_2e0c0f7 rgT2_d592b55 (vinI (by omega) (by omega)) dX7_advance_19 ?_
    refine lv_topi (fun x25 e_x25 => ?_)
    have b_x25 := i32b x25
    refine lv_bipush (v := 32) hx hb dX7_advance_20 (by decide) ?_
    refine lv_icmp_eq (tgt := 39) hx hb dX7_advance_22 (by decide) (fun c22_26 => ?_) (fun c22_26 => ?_)
    · have c22_26 : x25.toInt = 32 := (cv_eq rfl (by decide)).mp c22_26
      refine lv_aload_n hx hb dX7_advance_39 rfl (lv_at hl 0 rfl) ?_
      refine lv_dup hx hb dX7_advance_40 rfl ?_
      refine va_get (D := (dC, dI)) (ci := 6) (v := .int f0_0_3) (C := RX7) (T := TX7) (N := 8) hx hb hts inlX7 hown hK hP 0 rgL3_619f1f5 rfl 3 (by decide) (hts (.fieldLink RX7 43 "ClosedUntil$Tokens" "at" "I") qw_64) (fun _ h9 => h9) rfl dX7_advance_41 ?_
      refine lv_iconst (v := 1) hx hb dX7_advance_44 (by decide) ?_
      refine lv_iadd hx hb dX7_advance_45 ?_
      refine lv_topi (fun x27 e_x27 => ?_)
      try have e_x27 := ti_add e_x27 rfl (show (1 : Int32).toInt = 1 by decide) (by omega)
      refine va_put (D := (dC, dI)) (ci := 6) (v := .int x27) (ty := .int) (C := RX7) (T := TX7) (N := 8) hx hb hts inlX7 tyX7 tyX7_ok nmX7 hown hK hP hD hS 0 rgL3_619f1f5 rfl 3 (by decide) (hts (.fieldLink RX7 43 "ClosedUntil$Tokens" "at" "I") qw_64) (fun _ h9 => h9) rfl (by decide +kernel) rfl rfl (Nat.le_of_ble_eq_true rfl) dX7_advance_46 (fun H locs hP9 hD9 hS9 => ?_)
      clear hP hD hS
      obtain ⟨hP, hD⟩ := rgS3_dd231b9 (e := (a0, .inr (6, [.ref a0_0, .ref a0_1, .int a0_2, .int x27, .int a0_4, .int a0_5, .long a0_6, .int a0_7]))) hP9 hD9 rfl
      have hS := hS9; clear hP9 hD9 hS9
      refine lv_goto (tgt := 0) hx hb dX7_advance_49 (by decide) ?_
      exact ih0 ((1000 - x27.toInt).toNat) _ _ _ (by omega) ⟨x27, rfl, (by omega), lv_sub hl [0] rfl, hP, hD, hS⟩
    · have c22_26 : ¬ (x25.toInt = 32) := mt (cv_eq rfl (by decide)).mpr c22_26
      refine lv_aload_n hx hb dX7_advance_25 rfl (lv_at hl 0 rfl) ?_
      refine va_get (D := (dC, dI)) (ci := 6) (v := .ref a0_1) (C := RX7) (T := TX7) (N := 8) hx hb hts inlX7 hown hK hP 0 rgL3_619f1f5 rfl 1 (by decide) (hts (.fieldLink RX7 13 "ClosedUntil$Tokens" "bytes" "[B") qw_68) (fun _ h9 => h9) rfl dX7_advance_26 ?_
      refine lv_aload_n hx hb dX7_advance_29 rfl (lv_at hl 0 rfl) ?_
      refine va_get (D := (dC, dI)) (ci := 6) (v := .int f0_0_3) (C := RX7) (T := TX7) (N := 8) hx hb hts inlX7 hown hK hP 0 rgL3_619f1f5 rfl 3 (by decide) (hts (.fieldLink RX7 43 "ClosedUntil$Tokens" "at" "I") qw_64) (fun _ h9 => h9) rfl dX7_advance_30 ?_
      refine va_bald hx hb hK hP 2 1 rgL3_2e0c0f7 rgT2_d592b55 (vinI (by omega) (by omega)) dX7_advance_33 ?_
      refine lv_topi (fun x28 e_x28 => ?_)
      have b_x28 := i32b x28
      refine lv_bipush (v := 10) hx hb dX7_advance_34 (by decide) ?_
      refine lv_icmp_ne (tgt := 52) hx hb dX7_advance_36 (by decide) (fun c36_29 => ?_) (fun c36_29 => ?_)
      · have c36_29 : ¬ (x28.toInt = 10) := mt (cv_eq rfl (by decide)).mpr c36_29
        refine lv_aload_n hx hb dX7_advance_52 rfl (lv_at hl 0 rfl) ?_
        refine lv_aload_n hx hb dX7_advance_53 rfl (lv_at hl 0 rfl) ?_
        refine va_get (D := (dC, dI)) (ci := 6) (v := .int f0_0_3) (C := RX7) (T := TX7) (N := 8) hx hb hts inlX7 hown hK hP 0 rgL3_619f1f5 rfl 3 (by decide) (hts (.fieldLink RX7 43 "ClosedUntil$Tokens" "at" "I") qw_64) (fun _ h9 => h9) rfl dX7_advance_54 ?_
        refine va_put (D := (dC, dI)) (ci := 6) (v := .int f0_0_3) (ty := .int) (C := RX7) (T := TX7) (N := 8) hx hb hts inlX7 tyX7 tyX7_ok nmX7 hown hK hP hD hS 0 rgL3_619f1f5 rfl 5 (by decide) (hts (.fieldLink RX7 49 "ClosedUntil$Tokens" "place" "I") qw_66) (fun _ h9 => h9) rfl (by decide +kernel) rfl rfl (Nat.le_of_ble_eq_true rfl) dX7_advance_57 (fun H locs hP9 hD9 hS9 => ?_)
        clear hP hD hS
        obtain ⟨hP, hD⟩ := rgS3_dd231b9 (e := (a0, .inr (6, [.ref a0_0, .ref a0_1, .int a0_2, .int f0_0_3, .int a0_4, .int f0_0_3, .long a0_6, .int a0_7]))) hP9 hD9 rfl
        have hS := hS9; clear hP9 hD9 hS9
        refine lv_aload_n hx hb dX7_advance_60 rfl (lv_at hl 0 rfl) ?_
        refine va_get (D := (dC, dI)) (ci := 6) (v := .int f0_0_3) (C := RX7) (T := TX7) (N := 8) hx hb hts inlX7 hown hK hP 0 rgL3_619f1f5 rfl 3 (by decide) (hts (.fieldLink RX7 43 "ClosedUntil$Tokens" "at" "I") qw_64) (fun _ h9 => h9) rfl dX7_advance_61 ?_
        refine lv_aload_n hx hb dX7_advance_64 rfl (lv_at hl 0 rfl) ?_
        refine va_get (D := (dC, dI)) (ci := 6) (v := .int a0_2) (C := RX7) (T := TX7) (N := 8) hx hb hts inlX7 hown hK hP 0 rgL3_619f1f5 rfl 2 (by decide) (hts (.fieldLink RX7 39 "ClosedUntil$Tokens" "end" "I") qw_65) (fun _ h9 => h9) rfl dX7_advance_65 ?_
        refine lv_icmp_lt (tgt := 80) hx hb dX7_advance_68 (by decide) (fun c68_30 => ?_) (fun c68_30 => ?_)
        · have c68_30 : f0_0_3.toInt < a0_2.toInt := (cv_lt rfl rfl).mp c68_30
          refine lv_aload_n hx hb dX7_advance_80 rfl (lv_at hl 0 rfl) ?_
          refine va_get (D := (dC, dI)) (ci := 6) (v := .ref a0_1) (C := RX7) (T := TX7) (N := 8) hx hb hts inlX7 hown hK hP 0 rgL3_619f1f5 rfl 1 (by decide) (hts (.fieldLink RX7 13 "ClosedUntil$Tokens" "bytes" "[B") qw_68) (fun _ h9 => h9) rfl dX7_advance_81 ?_
          refine lv_aload_n hx hb dX7_advance_84 rfl (lv_at hl 0 rfl) ?_
          refine va_get (D := (dC, dI)) (ci := 6) (v := .int f0_0_3) (C := RX7) (T := TX7) (N := 8) hx hb hts inlX7 hown hK hP 0 rgL3_619f1f5 rfl 3 (by decide) (hts (.fieldLink RX7 43 "ClosedUntil$Tokens" "at" "I") qw_64) (fun _ h9 => h9) rfl dX7_advance_85 ?_
          refine va_bald hx hb hK hP 2 1 rgL3_2e0c0f7 rgT2_d592b55 (vinI (by omega) (by omega)) dX7_advance_88 ?_
          refine lv_topi (fun x31 e_x31 => ?_)
          have b_x31 := i32b x31
          have hPc := (rgP3_953bfe7 hP)
          have hKc := (rgK2_b4df2fa hK)
          refine vp_callSi ((va_runS (As := [.int x31]) (rest := []) ⟨hx, hb, hml, hown, hts⟩ (k_X7_isLetter l dC dI g (x31) ) (va_cwS 1 hts (gwS qw_79 qw_80 qw_70 qw_78) rfl rfl rfl (by decide +kernel) ⟨Nat.le_of_ble_eq_true rfl, Nat.le_of_ble_eq_true rfl⟩) ⟨fun a U g9 mk q => ⟨q.1, q.2.1, va_K.moved (u := U) (U := U.calling g9 mk a) (Vm.Alike.refl U.vm) q.2.2.1, Ev.bl q.2.2.2⟩, fun U hU hW => ⟨rfl, atB hU hPc, va_K.moved hW.alike hKc, hE.go hS (fun _ h => h.elim) hU hW⟩⟩ rfl rfl hl.1 rfl (lv_room (Nat.le_of_ble_eq_true rfl)) dX7_advance_89 ⟨Nat.le_of_ble_eq_true rfl, Nat.le_of_ble_eq_true rfl⟩)).run (fun r32 h_r32 => ?_)
          have h_r32 : (r32 = 0 ∨ r32 = 1) := h_r32
          have b_r32 := z01 (show r32 = 0 ∨ r32 = 1 from h_r32)
          refine lv_if_eq (tgt := 102) hx hb dX7_advance_92 (by decide) (fun c92_33 => ?_) (fun c92_33 => ?_)
          · have c92_33 : r32.toInt = 0 := (cv_eq rfl (by decide)).mp c92_33
            refine lv_aload_n hx hb dX7_advance_102 rfl (lv_at hl 0 rfl) ?_
            refine va_get (D := (dC, dI)) (ci := 6) (v := .ref a0_1) (C := RX7) (T := TX7) (N := 8) hx hb hts inlX7 hown hK hP 0 rgL3_619f1f5 rfl 1 (by decide) (hts (.fieldLink RX7 13 "ClosedUntil$Tokens" "bytes" "[B") qw_68) (fun _ h9 => h9) rfl dX7_advance_103 ?_
            refine lv_aload_n hx hb dX7_advance_106 rfl (lv_at hl 0 rfl) ?_
            refine va_get (D := (dC, dI)) (ci := 6) (v := .int f0_0_3) (C := RX7) (T := TX7) (N := 8) hx hb hts inlX7 hown hK hP 0 rgL3_619f1f5 rfl 3 (by decide) (hts (.fieldLink RX7 43 "ClosedUntil$Tokens" "at" "I") qw_64) (fun _ h9 => h9) rfl dX7_advance_107 ?_
            refine va_bald hx hb hK hP 2 1 rgL3_2e0c0f7 rgT2_d592b55 (vinI (by omega) (by omega)) dX7_advance_110 ?_
            refine lv_topi (fun x34 e_x34 => ?_)
            have b_x34 := i32b x34
            have hPc := (rgP3_953bfe7 hP)
            have hKc := (rgK2_b4df2fa hK)
            refine vp_callSi ((va_runS (As := [.int x34]) (rest := []) ⟨hx, hb, hml, hown, hts⟩ (k_X7_isDigit l dC dI g (x34) ) (va_cwS 1 hts (gwS qw_71 qw_72 qw_70 qw_69) rfl rfl rfl (by decide +kernel) ⟨Nat.le_of_ble_eq_true rfl, Nat.le_of_ble_eq_true rfl⟩) ⟨fun a U g9 mk q => ⟨q.1, q.2.1, va_K.moved (u := U) (U := U.calling g9 mk a) (Vm.Alike.refl U.vm) q.2.2.1, Ev.bl q.2.2.2⟩, fun U hU hW => ⟨rfl, atB hU hPc, va_K.moved hW.alike hKc, hE.go hS (fun _ h => h.elim) hU hW⟩⟩ rfl rfl hl.1 rfl (lv_room (Nat.le_of_ble_eq_true rfl)) dX7_advance_111 ⟨Nat.le_of_ble_eq_true rfl, Nat.le_of_ble_eq_true rfl⟩)).run (fun r35 h_r35 => ?_)
            have h_r35 : (r35 = 0 ∨ r35 = 1) := h_r35
            have b_r35 := z01 (show r35 = 0 ∨ r35 = 1 from h_r35)
            refine lv_if_eq (tgt := 124) hx hb dX7_advance_114 (by decide) (fun c114_36 => ?_) (fun c114_36 => ?_)
            · have c114_36 : r35.toInt = 0 := (cv_eq rfl (by decide)).mp c114_36
              refine lv_aload_n hx hb dX7_advance_124 rfl (lv_at hl 0 rfl) ?_
              refine lv_aload_n hx hb dX7_advance_125 rfl (lv_at hl 0 rfl) ?_
              refine va_get (D := (dC, dI)) (ci := 6) (v := .ref a0_1) (C := RX7) (T := TX7) (N := 8) hx hb hts inlX7 hown hK hP 0 rgL3_619f1f5 rfl 1 (by decide) (hts (.fieldLink RX7 13 "ClosedUntil$Tokens" "bytes" "[B") qw_68) (fun _ h9 => h9) rfl dX7_advance_126 ?_
              refine lv_aload_n hx hb dX7_advance_129 rfl (lv_at hl 0 rfl) ?_
              refine va_get (D := (dC, dI)) (ci := 6) (v := .int f0_0_3) (C := RX7) (T := TX7) (N := 8) hx hb hts inlX7 hown hK hP 0 rgL3_619f1f5 rfl 3 (by decide) (hts (.fieldLink RX7 43 "ClosedUntil$Tokens" "at" "I") qw_64) (fun _ h9 => h9) rfl dX7_advance_130 ?_
              refine va_bald hx hb hK hP 2 1 rgL3_2e0c0f7 rgT2_d592b55 (vinI (by omega) (by omega)) dX7_advance_133 ?_
              refine lv_topi (fun x37 e_x37 => ?_)
              have b_x37 := i32b x37
              refine lv_bipush (v := 59) hx hb dX7_advance_134 (by decide) ?_
              refine lv_icmp_ne (tgt := 144) hx hb dX7_advance_136 (by decide) (fun c136_38 => ?_) (fun c136_38 => ?_)
              · have c136_38 : ¬ (x37.toInt = 59) := mt (cv_eq rfl (by decide)).mpr c136_38
                refine lv_bipush (v := 16) hx hb dX7_advance_144 (by decide) ?_
                refine va_put (D := (dC, dI)) (ci := 6) (v := .int 16) (ty := .int) (C := RX7) (T := TX7) (N := 8) hx hb hts inlX7 tyX7 tyX7_ok nmX7 hown hK hP hD hS 0 rgL3_619f1f5 rfl 4 (by decide) (hts (.fieldLink RX7 52 "ClosedUntil$Tokens" "kind" "I") qw_67) (fun _ h9 => h9) rfl (by decide +kernel) rfl rfl (Nat.le_of_ble_eq_true rfl) dX7_advance_146 (fun H locs hP9 hD9 hS9 => ?_)
                clear hP hD hS
                obtain ⟨hP, hD⟩ := rgS3_dd231b9 (e := (a0, .inr (6, [.ref a0_0, .ref a0_1, .int a0_2, .int f0_0_3, .int 16, .int f0_0_3, .long a0_6, .int a0_7]))) hP9 hD9 rfl
                have hS := hS9; clear hP9 hD9 hS9
                refine lv_aload_n hx hb dX7_advance_149 rfl (lv_at hl 0 rfl) ?_
                refine lv_dup hx hb dX7_advance_150 rfl ?_
                refine va_get (D := (dC, dI)) (ci := 6) (v := .int f0_0_3) (C := RX7) (T := TX7) (N := 8) hx hb hts inlX7 hown hK hP 0 rgL3_619f1f5 rfl 3 (by decide) (hts (.fieldLink RX7 43 "ClosedUntil$Tokens" "at" "I") qw_64) (fun _ h9 => h9) rfl dX7_advance_151 ?_
                refine lv_iconst (v := 1) hx hb dX7_advance_154 (by decide) ?_
                refine lv_iadd hx hb dX7_advance_155 ?_
                refine lv_topi (fun x39 e_x39 => ?_)
                try have e_x39 := ti_add e_x39 rfl (show (1 : Int32).toInt = 1 by decide) (by omega)
                refine va_put (D := (dC, dI)) (ci := 6) (v := .int x39) (ty := .int) (C := RX7) (T := TX7) (N := 8) hx hb hts inlX7 tyX7 tyX7_ok nmX7 hown hK hP hD hS 0 rgL3_619f1f5 rfl 3 (by decide) (hts (.fieldLink RX7 43 "ClosedUntil$Tokens" "at" "I") qw_64) (fun _ h9 => h9) rfl (by decide +kernel) rfl rfl (Nat.le_of_ble_eq_true rfl) dX7_advance_156 (fun H locs hP9 hD9 hS9 => ?_)
                clear hP hD hS
                obtain ⟨hP, hD⟩ := rgS3_dd231b9 (e := (a0, .inr (6, [.ref a0_0, .ref a0_1, .int a0_2, .int x39, .int 16, .int f0_0_3, .long a0_6, .int a0_7]))) hP9 hD9 rfl
                have hS := hS9; clear hP9 hD9 hS9
                have qc16 : (16 : Int32).toInt = 16 := by decide
                refine W.widen (k := 0) (n := 0) (Nat.le_of_ble_eq_true rfl) (Nat.le_of_ble_eq_true rfl) ?_
                have hP9 := hP
                have hD9 := hD
                have hK9 := (rgK2_b4df2fa hK)
                have hf9_0 : (0 ≤ x39.toInt ∧ x39.toInt ≤ 1000) := by omega
                have hf9_1 : (0 ≤ f0_0_3.toInt ∧ f0_0_3.toInt ≤ 1000) := by omega
                exact W.vret hx hb hr (fun t ht hW => ⟨⟨(), rfl, trivial, x39, 16, f0_0_3, a0_6, a0_7, hf9_0, hf9_1, atB ht hP9, va_K.moved hW.alike hK9, hD9⟩, hS.F ht⟩) hS.2.2 dX7_advance_159
              · have c136_38 : x37.toInt = 59 := (cv_eq rfl (by decide)).mp c136_38
                refine lv_bipush (v := 14) hx hb dX7_advance_139 (by decide) ?_
                refine lv_goto (tgt := 146) hx hb dX7_advance_141 (by decide) ?_
                refine va_put (D := (dC, dI)) (ci := 6) (v := .int 14) (ty := .int) (C := RX7) (T := TX7) (N := 8) hx hb hts inlX7 tyX7 tyX7_ok nmX7 hown hK hP hD hS 0 rgL3_619f1f5 rfl 4 (by decide) (hts (.fieldLink RX7 52 "ClosedUntil$Tokens" "kind" "I") qw_67) (fun _ h9 => h9) rfl (by decide +kernel) rfl rfl (Nat.le_of_ble_eq_true rfl) dX7_advance_146 (fun H locs hP9 hD9 hS9 => ?_)
                clear hP hD hS
                obtain ⟨hP, hD⟩ := rgS3_dd231b9 (e := (a0, .inr (6, [.ref a0_0, .ref a0_1, .int a0_2, .int f0_0_3, .int 14, .int f0_0_3, .long a0_6, .int a0_7]))) hP9 hD9 rfl
                have hS := hS9; clear hP9 hD9 hS9
                refine lv_aload_n hx hb dX7_advance_149 rfl (lv_at hl 0 rfl) ?_
                refine lv_dup hx hb dX7_advance_150 rfl ?_
                refine va_get (D := (dC, dI)) (ci := 6) (v := .int f0_0_3) (C := RX7) (T := TX7) (N := 8) hx hb hts inlX7 hown hK hP 0 rgL3_619f1f5 rfl 3 (by decide) (hts (.fieldLink RX7 43 "ClosedUntil$Tokens" "at" "I") qw_64) (fun _ h9 => h9) rfl dX7_advance_151 ?_
                refine lv_iconst (v := 1) hx hb dX7_advance_154 (by decide) ?_
                refine lv_iadd hx hb dX7_advance_155 ?_
                refine lv_topi (fun x40 e_x40 => ?_)
                try have e_x40 := ti_add e_x40 rfl (show (1 : Int32).toInt = 1 by decide) (by omega)
                refine va_put (D := (dC, dI)) (ci := 6) (v := .int x40) (ty := .int) (C := RX7) (T := TX7) (N := 8) hx hb hts inlX7 tyX7 tyX7_ok nmX7 hown hK hP hD hS 0 rgL3_619f1f5 rfl 3 (by decide) (hts (.fieldLink RX7 43 "ClosedUntil$Tokens" "at" "I") qw_64) (fun _ h9 => h9) rfl (by decide +kernel) rfl rfl (Nat.le_of_ble_eq_true rfl) dX7_advance_156 (fun H locs hP9 hD9 hS9 => ?_)
                clear hP hD hS
                obtain ⟨hP, hD⟩ := rgS3_dd231b9 (e := (a0, .inr (6, [.ref a0_0, .ref a0_1, .int a0_2, .int x40, .int 14, .int f0_0_3, .long a0_6, .int a0_7]))) hP9 hD9 rfl
                have hS := hS9; clear hP9 hD9 hS9
                have qc14 : (14 : Int32).toInt = 14 := by decide
                refine W.widen (k := 0) (n := 0) (Nat.le_of_ble_eq_true rfl) (Nat.le_of_ble_eq_true rfl) ?_
                have hP9 := hP
                have hD9 := hD
                have hK9 := (rgK2_b4df2fa hK)
                have hf9_0 : (0 ≤ x40.toInt ∧ x40.toInt ≤ 1000) := by omega
                have hf9_1 : (0 ≤ f0_0_3.toInt ∧ f0_0_3.toInt ≤ 1000) := by omega
                exact W.vret hx hb hr (fun t ht hW => ⟨⟨(), rfl, trivial, x40, 14, f0_0_3, a0_6, a0_7, hf9_0, hf9_1, atB ht hP9, va_K.moved hW.alike hK9, hD9⟩, hS.F ht⟩) hS.2.2 dX7_advance_159
            · have c114_36 : ¬ (r35.toInt = 0) := mt (cv_eq rfl (by decide)).mpr c114_36
              refine lv_aload_n hx hb dX7_advance_117 rfl (lv_at hl 0 rfl) ?_
              have hPc := (rgP3_e9f0f62 hP)
              have hKc := (rgK2_f44ed73 hK)
              have hDc := (rgD3_bf75713 hD)
              have hFc := freeW hDc hS hA
              refine va_callv (va_runV (As := []) (rest := []) ⟨hx, hb, hml, hown, hts⟩ (k_X7_takeNumber l dC dI g H.size (a0) (a0_0) (a0_1) (a0_2) (f0_0_3) (a0_4) (f0_0_3) (a0_6) (a0_7) (a0_1_c) (a0_1_f) (by omega) (by omega) (by omega)) (cwV 0 hts (gwV qw_85 qw_86 qw_87 qw_70 qw_84) rfl rfl rfl (by decide +kernel) ⟨Nat.le_of_ble_eq_true rfl, Nat.le_of_ble_eq_true rfl⟩) ⟨fun a U g9 mk q => ⟨q.1, q.2.1, q.2.2.1, va_K.moved (u := U) (U := U.calling g9 mk a) (Vm.Alike.refl U.vm) q.2.2.2.1, q.2.2.2.2.1, Ev.bl q.2.2.2.2.2⟩, va_recv hK hP (ci := 6) (q0 := 0) rfl rgL3_619f1f5, fun U hU hW => ⟨rfl, by rw [hU], atB hU hPc, va_K.moved hW.alike hKc, hDc.weaken (fun _ _ _ _ => trivial), hE.go hS hFc hU hW⟩⟩ rfl rfl hl.1 rfl (lv_room (Nat.le_of_ble_eq_true rfl)) dX7_advance_118 ⟨Nat.le_of_ble_eq_true rfl, Nat.le_of_ble_eq_true rfl⟩) hS (fun q _ h => hFc q h) hFc (fun u41 t H1 locs ht hvm h_u41 hB hz1 hk1 hS => ?_)
              obtain ⟨za0_3_43, za0_4_44, za0_7_45, hF46, hP1, hK1, hD1⟩ := hB
              have hK1 := va_K.moved hvm.symm hK1
              have hJ9 := rgJ3_839d91f hP hD hk1 hFc (atH ht hP1) hD1
              clear hP hD hPc hKc hDc hFc hP1 hD1 hk1 hz1
              obtain ⟨hP, hD⟩ := hJ9
              clear hK1
              generalize H1 = H at hP hS ⊢
              refine W.widen (k := 0) (n := 0) (Nat.le_of_ble_eq_true rfl) (Nat.le_of_ble_eq_true rfl) ?_
              refine lv_goto (tgt := 159) hx hb dX7_advance_121 (by decide) ?_
              refine W.widen (k := 0) (n := 0) (Nat.le_of_ble_eq_true rfl) (Nat.le_of_ble_eq_true rfl) ?_
              have hP9 := hP
              have hD9 := hD
              have hK9 := (rgK2_b4df2fa hK)
              have hf9_0 : (0 ≤ za0_3_43.toInt ∧ za0_3_43.toInt ≤ 1000) := by omega
              have hf9_1 : (0 ≤ f0_0_3.toInt ∧ f0_0_3.toInt ≤ 1000) := by omega
              exact W.vret hx hb hr (fun t ht hW => ⟨⟨(), rfl, trivial, za0_3_43, za0_4_44, f0_0_3, a0_6, za0_7_45, hf9_0, hf9_1, atB ht hP9, va_K.moved hW.alike hK9, hD9⟩, hS.F ht⟩) hS.2.2 dX7_advance_159
          · have c92_33 : ¬ (r32.toInt = 0) := mt (cv_eq rfl (by decide)).mpr c92_33
            refine lv_aload_n hx hb dX7_advance_95 rfl (lv_at hl 0 rfl) ?_
            have hPc := hP
            have hKc := hK
            have hDc := hD
            have hFc := freeW hDc hS hA
            refine va_callv (va_runV (As := []) (rest := []) ⟨hx, hb, hml, hown, hts⟩ (k_X7_takeWord l dC dI g H.size (a0) (a0_0) (a0_1) (a0_2) (f0_0_3) (a0_4) (f0_0_3) (a0_6) (a0_7) (a0_0_c) (a0_0_f) (a0_1_c) (a0_1_f) (by omega) (by omega) (by omega)) (cwV 0 hts (gwV qw_89 qw_90 qw_91 qw_70 qw_88) rfl rfl rfl (by decide +kernel) ⟨Nat.le_of_ble_eq_true rfl, Nat.le_of_ble_eq_true rfl⟩) ⟨fun a U g9 mk q => ⟨q.1, q.2.1, q.2.2.1, va_K.moved (u := U) (U := U.calling g9 mk a) (Vm.Alike.refl U.vm) q.2.2.2.1, q.2.2.2.2.1, Ev.bl q.2.2.2.2.2⟩, va_recv hK hP (ci := 6) (q0 := 0) rfl rgL3_619f1f5, fun U hU hW => ⟨rfl, by rw [hU], atB hU hPc, va_K.moved hW.alike hKc, hDc.weaken (fun _ _ _ _ => trivial), hE.go hS hFc hU hW⟩⟩ rfl rfl hl.1 rfl (lv_room (Nat.le_of_ble_eq_true rfl)) dX7_advance_96 ⟨Nat.le_of_ble_eq_true rfl, Nat.le_of_ble_eq_true rfl⟩) hS (fun q _ h => hFc q h) hFc (fun u47 t H1 locs ht hvm h_u47 hB hz1 hk1 hS => ?_)
            obtain ⟨za0_3_49, za0_4_50, za0_6_51, hF52, hP1, hK1, hD1⟩ := hB
            have hK1 := va_K.moved hvm.symm hK1
            have hJ9 := rgJ3_bf26f92 hP hD hk1 hFc (atH ht hP1) hD1
            clear hP hD hPc hKc hDc hFc hP1 hD1 hk1 hz1
            obtain ⟨hP, hD⟩ := hJ9
            clear hK1
            generalize H1 = H at hP hS ⊢
            refine W.widen (k := 0) (n := 0) (Nat.le_of_ble_eq_true rfl) (Nat.le_of_ble_eq_true rfl) ?_
            refine lv_goto (tgt := 159) hx hb dX7_advance_99 (by decide) ?_
            refine W.widen (k := 0) (n := 0) (Nat.le_of_ble_eq_true rfl) (Nat.le_of_ble_eq_true rfl) ?_
            have hP9 := hP
            have hD9 := hD
            have hK9 := (rgK2_b4df2fa hK)
            have hf9_0 : (0 ≤ za0_3_49.toInt ∧ za0_3_49.toInt ≤ 1000) := by omega
            have hf9_1 : (0 ≤ f0_0_3.toInt ∧ f0_0_3.toInt ≤ 1000) := by omega
            exact W.vret hx hb hr (fun t ht hW => ⟨⟨(), rfl, trivial, za0_3_49, za0_4_50, f0_0_3, za0_6_51, a0_7, hf9_0, hf9_1, atB ht hP9, va_K.moved hW.alike hK9, hD9⟩, hS.F ht⟩) hS.2.2 dX7_advance_159
        · have c68_30 : ¬ (f0_0_3.toInt < a0_2.toInt) := mt (cv_lt rfl rfl).mpr c68_30
          refine lv_aload_n hx hb dX7_advance_71 rfl (lv_at hl 0 rfl) ?_
          refine lv_bipush (v := 15) hx hb dX7_advance_72 (by decide) ?_
          refine va_put (D := (dC, dI)) (ci := 6) (v := .int 15) (ty := .int) (C := RX7) (T := TX7) (N := 8) hx hb hts inlX7 tyX7 tyX7_ok nmX7 hown hK hP hD hS 0 rgL3_619f1f5 rfl 4 (by decide) (hts (.fieldLink RX7 52 "ClosedUntil$Tokens" "kind" "I") qw_67) (fun _ h9 => h9) rfl (by decide +kernel) rfl rfl (Nat.le_of_ble_eq_true rfl) dX7_advance_74 (fun H locs hP9 hD9 hS9 => ?_)
          clear hP hD hS
          obtain ⟨hP, hD⟩ := rgS3_dd231b9 (e := (a0, .inr (6, [.ref a0_0, .ref a0_1, .int a0_2, .int f0_0_3, .int 15, .int f0_0_3, .long a0_6, .int a0_7]))) hP9 hD9 rfl
          have hS := hS9; clear hP9 hD9 hS9
          refine lv_goto (tgt := 159) hx hb dX7_advance_77 (by decide) ?_
          have qc15 : (15 : Int32).toInt = 15 := by decide
          refine W.widen (k := 0) (n := 0) (Nat.le_of_ble_eq_true rfl) (Nat.le_of_ble_eq_true rfl) ?_
          have hP9 := hP
          have hD9 := hD
          have hK9 := (rgK2_b4df2fa hK)
          have hf9_0 : (0 ≤ f0_0_3.toInt ∧ f0_0_3.toInt ≤ 1000) := by omega
          have hf9_1 : (0 ≤ f0_0_3.toInt ∧ f0_0_3.toInt ≤ 1000) := by omega
          exact W.vret hx hb hr (fun t ht hW => ⟨⟨(), rfl, trivial, f0_0_3, 15, f0_0_3, a0_6, a0_7, hf9_0, hf9_1, atB ht hP9, va_K.moved hW.alike hK9, hD9⟩, hS.F ht⟩) hS.2.2 dX7_advance_159
      · have c36_29 : x28.toInt = 10 := (cv_eq rfl (by decide)).mp c36_29
        refine lv_aload_n hx hb dX7_advance_39 rfl (lv_at hl 0 rfl) ?_
        refine lv_dup hx hb dX7_advance_40 rfl ?_
        refine va_get (D := (dC, dI)) (ci := 6) (v := .int f0_0_3) (C := RX7) (T := TX7) (N := 8) hx hb hts inlX7 hown hK hP 0 rgL3_619f1f5 rfl 3 (by decide) (hts (.fieldLink RX7 43 "ClosedUntil$Tokens" "at" "I") qw_64) (fun _ h9 => h9) rfl dX7_advance_41 ?_
        refine lv_iconst (v := 1) hx hb dX7_advance_44 (by decide) ?_
        refine lv_iadd hx hb dX7_advance_45 ?_
        refine lv_topi (fun x53 e_x53 => ?_)
        try have e_x53 := ti_add e_x53 rfl (show (1 : Int32).toInt = 1 by decide) (by omega)
        refine va_put (D := (dC, dI)) (ci := 6) (v := .int x53) (ty := .int) (C := RX7) (T := TX7) (N := 8) hx hb hts inlX7 tyX7 tyX7_ok nmX7 hown hK hP hD hS 0 rgL3_619f1f5 rfl 3 (by decide) (hts (.fieldLink RX7 43 "ClosedUntil$Tokens" "at" "I") qw_64) (fun _ h9 => h9) rfl (by decide +kernel) rfl rfl (Nat.le_of_ble_eq_true rfl) dX7_advance_46 (fun H locs hP9 hD9 hS9 => ?_)
        clear hP hD hS
        obtain ⟨hP, hD⟩ := rgS3_dd231b9 (e := (a0, .inr (6, [.ref a0_0, .ref a0_1, .int a0_2, .int x53, .int a0_4, .int a0_5, .long a0_6, .int a0_7]))) hP9 hD9 rfl
        have hS := hS9; clear hP9 hD9 hS9
        refine lv_goto (tgt := 0) hx hb dX7_advance_49 (by decide) ?_
        exact ih0 ((1000 - x53.toInt).toNat) _ _ _ (by omega) ⟨x53, rfl, (by omega), lv_sub hl [0] rfl, hP, hD, hS⟩
set_option maxHeartbeats 4000000 in
set_option maxRecDepth 100000 in
theorem k_X7_start (l : Launch) (dC : Nat → ClassId) (dI : Nat → Nat → Nat) (g : Gv) (sz : Nat) (a0 : Nat) (a1 : Nat) (a2 : Int32) (a0_0 : Nat) (a0_1 : Nat) (a0_2 : Int32) (a0_3 : Int32) (a0_4 : Int32) (a0_5 : Int32) (a0_6 : Int64) (a0_7 : Int32) (a0_0_c : ClassId) (a0_0_f : Nat → Int64) (a1_c : ClassId) (a1_f : Nat → Int32) (h_a0_2 : 0 ≤ a0_2.toInt ∧ a0_2.toInt ≤ 1000) (h_a0_3 : 0 ≤ a0_3.toInt ∧ a0_3.toInt ≤ 1000) (h_a0_5 : 0 ≤ a0_5.toInt ∧ a0_5.toInt ≤ 1000) (hn : 0 ≤ a2.toInt) : Met l yX7_start (.code yX7_start cX7_start 3 none :: TBL) ({ frames := 3, cells := 0, slots := 0, locals := 63 }) (va_Pc [.ref a0, .ref a1, .int a2] (fun U => U.heap.size = sz ∧ va_P (dC, dI) vwCl [(a0, .inr (6, [.ref a0_0, .ref a0_1, .int a0_2, .int a0_3, .int a0_4, .int a0_5, .long a0_6, .int a0_7])), (a0_0, .inl (a0_0_c, 12, .inr (.inl a0_0_f))), (a1, .inl (a1_c, 1000, .inl a1_f))] U.heap ∧ va_K (dC, dI) vwCl [(a0_0_c, .long), (a1_c, .byte)] U ∧ va_D (fun _ => True) [(a0, .inr (6, [.ref a0_0, .ref a0_1, .int a0_2, .int a0_3, .int a0_4, .int a0_5, .long a0_6, .int a0_7])), (a0_0, .inl (a0_0_c, 12, .inr (.inl a0_0_f))), (a1, .inl (a1_c, 1000, .inl a1_f))] ∧ Ev g (va_A [(a0, .inr (6, [.ref a0_0, .ref a0_1, .int a0_2, .int a0_3, .int a0_4, .int a0_5, .long a0_6, .int a0_7])), (a0_0, .inl (a0_0_c, 12, .inr (.inl a0_0_f))), (a1, .inl (a1_c, 1000, .inl a1_f))] sz) U)) (va_Qv (fun (_ : Unit) => True) (fun (_ : Unit) (t : State) => ∃ (za0_2 : Int32) (za0_3 : Int32) (za0_4 : Int32) (za0_5 : Int32) (za0_6 : Int64) (za0_7 : Int32), (0 ≤ za0_2.toInt ∧ za0_2.toInt ≤ 1000) ∧ (0 ≤ za0_3.toInt ∧ za0_3.toInt ≤ 1000) ∧ (0 ≤ za0_5.toInt ∧ za0_5.toInt ≤ 1000) ∧ va_P (dC, dI) vwCl [(a0, .inr (6, [.ref a0_0, .ref a1, .int za0_2, .int za0_3, .int za0_4, .int za0_5, .long za0_6, .int za0_7])), (a0_0, .inl (a0_0_c, 12, .inr (.inl a0_0_f))), (a1, .inl (a1_c, 1000, .inl a1_f))] t.heap ∧ va_K (dC, dI) vwCl [] t ∧ va_D (va_A [(a0, .inr (6, [.ref a0_0, .ref a0_1, .int a0_2, .int a0_3, .int a0_4, .int a0_5, .long a0_6, .int a0_7])), (a0_0, .inl (a0_0_c, 12, .inr (.inl a0_0_f))), (a1, .inl (a1_c, 1000, .inl a1_f))] sz) [(a0, .inr (6, [.ref a0_0, .ref a1, .int za0_2, .int za0_3, .int za0_4, .int za0_5, .long za0_6, .int za0_7])), (a0_0, .inl (a0_0_c, 12, .inr (.inl a0_0_f))), (a1, .inl (a1_c, 1000, .inl a1_f))]) (va_A [(a0, .inr (6, [.ref a0_0, .ref a0_1, .int a0_2, .int a0_3, .int a0_4, .int a0_5, .long a0_6, .int a0_7])), (a0_0, .inl (a0_0_c, 12, .inr (.inl a0_0_f))), (a1, .inl (a1_c, 1000, .inl a1_f))] sz)) 0 0 (va_A [(a0, .inr (6, [.ref a0_0, .ref a0_1, .int a0_2, .int a0_3, .int a0_4, .int a0_5, .long a0_6, .int a0_7])), (a0_0, .inl (a0_0_c, 12, .inr (.inl a0_0_f))), (a1, .inl (a1_c, 1000, .inl a1_f))] sz) := by
  refine Met.ofW (cc := cX7_start) (maxL := 3) (ret := none) (by decide) rfl ?_
  intro p e s m args below meth c s₁ B hml hv
  obtain ⟨rfl, hsz, hP, hK, hD0, hE⟩ := hv
  have hx := B.exec
  have hb := B.bytes
  have hr := B.returns
  have hts0 := atoms_spec (ws := (.code yX7_start cX7_start 3 none :: TBL)) B.pre
  have hts := fun (w : Cond) (h : w ∈ TBL) => hts0 w (List.mem_cons_of_mem _ h)
  have hown : s.vm.findClass RX7 = some m.cls := findClass_of_methodNamed B.named
  have hlocks := B.notSynchronized
  have hN := hE.1
  subst hsz
  have hD := hD0.self (sz := s.heap.size)
  generalize hAe : va_A [(a0, .inr (6, [.ref a0_0, .ref a0_1, .int a0_2, .int a0_3, .int a0_4, .int a0_5, .long a0_6, .int a0_7])), (a0_0, .inl (a0_0_c, 12, .inr (.inl a0_0_f))), (a1, .inl (a1_c, 1000, .inl a1_f))] s.heap.size = A at hD hE ⊢
  have hA : ∀ q : Nat, s.heap.size ≤ q → A q := fun q h => by rw [← hAe]; exact Or.inr h
  have hS : va_S A s.heap s.heap [] := va_S.rf
  replace hP : va_P (dC, dI) vwCl [(a0, .inr (6, [.ref a0_0, .ref a0_1, .int a0_2, .int a0_3, .int a0_4, .int a0_5, .long a0_6, .int a0_7])), (a0_0, .inl (a0_0_c, 12, .inr (.inl a0_0_f))), (a1, .inl (a1_c, 1000, .inl a1_f))] s.heap := hP
  have hl := lv_entry ([.ref a0, .ref a1, .int a2]) (n := 3) (Nat.le_of_ble_eq_true rfl)
  rw [lg_entry_eq]
  generalize (lg_sl ([.ref a0, .ref a1, .int a2]) ++ List.replicate (3 - (lg_sl ([.ref a0, .ref a1, .int a2])).length) Slot.unset).toArray = ls at hl ⊢
  have hl : lv_has ls 3 [(0, .ref a0), (1, .ref a1), (2, .int a2)] := hl
  have b_a2 := i32b a2
  have b_a0_4 := i32b a0_4
  have b_a0_7 := i32b a0_7
  refine lv_aload_n hx hb dX7_start_0 rfl (lv_at hl 0 rfl) ?_
  refine lv_aload_n hx hb dX7_start_1 rfl (lv_at hl 1 rfl) ?_
  refine va_put (D := (dC, dI)) (ci := 6) (v := .ref a1) (ty := .array .byte) (C := RX7) (T := TX7) (N := 8) hx hb hts inlX7 tyX7 tyX7_ok nmX7 hown hK hP hD hS 0 rgL3_619f1f5 rfl 1 (by decide) (hts (.fieldLink RX7 13 "ClosedUntil$Tokens" "bytes" "[B") qw_68) (fun _ h9 => h9) rfl (by decide +kernel) rfl rfl (Nat.le_of_ble_eq_true rfl) dX7_start_2 (fun H locs hP9 hD9 hS9 => ?_)
  clear hP hD hS
  obtain ⟨hP, hD⟩ := rgS3_dd231b9 (e := (a0, .inr (6, [.ref a0_0, .ref a1, .int a0_2, .int a0_3, .int a0_4, .int a0_5, .long a0_6, .int a0_7]))) hP9 hD9 rfl
  have hS := hS9; clear hP9 hD9 hS9
  refine lv_aload_n hx hb dX7_start_5 rfl (lv_at hl 0 rfl) ?_
  refine lv_iload_n hx hb dX7_start_6 rfl (lv_at hl 2 rfl) ?_
  refine lv_aload_n hx hb dX7_start_7 rfl (lv_at hl 1 rfl) ?_
  refine va_alen hx hb hK hP 2 1 rgL3_2e0c0f7 rgT2_d592b55 (v := 1000) (show Int32.ofNat 1000 = 1000 from by decide) dX7_start_8 ?_
  refine va_mmin hx hb (by rw [hml]; exact hl.1.symm) hown (hts (.methodLink RX7 33 Lib.Math.min.name) qw_92) (hts (.static Lib.Math.min.name) qw_17) (hts (.initialized "java/lang/Math") qw_15) (hts (.code Lib.Math.min.name Lib.Math.min.code 2 (some .int)) qw_18) (Nat.le_of_ble_eq_true rfl) (Nat.le_of_ble_eq_true rfl) (Nat.le_of_ble_eq_true rfl) (Nat.le_of_ble_eq_true rfl) dX7_start_9 ?_
  refine lv_topi (fun x1 e_x1 => ?_)
  have e_x1 := ti_min e_x1 rfl (show (1000 : Int32).toInt = 1000 by decide)
  refine va_put (D := (dC, dI)) (ci := 6) (v := .int x1) (ty := .int) (C := RX7) (T := TX7) (N := 8) hx hb hts inlX7 tyX7 tyX7_ok nmX7 hown hK hP hD hS 0 rgL3_619f1f5 rfl 2 (by decide) (hts (.fieldLink RX7 39 "ClosedUntil$Tokens" "end" "I") qw_65) (fun _ h9 => h9) rfl (by decide +kernel) rfl rfl (Nat.le_of_ble_eq_true rfl) dX7_start_12 (fun H locs hP9 hD9 hS9 => ?_)
  clear hP hD hS
  obtain ⟨hP, hD⟩ := rgS3_dd231b9 (e := (a0, .inr (6, [.ref a0_0, .ref a1, .int x1, .int a0_3, .int a0_4, .int a0_5, .long a0_6, .int a0_7]))) hP9 hD9 rfl
  have hS := hS9; clear hP9 hD9 hS9
  refine lv_aload_n hx hb dX7_start_15 rfl (lv_at hl 0 rfl) ?_
  refine lv_iconst (v := 0) hx hb dX7_start_16 (by decide) ?_
  refine va_put (D := (dC, dI)) (ci := 6) (v := .int 0) (ty := .int) (C := RX7) (T := TX7) (N := 8) hx hb hts inlX7 tyX7 tyX7_ok nmX7 hown hK hP hD hS 0 rgL3_619f1f5 rfl 3 (by decide) (hts (.fieldLink RX7 43 "ClosedUntil$Tokens" "at" "I") qw_64) (fun _ h9 => h9) rfl (by decide +kernel) rfl rfl (Nat.le_of_ble_eq_true rfl) dX7_start_17 (fun H locs hP9 hD9 hS9 => ?_)
  clear hP hD hS
  obtain ⟨hP, hD⟩ := rgS3_dd231b9 (e := (a0, .inr (6, [.ref a0_0, .ref a1, .int x1, .int 0, .int a0_4, .int a0_5, .long a0_6, .int a0_7]))) hP9 hD9 rfl
  have hS := hS9; clear hP9 hD9 hS9
  refine lv_aload_n hx hb dX7_start_20 rfl (lv_at hl 0 rfl) ?_
  have qc0 : (0 : Int32).toInt = 0 := by decide
  have hPc := hP
  have hKc := hK
  have hDc := hD
  have hFc := freeW hDc hS hA
  refine va_callv (va_runV (As := []) (rest := []) ⟨hx, hb, hml, hown, hts⟩ (k_X7_advance l dC dI g H.size (a0) (a0_0) (a1) (x1) (0) (a0_4) (a0_5) (a0_6) (a0_7) (a0_0_c) (a0_0_f) (a1_c) (a1_f) (by omega) (by omega) (by omega)) (cwV 0 hts (gwV qw_94 qw_95 qw_96 qw_70 qw_93) rfl rfl rfl (by decide +kernel) ⟨Nat.le_of_ble_eq_true rfl, Nat.le_of_ble_eq_true rfl⟩) ⟨fun a U g9 mk q => ⟨q.1, q.2.1, q.2.2.1, va_K.moved (u := U) (U := U.calling g9 mk a) (Vm.Alike.refl U.vm) q.2.2.2.1, q.2.2.2.2.1, Ev.bl q.2.2.2.2.2⟩, va_recv hK hP (ci := 6) (q0 := 0) rfl rgL3_619f1f5, fun U hU hW => ⟨rfl, by rw [hU], atB hU hPc, va_K.moved hW.alike hKc, hDc.weaken (fun _ _ _ _ => trivial), hE.go hS hFc hU hW⟩⟩ rfl rfl hl.1 rfl (lv_room (Nat.le_of_ble_eq_true rfl)) dX7_start_21 ⟨Nat.le_of_ble_eq_true rfl, Nat.le_of_ble_eq_true rfl⟩) hS (fun q _ h => hFc q h) hFc (fun u2 t H1 locs ht hvm h_u2 hB hz1 hk1 hS => ?_)
  obtain ⟨za0_3_4, za0_4_5, za0_5_6, za0_6_7, za0_7_8, hF9, hF10, hP1, hK1, hD1⟩ := hB
  have hK1 := va_K.moved hvm.symm hK1
  have hJ9 := rgJ3_bf26f92 hP hD hk1 hFc (atH ht hP1) hD1
  clear hP hD hPc hKc hDc hFc hP1 hD1 hk1 hz1
  obtain ⟨hP, hD⟩ := hJ9
  clear hK1
  generalize H1 = H at hP hS ⊢
  refine W.widen (k := 0) (n := 0) (Nat.le_of_ble_eq_true rfl) (Nat.le_of_ble_eq_true rfl) ?_
  refine W.widen (k := 0) (n := 0) (Nat.le_of_ble_eq_true rfl) (Nat.le_of_ble_eq_true rfl) ?_
  have hP9 := hP
  have hD9 := hD
  have hK9 := (rgK2_b4df2fa hK)
  have hf9_0 : (0 ≤ x1.toInt ∧ x1.toInt ≤ 1000) := by omega
  have hf9_1 : (0 ≤ za0_3_4.toInt ∧ za0_3_4.toInt ≤ 1000) := by omega
  have hf9_2 : (0 ≤ za0_5_6.toInt ∧ za0_5_6.toInt ≤ 1000) := by omega
  exact W.vret hx hb hr (fun t ht hW => ⟨⟨(), rfl, trivial, x1, za0_3_4, za0_4_5, za0_5_6, za0_6_7, za0_7_8, hf9_0, hf9_1, hf9_2, atB ht hP9, va_K.moved hW.alike hK9, hD9⟩, hS.F ht⟩) hS.2.2 dX7_start_24
