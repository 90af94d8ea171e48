theorem dX9_personLine_0 : decode cX9_personLine 0 = .ok (.aload_n 0, 1) := by decide +kernel
theorem dX9_personLine_1 : decode cX9_personLine 1 = .ok (.invokevirtual 277, 3) := by decide +kernel
theorem dX9_personLine_4 : decode cX9_personLine 4 = .ok (.ifCond .ne 5, 3) := by decide +kernel
theorem dX9_personLine_7 : decode cX9_personLine 7 = .ok (.iconst 0, 1) := by decide +kernel
theorem dX9_personLine_8 : decode cX9_personLine 8 = .ok (.ireturn, 1) := by decide +kernel
theorem dX9_personLine_9 : decode cX9_personLine 9 = .ok (.bipush 8, 2) := by decide +kernel
theorem dX9_personLine_11 : decode cX9_personLine 11 = .ok (.aload_n 0, 1) := by decide +kernel
theorem dX9_personLine_12 : decode cX9_personLine 12 = .ok (.getfield 256, 3) := by decide +kernel
theorem dX9_personLine_15 : decode cX9_personLine 15 = .ok (.imul, 1) := by decide +kernel
theorem dX9_personLine_16 : decode cX9_personLine 16 = .ok (.aload_n 0, 1) := by decide +kernel
theorem dX9_personLine_17 : decode cX9_personLine 17 = .ok (.getfield 13, 3) := by decide +kernel
theorem dX9_personLine_20 : decode cX9_personLine 20 = .ok (.aload_n 0, 1) := by decide +kernel
theorem dX9_personLine_21 : decode cX9_personLine 21 = .ok (.getfield 256, 3) := by decide +kernel
theorem dX9_personLine_24 : decode cX9_personLine 24 = .ok (.iaload, 1) := by decide +kernel
theorem dX9_personLine_25 : decode cX9_personLine 25 = .ok (.iadd, 1) := by decide +kernel
theorem dX9_personLine_26 : decode cX9_personLine 26 = .ok (.istore_n 1, 1) := by decide +kernel
theorem dX9_personLine_27 : decode cX9_personLine 27 = .ok (.aload_n 0, 1) := by decide +kernel
theorem dX9_personLine_28 : decode cX9_personLine 28 = .ok (.getfield 26, 3) := by decide +kernel
theorem dX9_personLine_31 : decode cX9_personLine 31 = .ok (.iload_n 1, 1) := by decide +kernel
theorem dX9_personLine_32 : decode cX9_personLine 32 = .ok (.aload_n 0, 1) := by decide +kernel
theorem dX9_personLine_33 : decode cX9_personLine 33 = .ok (.getfield 271, 3) := by decide +kernel
theorem dX9_personLine_36 : decode cX9_personLine 36 = .ok (.lastore, 1) := by decide +kernel
theorem dX9_personLine_37 : decode cX9_personLine 37 = .ok (.aload_n 0, 1) := by decide +kernel
theorem dX9_personLine_38 : decode cX9_personLine 38 = .ok (.getfield 30, 3) := by decide +kernel
theorem dX9_personLine_41 : decode cX9_personLine 41 = .ok (.iload_n 1, 1) := by decide +kernel
theorem dX9_personLine_42 : decode cX9_personLine 42 = .ok (.iconst (-1), 1) := by decide +kernel
theorem dX9_personLine_43 : decode cX9_personLine 43 = .ok (.iastore, 1) := by decide +kernel
theorem dX9_personLine_44 : decode cX9_personLine 44 = .ok (.aload_n 0, 1) := by decide +kernel
theorem dX9_personLine_45 : decode cX9_personLine 45 = .ok (.getfield 33, 3) := by decide +kernel
theorem dX9_personLine_48 : decode cX9_personLine 48 = .ok (.iload_n 1, 1) := by decide +kernel
theorem dX9_personLine_49 : decode cX9_personLine 49 = .ok (.iconst (-1), 1) := by decide +kernel
theorem dX9_personLine_50 : decode cX9_personLine 50 = .ok (.iastore, 1) := by decide +kernel
theorem dX9_personLine_51 : decode cX9_personLine 51 = .ok (.aload_n 0, 1) := by decide +kernel
theorem dX9_personLine_52 : decode cX9_personLine 52 = .ok (.ldc 211, 2) := by decide +kernel
theorem dX9_personLine_54 : decode cX9_personLine 54 = .ok (.invokevirtual 280, 3) := by decide +kernel
theorem dX9_personLine_57 : decode cX9_personLine 57 = .ok (.ifCond .eq 22, 3) := by decide +kernel
theorem dX9_personLine_60 : decode cX9_personLine 60 = .ok (.aload_n 0, 1) := by decide +kernel
theorem dX9_personLine_61 : decode cX9_personLine 61 = .ok (.invokevirtual 283, 3) := by decide +kernel
theorem dX9_personLine_64 : decode cX9_personLine 64 = .ok (.ifCond .ne 5, 3) := by decide +kernel
theorem dX9_personLine_67 : decode cX9_personLine 67 = .ok (.iconst 0, 1) := by decide +kernel
theorem dX9_personLine_68 : decode cX9_personLine 68 = .ok (.ireturn, 1) := by decide +kernel
theorem dX9_personLine_69 : decode cX9_personLine 69 = .ok (.aload_n 0, 1) := by decide +kernel
theorem dX9_personLine_70 : decode cX9_personLine 70 = .ok (.getfield 30, 3) := by decide +kernel
theorem dX9_personLine_73 : decode cX9_personLine 73 = .ok (.iload_n 1, 1) := by decide +kernel
theorem dX9_personLine_74 : decode cX9_personLine 74 = .ok (.aload_n 0, 1) := by decide +kernel
theorem dX9_personLine_75 : decode cX9_personLine 75 = .ok (.getfield 253, 3) := by decide +kernel
theorem dX9_personLine_78 : decode cX9_personLine 78 = .ok (.iastore, 1) := by decide +kernel
theorem dX9_personLine_79 : decode cX9_personLine 79 = .ok (.aload_n 0, 1) := by decide +kernel
theorem dX9_personLine_80 : decode cX9_personLine 80 = .ok (.ldc 213, 2) := by decide +kernel
theorem dX9_personLine_82 : decode cX9_personLine 82 = .ok (.invokevirtual 280, 3) := by decide +kernel
theorem dX9_personLine_85 : decode cX9_personLine 85 = .ok (.ifCond .eq 52, 3) := by decide +kernel
theorem dX9_personLine_88 : decode cX9_personLine 88 = .ok (.aload_n 0, 1) := by decide +kernel
theorem dX9_personLine_89 : decode cX9_personLine 89 = .ok (.invokevirtual 283, 3) := by decide +kernel
theorem dX9_personLine_92 : decode cX9_personLine 92 = .ok (.ifCond .eq 33, 3) := by decide +kernel
theorem dX9_personLine_95 : decode cX9_personLine 95 = .ok (.aload_n 0, 1) := by decide +kernel
theorem dX9_personLine_96 : decode cX9_personLine 96 = .ok (.aload_n 0, 1) := by decide +kernel
theorem dX9_personLine_97 : decode cX9_personLine 97 = .ok (.getfield 253, 3) := by decide +kernel
theorem dX9_personLine_100 : decode cX9_personLine 100 = .ok (.aload_n 0, 1) := by decide +kernel
theorem dX9_personLine_101 : decode cX9_personLine 101 = .ok (.getfield 30, 3) := by decide +kernel
theorem dX9_personLine_104 : decode cX9_personLine 104 = .ok (.iload_n 1, 1) := by decide +kernel
theorem dX9_personLine_105 : decode cX9_personLine 105 = .ok (.iaload, 1) := by decide +kernel
theorem dX9_personLine_106 : decode cX9_personLine 106 = .ok (.if_icmp .lt 7, 3) := by decide +kernel
theorem dX9_personLine_109 : decode cX9_personLine 109 = .ok (.iconst 1, 1) := by decide +kernel
theorem dX9_personLine_110 : decode cX9_personLine 110 = .ok (.goto 4, 3) := by decide +kernel
theorem dX9_personLine_113 : decode cX9_personLine 113 = .ok (.iconst 0, 1) := by decide +kernel
theorem dX9_personLine_114 : decode cX9_personLine 114 = .ok (.iconst 4, 1) := by decide +kernel
theorem dX9_personLine_115 : decode cX9_personLine 115 = .ok (.aload_n 0, 1) := by decide +kernel
theorem dX9_personLine_116 : decode cX9_personLine 116 = .ok (.getfield 246, 3) := by decide +kernel
theorem dX9_personLine_119 : decode cX9_personLine 119 = .ok (.invokevirtual 187, 3) := by decide +kernel
theorem dX9_personLine_122 : decode cX9_personLine 122 = .ok (.ifCond .ne 5, 3) := by decide +kernel
theorem dX9_personLine_125 : decode cX9_personLine 125 = .ok (.iconst 0, 1) := by decide +kernel
theorem dX9_personLine_126 : decode cX9_personLine 126 = .ok (.ireturn, 1) := by decide +kernel
theorem dX9_personLine_127 : decode cX9_personLine 127 = .ok (.aload_n 0, 1) := by decide +kernel
theorem dX9_personLine_128 : decode cX9_personLine 128 = .ok (.getfield 33, 3) := by decide +kernel
theorem dX9_personLine_131 : decode cX9_personLine 131 = .ok (.iload_n 1, 1) := by decide +kernel
theorem dX9_personLine_132 : decode cX9_personLine 132 = .ok (.aload_n 0, 1) := by decide +kernel
theorem dX9_personLine_133 : decode cX9_personLine 133 = .ok (.getfield 253, 3) := by decide +kernel
theorem dX9_personLine_136 : decode cX9_personLine 136 = .ok (.iastore, 1) := by decide +kernel
theorem dX9_personLine_137 : decode cX9_personLine 137 = .ok (.aload_n 0, 1) := by decide +kernel
theorem dX9_personLine_138 : decode cX9_personLine 138 = .ok (.getfield 13, 3) := by decide +kernel
theorem dX9_personLine_141 : decode cX9_personLine 141 = .ok (.aload_n 0, 1) := by decide +kernel
theorem dX9_personLine_142 : decode cX9_personLine 142 = .ok (.getfield 256, 3) := by decide +kernel
theorem dX9_personLine_145 : decode cX9_personLine 145 = .ok (.dup2, 1) := by decide +kernel
theorem dX9_personLine_146 : decode cX9_personLine 146 = .ok (.iaload, 1) := by decide +kernel
theorem dX9_personLine_147 : decode cX9_personLine 147 = .ok (.iconst 1, 1) := by decide +kernel
theorem dX9_personLine_148 : decode cX9_personLine 148 = .ok (.iadd, 1) := by decide +kernel
theorem dX9_personLine_149 : decode cX9_personLine 149 = .ok (.iastore, 1) := by decide +kernel
theorem dX9_personLine_150 : decode cX9_personLine 150 = .ok (.iconst 1, 1) := by decide +kernel
theorem dX9_personLine_151 : decode cX9_personLine 151 = .ok (.ireturn, 1) := by decide +kernel
theorem dX9_depositLine_0 : decode cX9_depositLine 0 = .ok (.aload_n 0, 1) := by decide +kernel
theorem dX9_depositLine_1 : decode cX9_depositLine 1 = .ok (.invokevirtual 277, 3) := by decide +kernel
theorem dX9_depositLine_4 : decode cX9_depositLine 4 = .ok (.ifCond .ne 5, 3) := by decide +kernel
theorem dX9_depositLine_7 : decode cX9_depositLine 7 = .ok (.iconst 0, 1) := by decide +kernel
theorem dX9_depositLine_8 : decode cX9_depositLine 8 = .ok (.ireturn, 1) := by decide +kernel
theorem dX9_depositLine_9 : decode cX9_depositLine 9 = .ok (.aload_n 0, 1) := by decide +kernel
theorem dX9_depositLine_10 : decode cX9_depositLine 10 = .ok (.getfield 271, 3) := by decide +kernel
theorem dX9_depositLine_13 : decode cX9_depositLine 13 = .ok (.lstore_n 1, 1) := by decide +kernel
theorem dX9_depositLine_14 : decode cX9_depositLine 14 = .ok (.aload_n 0, 1) := by decide +kernel
theorem dX9_depositLine_15 : decode cX9_depositLine 15 = .ok (.invokevirtual 283, 3) := by decide +kernel
theorem dX9_depositLine_18 : decode cX9_depositLine 18 = .ok (.ifCond .ne 5, 3) := by decide +kernel
theorem dX9_depositLine_21 : decode cX9_depositLine 21 = .ok (.iconst 0, 1) := by decide +kernel
theorem dX9_depositLine_22 : decode cX9_depositLine 22 = .ok (.ireturn, 1) := by decide +kernel
theorem dX9_depositLine_23 : decode cX9_depositLine 23 = .ok (.iconst 4, 1) := by decide +kernel
theorem dX9_depositLine_24 : decode cX9_depositLine 24 = .ok (.aload_n 0, 1) := by decide +kernel
theorem dX9_depositLine_25 : decode cX9_depositLine 25 = .ok (.getfield 256, 3) := by decide +kernel
theorem dX9_depositLine_28 : decode cX9_depositLine 28 = .ok (.imul, 1) := by decide +kernel
theorem dX9_depositLine_29 : decode cX9_depositLine 29 = .ok (.aload_n 0, 1) := by decide +kernel
theorem dX9_depositLine_30 : decode cX9_depositLine 30 = .ok (.getfield 17, 3) := by decide +kernel
theorem dX9_depositLine_33 : decode cX9_depositLine 33 = .ok (.aload_n 0, 1) := by decide +kernel
theorem dX9_depositLine_34 : decode cX9_depositLine 34 = .ok (.getfield 256, 3) := by decide +kernel
theorem dX9_depositLine_37 : decode cX9_depositLine 37 = .ok (.iaload, 1) := by decide +kernel
theorem dX9_depositLine_38 : decode cX9_depositLine 38 = .ok (.iadd, 1) := by decide +kernel
theorem dX9_depositLine_39 : decode cX9_depositLine 39 = .ok (.istore_n 3, 1) := by decide +kernel
theorem dX9_depositLine_40 : decode cX9_depositLine 40 = .ok (.aload_n 0, 1) := by decide +kernel
theorem dX9_depositLine_41 : decode cX9_depositLine 41 = .ok (.getfield 36, 3) := by decide +kernel
theorem dX9_depositLine_44 : decode cX9_depositLine 44 = .ok (.iload_n 3, 1) := by decide +kernel
theorem dX9_depositLine_45 : decode cX9_depositLine 45 = .ok (.lload_n 1, 1) := by decide +kernel
theorem dX9_depositLine_46 : decode cX9_depositLine 46 = .ok (.lastore, 1) := by decide +kernel
theorem dX9_depositLine_47 : decode cX9_depositLine 47 = .ok (.aload_n 0, 1) := by decide +kernel
theorem dX9_depositLine_48 : decode cX9_depositLine 48 = .ok (.getfield 39, 3) := by decide +kernel
theorem dX9_depositLine_51 : decode cX9_depositLine 51 = .ok (.iload_n 3, 1) := by decide +kernel
theorem dX9_depositLine_52 : decode cX9_depositLine 52 = .ok (.aload_n 0, 1) := by decide +kernel
theorem dX9_depositLine_53 : decode cX9_depositLine 53 = .ok (.getfield 253, 3) := by decide +kernel
theorem dX9_depositLine_56 : decode cX9_depositLine 56 = .ok (.iastore, 1) := by decide +kernel
theorem dX9_depositLine_57 : decode cX9_depositLine 57 = .ok (.aload_n 0, 1) := by decide +kernel
theorem dX9_depositLine_58 : decode cX9_depositLine 58 = .ok (.getfield 17, 3) := by decide +kernel
theorem dX9_depositLine_61 : decode cX9_depositLine 61 = .ok (.aload_n 0, 1) := by decide +kernel
theorem dX9_depositLine_62 : decode cX9_depositLine 62 = .ok (.getfield 256, 3) := by decide +kernel
theorem dX9_depositLine_65 : decode cX9_depositLine 65 = .ok (.dup2, 1) := by decide +kernel
theorem dX9_depositLine_66 : decode cX9_depositLine 66 = .ok (.iaload, 1) := by decide +kernel
theorem dX9_depositLine_67 : decode cX9_depositLine 67 = .ok (.iconst 1, 1) := by decide +kernel
theorem dX9_depositLine_68 : decode cX9_depositLine 68 = .ok (.iadd, 1) := by decide +kernel
theorem dX9_depositLine_69 : decode cX9_depositLine 69 = .ok (.iastore, 1) := by decide +kernel
theorem dX9_depositLine_70 : decode cX9_depositLine 70 = .ok (.iconst 1, 1) := by decide +kernel
theorem dX9_depositLine_71 : decode cX9_depositLine 71 = .ok (.ireturn, 1) := by decide +kernel
theorem dX9_pieceLine_0 : decode cX9_pieceLine 0 = .ok (.aload_n 0, 1) := by decide +kernel
theorem dX9_pieceLine_1 : decode cX9_pieceLine 1 = .ok (.invokevirtual 277, 3) := by decide +kernel
theorem dX9_pieceLine_4 : decode cX9_pieceLine 4 = .ok (.ifCond .ne 5, 3) := by decide +kernel
theorem dX9_pieceLine_7 : decode cX9_pieceLine 7 = .ok (.iconst 0, 1) := by decide +kernel
theorem dX9_pieceLine_8 : decode cX9_pieceLine 8 = .ok (.ireturn, 1) := by decide +kernel
theorem dX9_pieceLine_9 : decode cX9_pieceLine 9 = .ok (.aload_n 0, 1) := by decide +kernel
theorem dX9_pieceLine_10 : decode cX9_pieceLine 10 = .ok (.getfield 271, 3) := by decide +kernel
theorem dX9_pieceLine_13 : decode cX9_pieceLine 13 = .ok (.lstore_n 1, 1) := by decide +kernel
theorem dX9_pieceLine_14 : decode cX9_pieceLine 14 = .ok (.bipush 24, 2) := by decide +kernel
theorem dX9_pieceLine_16 : decode cX9_pieceLine 16 = .ok (.aload_n 0, 1) := by decide +kernel
theorem dX9_pieceLine_17 : decode cX9_pieceLine 17 = .ok (.getfield 256, 3) := by decide +kernel
theorem dX9_pieceLine_20 : decode cX9_pieceLine 20 = .ok (.imul, 1) := by decide +kernel
theorem dX9_pieceLine_21 : decode cX9_pieceLine 21 = .ok (.aload_n 0, 1) := by decide +kernel
theorem dX9_pieceLine_22 : decode cX9_pieceLine 22 = .ok (.getfield 20, 3) := by decide +kernel
theorem dX9_pieceLine_25 : decode cX9_pieceLine 25 = .ok (.aload_n 0, 1) := by decide +kernel
theorem dX9_pieceLine_26 : decode cX9_pieceLine 26 = .ok (.getfield 256, 3) := by decide +kernel
theorem dX9_pieceLine_29 : decode cX9_pieceLine 29 = .ok (.iaload, 1) := by decide +kernel
theorem dX9_pieceLine_30 : decode cX9_pieceLine 30 = .ok (.iadd, 1) := by decide +kernel
theorem dX9_pieceLine_31 : decode cX9_pieceLine 31 = .ok (.istore_n 3, 1) := by decide +kernel
theorem dX9_pieceLine_32 : decode cX9_pieceLine 32 = .ok (.aload_n 0, 1) := by decide +kernel
theorem dX9_pieceLine_33 : decode cX9_pieceLine 33 = .ok (.getfield 45, 3) := by decide +kernel
theorem dX9_pieceLine_36 : decode cX9_pieceLine 36 = .ok (.iload_n 3, 1) := by decide +kernel
theorem dX9_pieceLine_37 : decode cX9_pieceLine 37 = .ok (.iconst (-1), 1) := by decide +kernel
theorem dX9_pieceLine_38 : decode cX9_pieceLine 38 = .ok (.iastore, 1) := by decide +kernel
theorem dX9_pieceLine_39 : decode cX9_pieceLine 39 = .ok (.aload_n 0, 1) := by decide +kernel
theorem dX9_pieceLine_40 : decode cX9_pieceLine 40 = .ok (.getfield 51, 3) := by decide +kernel
theorem dX9_pieceLine_43 : decode cX9_pieceLine 43 = .ok (.iload_n 3, 1) := by decide +kernel
theorem dX9_pieceLine_44 : decode cX9_pieceLine 44 = .ok (.iconst 0, 1) := by decide +kernel
theorem dX9_pieceLine_45 : decode cX9_pieceLine 45 = .ok (.iastore, 1) := by decide +kernel
theorem dX9_pieceLine_46 : decode cX9_pieceLine 46 = .ok (.aload_n 0, 1) := by decide +kernel
theorem dX9_pieceLine_47 : decode cX9_pieceLine 47 = .ok (.getfield 54, 3) := by decide +kernel
theorem dX9_pieceLine_50 : decode cX9_pieceLine 50 = .ok (.iload_n 3, 1) := by decide +kernel
theorem dX9_pieceLine_51 : decode cX9_pieceLine 51 = .ok (.iconst (-1), 1) := by decide +kernel
theorem dX9_pieceLine_52 : decode cX9_pieceLine 52 = .ok (.iastore, 1) := by decide +kernel
theorem dX9_pieceLine_53 : decode cX9_pieceLine 53 = .ok (.aload_n 0, 1) := by decide +kernel
theorem dX9_pieceLine_54 : decode cX9_pieceLine 54 = .ok (.ldc 219, 2) := by decide +kernel
theorem dX9_pieceLine_56 : decode cX9_pieceLine 56 = .ok (.invokevirtual 280, 3) := by decide +kernel
theorem dX9_pieceLine_59 : decode cX9_pieceLine 59 = .ok (.ifCond .eq 23, 3) := by decide +kernel
theorem dX9_pieceLine_62 : decode cX9_pieceLine 62 = .ok (.aload_n 0, 1) := by decide +kernel
theorem dX9_pieceLine_63 : decode cX9_pieceLine 63 = .ok (.iconst 0, 1) := by decide +kernel
theorem dX9_pieceLine_64 : decode cX9_pieceLine 64 = .ok (.invokevirtual 286, 3) := by decide +kernel
theorem dX9_pieceLine_67 : decode cX9_pieceLine 67 = .ok (.ifCond .ne 5, 3) := by decide +kernel
theorem dX9_pieceLine_70 : decode cX9_pieceLine 70 = .ok (.iconst 0, 1) := by decide +kernel
theorem dX9_pieceLine_71 : decode cX9_pieceLine 71 = .ok (.ireturn, 1) := by decide +kernel
theorem dX9_pieceLine_72 : decode cX9_pieceLine 72 = .ok (.aload_n 0, 1) := by decide +kernel
theorem dX9_pieceLine_73 : decode cX9_pieceLine 73 = .ok (.getfield 45, 3) := by decide +kernel
theorem dX9_pieceLine_76 : decode cX9_pieceLine 76 = .ok (.iload_n 3, 1) := by decide +kernel
theorem dX9_pieceLine_77 : decode cX9_pieceLine 77 = .ok (.aload_n 0, 1) := by decide +kernel
theorem dX9_pieceLine_78 : decode cX9_pieceLine 78 = .ok (.getfield 274, 3) := by decide +kernel
theorem dX9_pieceLine_81 : decode cX9_pieceLine 81 = .ok (.iastore, 1) := by decide +kernel
theorem dX9_pieceLine_82 : decode cX9_pieceLine 82 = .ok (.aload_n 0, 1) := by decide +kernel
theorem dX9_pieceLine_83 : decode cX9_pieceLine 83 = .ok (.invokevirtual 283, 3) := by decide +kernel
theorem dX9_pieceLine_86 : decode cX9_pieceLine 86 = .ok (.ifCond .ne 5, 3) := by decide +kernel
theorem dX9_pieceLine_89 : decode cX9_pieceLine 89 = .ok (.iconst 0, 1) := by decide +kernel
theorem dX9_pieceLine_90 : decode cX9_pieceLine 90 = .ok (.ireturn, 1) := by decide +kernel
theorem dX9_pieceLine_91 : decode cX9_pieceLine 91 = .ok (.aload_n 0, 1) := by decide +kernel
theorem dX9_pieceLine_92 : decode cX9_pieceLine 92 = .ok (.getfield 48, 3) := by decide +kernel
theorem dX9_pieceLine_95 : decode cX9_pieceLine 95 = .ok (.iload_n 3, 1) := by decide +kernel
theorem dX9_pieceLine_96 : decode cX9_pieceLine 96 = .ok (.aload_n 0, 1) := by decide +kernel
theorem dX9_pieceLine_97 : decode cX9_pieceLine 97 = .ok (.getfield 253, 3) := by decide +kernel
theorem dX9_pieceLine_100 : decode cX9_pieceLine 100 = .ok (.iastore, 1) := by decide +kernel
theorem dX9_pieceLine_101 : decode cX9_pieceLine 101 = .ok (.aload_n 0, 1) := by decide +kernel
theorem dX9_pieceLine_102 : decode cX9_pieceLine 102 = .ok (.iload_n 3, 1) := by decide +kernel
theorem dX9_pieceLine_103 : decode cX9_pieceLine 103 = .ok (.invokevirtual 289, 3) := by decide +kernel
theorem dX9_pieceLine_106 : decode cX9_pieceLine 106 = .ok (.ifCond .ne 5, 3) := by decide +kernel
theorem dX9_pieceLine_109 : decode cX9_pieceLine 109 = .ok (.iconst 0, 1) := by decide +kernel
theorem dX9_pieceLine_110 : decode cX9_pieceLine 110 = .ok (.ireturn, 1) := by decide +kernel
theorem dX9_pieceLine_111 : decode cX9_pieceLine 111 = .ok (.aload_n 0, 1) := by decide +kernel
theorem dX9_pieceLine_112 : decode cX9_pieceLine 112 = .ok (.ldc 223, 2) := by decide +kernel
theorem dX9_pieceLine_114 : decode cX9_pieceLine 114 = .ok (.invokevirtual 280, 3) := by decide +kernel
theorem dX9_pieceLine_117 : decode cX9_pieceLine 117 = .ok (.ifCond .eq 23, 3) := by decide +kernel
theorem dX9_pieceLine_120 : decode cX9_pieceLine 120 = .ok (.aload_n 0, 1) := by decide +kernel
theorem dX9_pieceLine_121 : decode cX9_pieceLine 121 = .ok (.iconst 2, 1) := by decide +kernel
theorem dX9_pieceLine_122 : decode cX9_pieceLine 122 = .ok (.invokevirtual 286, 3) := by decide +kernel
theorem dX9_pieceLine_125 : decode cX9_pieceLine 125 = .ok (.ifCond .ne 5, 3) := by decide +kernel
theorem dX9_pieceLine_128 : decode cX9_pieceLine 128 = .ok (.iconst 0, 1) := by decide +kernel
theorem dX9_pieceLine_129 : decode cX9_pieceLine 129 = .ok (.ireturn, 1) := by decide +kernel
theorem dX9_pieceLine_130 : decode cX9_pieceLine 130 = .ok (.aload_n 0, 1) := by decide +kernel
theorem dX9_pieceLine_131 : decode cX9_pieceLine 131 = .ok (.getfield 54, 3) := by decide +kernel
theorem dX9_pieceLine_134 : decode cX9_pieceLine 134 = .ok (.iload_n 3, 1) := by decide +kernel
theorem dX9_pieceLine_135 : decode cX9_pieceLine 135 = .ok (.aload_n 0, 1) := by decide +kernel
theorem dX9_pieceLine_136 : decode cX9_pieceLine 136 = .ok (.getfield 274, 3) := by decide +kernel
theorem dX9_pieceLine_139 : decode cX9_pieceLine 139 = .ok (.iastore, 1) := by decide +kernel
theorem dX9_pieceLine_140 : decode cX9_pieceLine 140 = .ok (.aload_n 0, 1) := by decide +kernel
theorem dX9_pieceLine_141 : decode cX9_pieceLine 141 = .ok (.getfield 42, 3) := by decide +kernel
theorem dX9_pieceLine_144 : decode cX9_pieceLine 144 = .ok (.iload_n 3, 1) := by decide +kernel
theorem dX9_pieceLine_145 : decode cX9_pieceLine 145 = .ok (.lload_n 1, 1) := by decide +kernel
theorem dX9_pieceLine_146 : decode cX9_pieceLine 146 = .ok (.lastore, 1) := by decide +kernel
theorem dX9_pieceLine_147 : decode cX9_pieceLine 147 = .ok (.aload_n 0, 1) := by decide +kernel
theorem dX9_pieceLine_148 : decode cX9_pieceLine 148 = .ok (.getfield 20, 3) := by decide +kernel
theorem dX9_pieceLine_151 : decode cX9_pieceLine 151 = .ok (.aload_n 0, 1) := by decide +kernel
theorem dX9_pieceLine_152 : decode cX9_pieceLine 152 = .ok (.getfield 256, 3) := by decide +kernel
theorem dX9_pieceLine_155 : decode cX9_pieceLine 155 = .ok (.dup2, 1) := by decide +kernel
theorem dX9_pieceLine_156 : decode cX9_pieceLine 156 = .ok (.iaload, 1) := by decide +kernel
theorem dX9_pieceLine_157 : decode cX9_pieceLine 157 = .ok (.iconst 1, 1) := by decide +kernel
theorem dX9_pieceLine_158 : decode cX9_pieceLine 158 = .ok (.iadd, 1) := by decide +kernel
theorem dX9_pieceLine_159 : decode cX9_pieceLine 159 = .ok (.iastore, 1) := by decide +kernel
theorem dX9_pieceLine_160 : decode cX9_pieceLine 160 = .ok (.iconst 1, 1) := by decide +kernel
theorem dX9_pieceLine_161 : decode cX9_pieceLine 161 = .ok (.ireturn, 1) := by decide +kernel
theorem dX9_closeLine_0 : decode cX9_closeLine 0 = .ok (.bipush 12, 2) := by decide +kernel
theorem dX9_closeLine_2 : decode cX9_closeLine 2 = .ok (.aload_n 0, 1) := by decide +kernel
theorem dX9_closeLine_3 : decode cX9_closeLine 3 = .ok (.getfield 256, 3) := by decide +kernel
theorem dX9_closeLine_6 : decode cX9_closeLine 6 = .ok (.imul, 1) := by decide +kernel
theorem dX9_closeLine_7 : decode cX9_closeLine 7 = .ok (.aload_n 0, 1) := by decide +kernel
theorem dX9_closeLine_8 : decode cX9_closeLine 8 = .ok (.getfield 23, 3) := by decide +kernel
theorem dX9_closeLine_11 : decode cX9_closeLine 11 = .ok (.aload_n 0, 1) := by decide +kernel
theorem dX9_closeLine_12 : decode cX9_closeLine 12 = .ok (.getfield 256, 3) := by decide +kernel
theorem dX9_closeLine_15 : decode cX9_closeLine 15 = .ok (.iaload, 1) := by decide +kernel
theorem dX9_closeLine_16 : decode cX9_closeLine 16 = .ok (.iadd, 1) := by decide +kernel
theorem dX9_closeLine_17 : decode cX9_closeLine 17 = .ok (.istore_n 1, 1) := by decide +kernel
theorem dX9_closeLine_18 : decode cX9_closeLine 18 = .ok (.aload_n 0, 1) := by decide +kernel
theorem dX9_closeLine_19 : decode cX9_closeLine 19 = .ok (.getfield 57, 3) := by decide +kernel
theorem dX9_closeLine_22 : decode cX9_closeLine 22 = .ok (.iload_n 1, 1) := by decide +kernel
theorem dX9_closeLine_23 : decode cX9_closeLine 23 = .ok (.aload_n 0, 1) := by decide +kernel
theorem dX9_closeLine_24 : decode cX9_closeLine 24 = .ok (.ldc 226, 2) := by decide +kernel
theorem dX9_closeLine_26 : decode cX9_closeLine 26 = .ok (.invokevirtual 207, 3) := by decide +kernel
theorem dX9_closeLine_29 : decode cX9_closeLine 29 = .ok (.ifCond .eq 7, 3) := by decide +kernel
theorem dX9_closeLine_32 : decode cX9_closeLine 32 = .ok (.iconst 0, 1) := by decide +kernel
theorem dX9_closeLine_33 : decode cX9_closeLine 33 = .ok (.goto 30, 3) := by decide +kernel
theorem dX9_closeLine_36 : decode cX9_closeLine 36 = .ok (.aload_n 0, 1) := by decide +kernel
theorem dX9_closeLine_37 : decode cX9_closeLine 37 = .ok (.ldc 205, 2) := by decide +kernel
theorem dX9_closeLine_39 : decode cX9_closeLine 39 = .ok (.invokevirtual 207, 3) := by decide +kernel
theorem dX9_closeLine_42 : decode cX9_closeLine 42 = .ok (.ifCond .eq 7, 3) := by decide +kernel
theorem dX9_closeLine_45 : decode cX9_closeLine 45 = .ok (.iconst 1, 1) := by decide +kernel
theorem dX9_closeLine_46 : decode cX9_closeLine 46 = .ok (.goto 17, 3) := by decide +kernel
theorem dX9_closeLine_49 : decode cX9_closeLine 49 = .ok (.aload_n 0, 1) := by decide +kernel
theorem dX9_closeLine_50 : decode cX9_closeLine 50 = .ok (.ldc 215, 2) := by decide +kernel
theorem dX9_closeLine_52 : decode cX9_closeLine 52 = .ok (.invokevirtual 207, 3) := by decide +kernel
theorem dX9_closeLine_55 : decode cX9_closeLine 55 = .ok (.ifCond .eq 7, 3) := by decide +kernel
theorem dX9_closeLine_58 : decode cX9_closeLine 58 = .ok (.iconst 2, 1) := by decide +kernel
theorem dX9_closeLine_59 : decode cX9_closeLine 59 = .ok (.goto 4, 3) := by decide +kernel
theorem dX9_closeLine_62 : decode cX9_closeLine 62 = .ok (.iconst 3, 1) := by decide +kernel
theorem dX9_closeLine_63 : decode cX9_closeLine 63 = .ok (.iastore, 1) := by decide +kernel
theorem dX9_closeLine_64 : decode cX9_closeLine 64 = .ok (.aload_n 0, 1) := by decide +kernel
theorem dX9_closeLine_65 : decode cX9_closeLine 65 = .ok (.aload_n 0, 1) := by decide +kernel
theorem dX9_closeLine_66 : decode cX9_closeLine 66 = .ok (.getfield 57, 3) := by decide +kernel
theorem dX9_closeLine_69 : decode cX9_closeLine 69 = .ok (.iload_n 1, 1) := by decide +kernel
theorem dX9_closeLine_70 : decode cX9_closeLine 70 = .ok (.iaload, 1) := by decide +kernel
theorem dX9_closeLine_71 : decode cX9_closeLine 71 = .ok (.iconst 3, 1) := by decide +kernel
theorem dX9_closeLine_72 : decode cX9_closeLine 72 = .ok (.if_icmp .ne 12, 3) := by decide +kernel
theorem dX9_closeLine_75 : decode cX9_closeLine 75 = .ok (.aload_n 0, 1) := by decide +kernel
theorem dX9_closeLine_76 : decode cX9_closeLine 76 = .ok (.ldc 228, 2) := by decide +kernel
theorem dX9_closeLine_78 : decode cX9_closeLine 78 = .ok (.invokevirtual 207, 3) := by decide +kernel
theorem dX9_closeLine_81 : decode cX9_closeLine 81 = .ok (.ifCond .eq 7, 3) := by decide +kernel
theorem dX9_closeLine_84 : decode cX9_closeLine 84 = .ok (.iconst 1, 1) := by decide +kernel
theorem dX9_closeLine_85 : decode cX9_closeLine 85 = .ok (.goto 4, 3) := by decide +kernel
theorem dX9_closeLine_88 : decode cX9_closeLine 88 = .ok (.iconst 0, 1) := by decide +kernel
theorem dX9_closeLine_89 : decode cX9_closeLine 89 = .ok (.iconst 1, 1) := by decide +kernel
theorem dX9_closeLine_90 : decode cX9_closeLine 90 = .ok (.invokevirtual 239, 3) := by decide +kernel
theorem dX9_closeLine_93 : decode cX9_closeLine 93 = .ok (.ifCond .ne 5, 3) := by decide +kernel
theorem dX9_closeLine_96 : decode cX9_closeLine 96 = .ok (.iconst 0, 1) := by decide +kernel
theorem dX9_closeLine_97 : decode cX9_closeLine 97 = .ok (.ireturn, 1) := by decide +kernel
theorem dX9_closeLine_98 : decode cX9_closeLine 98 = .ok (.aload_n 0, 1) := by decide +kernel
theorem dX9_closeLine_99 : decode cX9_closeLine 99 = .ok (.invokevirtual 236, 3) := by decide +kernel
theorem dX9_closeLine_102 : decode cX9_closeLine 102 = .ok (.aload_n 0, 1) := by decide +kernel
theorem dX9_closeLine_103 : decode cX9_closeLine 103 = .ok (.aload_n 0, 1) := by decide +kernel
theorem dX9_closeLine_104 : decode cX9_closeLine 104 = .ok (.getfield 57, 3) := by decide +kernel
theorem dX9_closeLine_107 : decode cX9_closeLine 107 = .ok (.iload_n 1, 1) := by decide +kernel
theorem dX9_closeLine_108 : decode cX9_closeLine 108 = .ok (.iaload, 1) := by decide +kernel
theorem dX9_closeLine_109 : decode cX9_closeLine 109 = .ok (.iconst 3, 1) := by decide +kernel
theorem dX9_closeLine_110 : decode cX9_closeLine 110 = .ok (.if_icmp .ne 7, 3) := by decide +kernel
theorem dX9_closeLine_113 : decode cX9_closeLine 113 = .ok (.iconst 0, 1) := by decide +kernel
theorem dX9_closeLine_114 : decode cX9_closeLine 114 = .ok (.goto 9, 3) := by decide +kernel
theorem dX9_closeLine_117 : decode cX9_closeLine 117 = .ok (.aload_n 0, 1) := by decide +kernel
theorem dX9_closeLine_118 : decode cX9_closeLine 118 = .ok (.getfield 57, 3) := by decide +kernel
theorem dX9_closeLine_121 : decode cX9_closeLine 121 = .ok (.iload_n 1, 1) := by decide +kernel
theorem dX9_closeLine_122 : decode cX9_closeLine 122 = .ok (.iaload, 1) := by decide +kernel
theorem dX9_closeLine_123 : decode cX9_closeLine 123 = .ok (.invokevirtual 286, 3) := by decide +kernel
theorem dX9_closeLine_126 : decode cX9_closeLine 126 = .ok (.ifCond .ne 5, 3) := by decide +kernel
theorem dX9_closeLine_129 : decode cX9_closeLine 129 = .ok (.iconst 0, 1) := by decide +kernel
theorem dX9_closeLine_130 : decode cX9_closeLine 130 = .ok (.ireturn, 1) := by decide +kernel
theorem dX9_closeLine_131 : decode cX9_closeLine 131 = .ok (.aload_n 0, 1) := by decide +kernel
theorem dX9_closeLine_132 : decode cX9_closeLine 132 = .ok (.getfield 60, 3) := by decide +kernel
theorem dX9_closeLine_135 : decode cX9_closeLine 135 = .ok (.iload_n 1, 1) := by decide +kernel
theorem dX9_closeLine_136 : decode cX9_closeLine 136 = .ok (.aload_n 0, 1) := by decide +kernel
theorem dX9_closeLine_137 : decode cX9_closeLine 137 = .ok (.getfield 274, 3) := by decide +kernel
theorem dX9_closeLine_140 : decode cX9_closeLine 140 = .ok (.iastore, 1) := by decide +kernel
theorem dX9_closeLine_141 : decode cX9_closeLine 141 = .ok (.aload_n 0, 1) := by decide +kernel
theorem dX9_closeLine_142 : decode cX9_closeLine 142 = .ok (.getfield 66, 3) := by decide +kernel
theorem dX9_closeLine_145 : decode cX9_closeLine 145 = .ok (.iload_n 1, 1) := by decide +kernel
theorem dX9_closeLine_146 : decode cX9_closeLine 146 = .ok (.iconst 0, 1) := by decide +kernel
theorem dX9_closeLine_147 : decode cX9_closeLine 147 = .ok (.bastore, 1) := by decide +kernel
theorem dX9_closeLine_148 : decode cX9_closeLine 148 = .ok (.aload_n 0, 1) := by decide +kernel
theorem dX9_closeLine_149 : decode cX9_closeLine 149 = .ok (.getfield 57, 3) := by decide +kernel
theorem dX9_closeLine_152 : decode cX9_closeLine 152 = .ok (.iload_n 1, 1) := by decide +kernel
theorem dX9_closeLine_153 : decode cX9_closeLine 153 = .ok (.iaload, 1) := by decide +kernel
theorem dX9_closeLine_154 : decode cX9_closeLine 154 = .ok (.iconst 3, 1) := by decide +kernel
theorem dX9_closeLine_155 : decode cX9_closeLine 155 = .ok (.if_icmp .ne 27, 3) := by decide +kernel
theorem dX9_closeLine_158 : decode cX9_closeLine 158 = .ok (.aload_n 0, 1) := by decide +kernel
theorem dX9_closeLine_159 : decode cX9_closeLine 159 = .ok (.invokevirtual 283, 3) := by decide +kernel
theorem dX9_closeLine_162 : decode cX9_closeLine 162 = .ok (.ifCond .ne 5, 3) := by decide +kernel
theorem dX9_closeLine_165 : decode cX9_closeLine 165 = .ok (.iconst 0, 1) := by decide +kernel
theorem dX9_closeLine_166 : decode cX9_closeLine 166 = .ok (.ireturn, 1) := by decide +kernel
theorem dX9_closeLine_167 : decode cX9_closeLine 167 = .ok (.aload_n 0, 1) := by decide +kernel
theorem dX9_closeLine_168 : decode cX9_closeLine 168 = .ok (.getfield 63, 3) := by decide +kernel
theorem dX9_closeLine_171 : decode cX9_closeLine 171 = .ok (.iconst 3, 1) := by decide +kernel
theorem dX9_closeLine_172 : decode cX9_closeLine 172 = .ok (.iload_n 1, 1) := by decide +kernel
theorem dX9_closeLine_173 : decode cX9_closeLine 173 = .ok (.imul, 1) := by decide +kernel
theorem dX9_closeLine_174 : decode cX9_closeLine 174 = .ok (.aload_n 0, 1) := by decide +kernel
theorem dX9_closeLine_175 : decode cX9_closeLine 175 = .ok (.getfield 253, 3) := by decide +kernel
theorem dX9_closeLine_178 : decode cX9_closeLine 178 = .ok (.iastore, 1) := by decide +kernel
theorem dX9_closeLine_179 : decode cX9_closeLine 179 = .ok (.goto 69, 3) := by decide +kernel
theorem dX9_closeLine_182 : decode cX9_closeLine 182 = .ok (.iconst 0, 1) := by decide +kernel
theorem dX9_closeLine_183 : decode cX9_closeLine 183 = .ok (.istore_n 2, 1) := by decide +kernel
theorem dX9_closeLine_184 : decode cX9_closeLine 184 = .ok (.iload_n 2, 1) := by decide +kernel
theorem dX9_closeLine_185 : decode cX9_closeLine 185 = .ok (.aload_n 0, 1) := by decide +kernel
theorem dX9_closeLine_186 : decode cX9_closeLine 186 = .ok (.getfield 57, 3) := by decide +kernel
theorem dX9_closeLine_189 : decode cX9_closeLine 189 = .ok (.iload_n 1, 1) := by decide +kernel
theorem dX9_closeLine_190 : decode cX9_closeLine 190 = .ok (.iaload, 1) := by decide +kernel
theorem dX9_closeLine_191 : decode cX9_closeLine 191 = .ok (.iconst 1, 1) := by decide +kernel
theorem dX9_closeLine_192 : decode cX9_closeLine 192 = .ok (.if_icmp .ne 7, 3) := by decide +kernel
theorem dX9_closeLine_195 : decode cX9_closeLine 195 = .ok (.iconst 3, 1) := by decide +kernel
theorem dX9_closeLine_196 : decode cX9_closeLine 196 = .ok (.goto 4, 3) := by decide +kernel
theorem dX9_closeLine_199 : decode cX9_closeLine 199 = .ok (.iconst 1, 1) := by decide +kernel
theorem dX9_closeLine_200 : decode cX9_closeLine 200 = .ok (.if_icmp .ge 36, 3) := by decide +kernel
theorem dX9_closeLine_203 : decode cX9_closeLine 203 = .ok (.aload_n 0, 1) := by decide +kernel
theorem dX9_closeLine_204 : decode cX9_closeLine 204 = .ok (.iconst 0, 1) := by decide +kernel
theorem dX9_closeLine_205 : decode cX9_closeLine 205 = .ok (.sipush 200, 3) := by decide +kernel
theorem dX9_closeLine_208 : decode cX9_closeLine 208 = .ok (.invokevirtual 249, 3) := by decide +kernel
theorem dX9_closeLine_211 : decode cX9_closeLine 211 = .ok (.ifCond .ne 5, 3) := by decide +kernel
theorem dX9_closeLine_214 : decode cX9_closeLine 214 = .ok (.iconst 0, 1) := by decide +kernel
theorem dX9_closeLine_215 : decode cX9_closeLine 215 = .ok (.ireturn, 1) := by decide +kernel
theorem dX9_closeLine_216 : decode cX9_closeLine 216 = .ok (.aload_n 0, 1) := by decide +kernel
theorem dX9_closeLine_217 : decode cX9_closeLine 217 = .ok (.getfield 63, 3) := by decide +kernel
theorem dX9_closeLine_220 : decode cX9_closeLine 220 = .ok (.iconst 3, 1) := by decide +kernel
theorem dX9_closeLine_221 : decode cX9_closeLine 221 = .ok (.iload_n 1, 1) := by decide +kernel
theorem dX9_closeLine_222 : decode cX9_closeLine 222 = .ok (.imul, 1) := by decide +kernel
theorem dX9_closeLine_223 : decode cX9_closeLine 223 = .ok (.iload_n 2, 1) := by decide +kernel
theorem dX9_closeLine_224 : decode cX9_closeLine 224 = .ok (.iadd, 1) := by decide +kernel
theorem dX9_closeLine_225 : decode cX9_closeLine 225 = .ok (.aload_n 0, 1) := by decide +kernel
theorem dX9_closeLine_226 : decode cX9_closeLine 226 = .ok (.getfield 243, 3) := by decide +kernel
theorem dX9_closeLine_229 : decode cX9_closeLine 229 = .ok (.iastore, 1) := by decide +kernel
theorem dX9_closeLine_230 : decode cX9_closeLine 230 = .ok (.iinc 2 1, 3) := by decide +kernel
theorem dX9_closeLine_233 : decode cX9_closeLine 233 = .ok (.goto (-49), 3) := by decide +kernel
theorem dX9_closeLine_236 : decode cX9_closeLine 236 = .ok (.aload_n 0, 1) := by decide +kernel
theorem dX9_closeLine_237 : decode cX9_closeLine 237 = .ok (.getfield 66, 3) := by decide +kernel
theorem dX9_closeLine_240 : decode cX9_closeLine 240 = .ok (.iload_n 1, 1) := by decide +kernel
theorem dX9_closeLine_241 : decode cX9_closeLine 241 = .ok (.aload_n 0, 1) := by decide +kernel
theorem dX9_closeLine_242 : decode cX9_closeLine 242 = .ok (.ldc 230, 2) := by decide +kernel
theorem dX9_closeLine_244 : decode cX9_closeLine 244 = .ok (.invokevirtual 280, 3) := by decide +kernel
theorem dX9_closeLine_247 : decode cX9_closeLine 247 = .ok (.bastore, 1) := by decide +kernel
theorem dX9_closeLine_248 : decode cX9_closeLine 248 = .ok (.aload_n 0, 1) := by decide +kernel
theorem dX9_closeLine_249 : decode cX9_closeLine 249 = .ok (.getfield 23, 3) := by decide +kernel
theorem dX9_closeLine_252 : decode cX9_closeLine 252 = .ok (.aload_n 0, 1) := by decide +kernel
theorem dX9_closeLine_253 : decode cX9_closeLine 253 = .ok (.getfield 256, 3) := by decide +kernel
theorem dX9_closeLine_256 : decode cX9_closeLine 256 = .ok (.dup2, 1) := by decide +kernel
theorem dX9_closeLine_257 : decode cX9_closeLine 257 = .ok (.iaload, 1) := by decide +kernel
theorem dX9_closeLine_258 : decode cX9_closeLine 258 = .ok (.iconst 1, 1) := by decide +kernel
theorem dX9_closeLine_259 : decode cX9_closeLine 259 = .ok (.iadd, 1) := by decide +kernel
theorem dX9_closeLine_260 : decode cX9_closeLine 260 = .ok (.iastore, 1) := by decide +kernel
theorem dX9_closeLine_261 : decode cX9_closeLine 261 = .ok (.iconst 1, 1) := by decide +kernel
theorem dX9_closeLine_262 : decode cX9_closeLine 262 = .ok (.ireturn, 1) := by decide +kernel
theorem qw_554 : (Cond.code yX9_newName cX9_newName 1 (some .boolean) : Cond) ∈ TBL := List.mem_of_getElem? (i := 408) (by decide +kernel)
theorem qw_555 : (Cond.methodLink RX9 277 yX9_newName : Cond) ∈ TBL := List.mem_of_getElem? (i := 405) (by decide +kernel)
theorem qw_556 : (Cond.instanceMethod yX9_newName : Cond) ∈ TBL := List.mem_of_getElem? (i := 406) (by decide +kernel)
theorem qw_557 : (Cond.selects RX9 yX9_newName yX9_newName : Cond) ∈ TBL := List.mem_of_getElem? (i := 407) (by decide +kernel)
theorem qw_558 : (Cond.fieldLink RX9 33 "ClosedUntilModel" "death" "[I" : Cond) ∈ TBL := List.mem_of_getElem? (i := 173) (by decide +kernel)
theorem qw_559 : (Cond.code yX9_takes cX9_takes 2 (some .boolean) : Cond) ∈ TBL := List.mem_of_getElem? (i := 432) (by decide +kernel)
theorem qw_560 : (Cond.methodLink RX9 280 yX9_takes : Cond) ∈ TBL := List.mem_of_getElem? (i := 429) (by decide +kernel)
theorem qw_561 : (Cond.instanceMethod yX9_takes : Cond) ∈ TBL := List.mem_of_getElem? (i := 430) (by decide +kernel)
theorem qw_562 : (Cond.selects RX9 yX9_takes yX9_takes : Cond) ∈ TBL := List.mem_of_getElem? (i := 431) (by decide +kernel)
theorem qw_563 : (Cond.code yX9_takesDate cX9_takesDate 3 (some .boolean) : Cond) ∈ TBL := List.mem_of_getElem? (i := 436) (by decide +kernel)
theorem qw_564 : (Cond.methodLink RX9 283 yX9_takesDate : Cond) ∈ TBL := List.mem_of_getElem? (i := 433) (by decide +kernel)
theorem qw_565 : (Cond.instanceMethod yX9_takesDate : Cond) ∈ TBL := List.mem_of_getElem? (i := 434) (by decide +kernel)
theorem qw_566 : (Cond.selects RX9 yX9_takesDate yX9_takesDate : Cond) ∈ TBL := List.mem_of_getElem? (i := 435) (by decide +kernel)
theorem qw_567 : (Cond.fieldLink RX9 45 "ClosedUntilModel" "parentTold" "[I" : Cond) ∈ TBL := List.mem_of_getElem? (i := 177) (by decide +kernel)
theorem qw_568 : (Cond.code yX9_takesOf cX9_takesOf 4 (some .boolean) : Cond) ∈ TBL := List.mem_of_getElem? (i := 470) (by decide +kernel)
theorem qw_569 : (Cond.methodLink RX9 289 yX9_takesOf : Cond) ∈ TBL := List.mem_of_getElem? (i := 467) (by decide +kernel)
theorem qw_570 : (Cond.instanceMethod yX9_takesOf : Cond) ∈ TBL := List.mem_of_getElem? (i := 468) (by decide +kernel)
theorem qw_571 : (Cond.selects RX9 yX9_takesOf yX9_takesOf : Cond) ∈ TBL := List.mem_of_getElem? (i := 469) (by decide +kernel)
theorem qw_572 : (Cond.code yX9_takesTold cX9_takesTold 2 (some .boolean) : Cond) ∈ TBL := List.mem_of_getElem? (i := 466) (by decide +kernel)
theorem qw_573 : (Cond.methodLink RX9 286 yX9_takesTold : Cond) ∈ TBL := List.mem_of_getElem? (i := 463) (by decide +kernel)
theorem qw_574 : (Cond.instanceMethod yX9_takesTold : Cond) ∈ TBL := List.mem_of_getElem? (i := 464) (by decide +kernel)
theorem qw_575 : (Cond.selects RX9 yX9_takesTold yX9_takesTold : Cond) ∈ TBL := List.mem_of_getElem? (i := 465) (by decide +kernel)
theorem rgP10_f291010 {D : va_G} {cl : List vw_C} {H : Heap} {c0 c1 c2 c3 c4 c5 c6 c7 c8 c9 : Nat × va_E} (h : va_P D cl ([c0, c1, c2, c3, c4, c5, c6, c7, c8, c9]) H) : va_P D cl ([c0, c1, c2, c3, c4, c5, c8, c9]) H := h.sub (ws' := [c0, c1, c2, c3, c4, c5, c8, c9]) [0, 1, 2, 3, 4, 5, 8, 9] rfl
theorem rgK9_c42332e {D : va_G} {cl : List vw_C} {U : State} {t0 t1 t2 t3 t4 t5 t6 t7 t8 : ClassId × FieldType} (h : va_K D cl [t0, t1, t2, t3, t4, t5, t6, t7, t8] U) : va_K D cl [t0, t1, t2, t3, t4, t7, t8] U := h.sub (tys' := [t0, t1, t2, t3, t4, t7, t8]) [0, 1, 2, 3, 4, 7, 8] rfl
theorem rgD10_d4799e4 {A : Nat → Prop} {c0 c1 c2 c3 c4 c5 c6 c7 c8 c9 : Nat × va_E} (h : va_D A ([c0, c1, c2, c3, c4, c5, c6, c7, c8, c9])) : va_D A ([c0, c1, c2, c3, c4, c5, c8, c9]) := h.sub (ws' := [c0, c1, c2, c3, c4, c5, c8, c9]) [0, 1, 2, 3, 4, 5, 8, 9] (by decide +kernel) rfl
theorem rgJ10_bd6b21d {A0 : Nat → Prop} {D : va_G} {cl : List vw_C} {H H1 : Heap} {c0 c1 c2 c3 c4 c5 c6 c7 c8 c9 : Nat × va_E} {d0 d1 d2 d3 d4 d5 d6 d7 : Nat × va_E} (hP : va_P D cl ([c0, c1, c2, c3, c4, c5, c6, c7, c8, c9]) H) (hD : va_D A0 ([c0, c1, c2, c3, c4, c5, c6, c7, c8, c9])) (hk : ∀ q : Nat, q < H.size → ¬ va_A ([c0, c1, c2, c3, c4, c5, c8, c9]) H.size q → H1[q]? = H[q]?) (hF : ∀ q, va_A ([c0, c1, c2, c3, c4, c5, c8, c9]) H.size q → A0 q) (hP1 : va_P D cl ([d0, d1, d2, d3, d4, d5, d6, d7]) H1) (hD1 : va_D (va_A ([c0, c1, c2, c3, c4, c5, c8, c9]) H.size) ([d0, d1, d2, d3, d4, d5, d6, d7])) : va_P D cl ([d0, d1, d2, d3, d4, d5, c6, c7, d6, d7]) H1 ∧ va_D A0 ([d0, d1, d2, d3, d4, d5, c6, c7, d6, d7]) := by
  obtain ⟨h1, h2⟩ := va_join (ws := [c0, c1, c2, c3, c4, c5, c6, c7, c8, c9]) (wc := [c0, c1, c2, c3, c4, c5, c8, c9]) (wr := [c6, c7]) (w1 := [d0, d1, d2, d3, d4, d5, d6, d7]) hP hD [0, 1, 2, 3, 4, 5, 8, 9] [6, 7] rfl rfl (by decide +kernel) (by decide +kernel) hk hF hP1 hD1
  exact ⟨va_P.sub (ws := [c6, c7, d0, d1, d2, d3, d4, d5, d6, d7]) (ws' := [d0, d1, d2, d3, d4, d5, c6, c7, d6, d7]) h1 [2, 3, 4, 5, 6, 7, 0, 1, 8, 9] rfl, va_D.sub (ws := [c6, c7, d0, d1, d2, d3, d4, d5, d6, d7]) (ws' := [d0, d1, d2, d3, d4, d5, c6, c7, d6, d7]) h2 [2, 3, 4, 5, 6, 7, 0, 1, 8, 9] (by decide +kernel) rfl⟩
theorem rgL10_2f9faf6 {c0 c1 c2 c3 c4 c5 c6 c7 c8 c9 : Nat × va_E} : (([c0, c1, c2, c3, c4, c5, c6, c7, c8, c9] : va_W))[2]? = some c2 := rfl
theorem rgS10_18433db {A : Nat → Prop} {D : va_G} {cl : List vw_C} {H : Heap} {c0 c1 c2 c3 c4 c5 c6 c7 c8 c9 : Nat × va_E} {d e : Nat × va_E} (hP : va_P D cl (([c0, c1, c2, c3, c4, c5, c6, c7, c8, c9]).set 5 d) H) (hD : va_D A (([c0, c1, c2, c3, c4, c5, c6, c7, c8, c9]).set 5 d)) (h : d = e) : va_P D cl ([c0, c1, c2, c3, c4, e, c6, c7, c8, c9]) H ∧ va_D A ([c0, c1, c2, c3, c4, e, c6, c7, c8, c9]) := by subst h; exact ⟨hP, hD⟩
theorem rgS10_4d793eb {A : Nat → Prop} {D : va_G} {cl : List vw_C} {H : Heap} {c0 c1 c2 c3 c4 c5 c6 c7 c8 c9 : Nat × va_E} {d e : Nat × va_E} (hP : va_P D cl (([c0, c1, c2, c3, c4, c5, c6, c7, c8, c9]).set 6 d) H) (hD : va_D A (([c0, c1, c2, c3, c4, c5, c6, c7, c8, c9]).set 6 d)) (h : d = e) : va_P D cl ([c0, c1, c2, c3, c4, c5, e, c7, c8, c9]) H ∧ va_D A ([c0, c1, c2, c3, c4, c5, e, c7, c8, c9]) := by subst h; exact ⟨hP, hD⟩
theorem rgS10_581ff44 {A : Nat → Prop} {D : va_G} {cl : List vw_C} {H : Heap} {c0 c1 c2 c3 c4 c5 c6 c7 c8 c9 : Nat × va_E} {d e : Nat × va_E} (hP : va_P D cl (([c0, c1, c2, c3, c4, c5, c6, c7, c8, c9]).set 7 d) H) (hD : va_D A (([c0, c1, c2, c3, c4, c5, c6, c7, c8, c9]).set 7 d)) (h : d = e) : va_P D cl ([c0, c1, c2, c3, c4, c5, c6, e, c8, c9]) H ∧ va_D A ([c0, c1, c2, c3, c4, c5, c6, e, c8, c9]) := by subst h; exact ⟨hP, hD⟩
theorem rgP10_daf6d47 {D : va_G} {cl : List vw_C} {H : Heap} {c0 c1 c2 c3 c4 c5 c6 c7 c8 c9 : Nat × va_E} (h : va_P D cl ([c0, c1, c2, c3, c4, c5, c6, c7, c8, c9]) H) : va_P D cl ([c0, c1]) H := h.sub (ws' := [c0, c1]) [0, 1] rfl
theorem rgK9_3121138 {D : va_G} {cl : List vw_C} {U : State} {t0 t1 t2 t3 t4 t5 t6 t7 t8 : ClassId × FieldType} (h : va_K D cl [t0, t1, t2, t3, t4, t5, t6, t7, t8] U) : va_K D cl [t0] U := h.sub (tys' := [t0]) [0] rfl
theorem rgD10_656c2a0 {A : Nat → Prop} {c0 c1 c2 c3 c4 c5 c6 c7 c8 c9 : Nat × va_E} (h : va_D A ([c0, c1, c2, c3, c4, c5, c6, c7, c8, c9])) : va_D A ([c0, c1]) := h.sub (ws' := [c0, c1]) [0, 1] (by decide +kernel) rfl
theorem rgJ10_b6543c6 {A0 : Nat → Prop} {D : va_G} {cl : List vw_C} {H H1 : Heap} {c0 c1 c2 c3 c4 c5 c6 c7 c8 c9 : Nat × va_E} {d0 d1 : Nat × va_E} (hP : va_P D cl ([c0, c1, c2, c3, c4, c5, c6, c7, c8, c9]) H) (hD : va_D A0 ([c0, c1, c2, c3, c4, c5, c6, c7, c8, c9])) (hk : ∀ q : Nat, q < H.size → ¬ va_A ([c0, c1]) H.size q → H1[q]? = H[q]?) (hF : ∀ q, va_A ([c0, c1]) H.size q → A0 q) (hP1 : va_P D cl ([d0, d1]) H1) (hD1 : va_D (va_A ([c0, c1]) H.size) ([d0, d1])) : va_P D cl ([d0, d1, c2, c3, c4, c5, c6, c7, c8, c9]) H1 ∧ va_D A0 ([d0, d1, c2, c3, c4, c5, c6, c7, c8, c9]) := by
  obtain ⟨h1, h2⟩ := va_join (ws := [c0, c1, c2, c3, c4, c5, c6, c7, c8, c9]) (wc := [c0, c1]) (wr := [c2, c3, c4, c5, c6, c7, c8, c9]) (w1 := [d0, d1]) hP hD [0, 1] [2, 3, 4, 5, 6, 7, 8, 9] rfl rfl (by decide +kernel) (by decide +kernel) hk hF hP1 hD1
  exact ⟨va_P.sub (ws := [c2, c3, c4, c5, c6, c7, c8, c9, d0, d1]) (ws' := [d0, d1, c2, c3, c4, c5, c6, c7, c8, c9]) h1 [8, 9, 0, 1, 2, 3, 4, 5, 6, 7] rfl, va_D.sub (ws := [c2, c3, c4, c5, c6, c7, c8, c9, d0, d1]) (ws' := [d0, d1, c2, c3, c4, c5, c6, c7, c8, c9]) h2 [8, 9, 0, 1, 2, 3, 4, 5, 6, 7] (by decide +kernel) rfl⟩
theorem rgS10_def6067 {A : Nat → Prop} {D : va_G} {cl : List vw_C} {H : Heap} {c0 c1 c2 c3 c4 c5 c6 c7 c8 c9 : Nat × va_E} {d e : Nat × va_E} (hP : va_P D cl (([c0, c1, c2, c3, c4, c5, c6, c7, c8, c9]).set 2 d) H) (hD : va_D A (([c0, c1, c2, c3, c4, c5, c6, c7, c8, c9]).set 2 d)) (h : d = e) : va_P D cl ([c0, c1, e, c3, c4, c5, c6, c7, c8, c9]) H ∧ va_D A ([c0, c1, e, c3, c4, c5, c6, c7, c8, c9]) := by subst h; exact ⟨hP, hD⟩
theorem rgP10_1d6b6a5 {D : va_G} {cl : List vw_C} {H : Heap} {c0 c1 c2 c3 c4 c5 c6 c7 c8 c9 : Nat × va_E} (h : va_P D cl ([c0, c1, c2, c3, c4, c5, c6, c7, c8, c9]) H) : va_P D cl ([c0]) H := h.sub (ws' := [c0]) [0] rfl
theorem rgD10_f967a9f {A : Nat → Prop} {c0 c1 c2 c3 c4 c5 c6 c7 c8 c9 : Nat × va_E} (h : va_D A ([c0, c1, c2, c3, c4, c5, c6, c7, c8, c9])) : va_D A ([c0]) := h.sub (ws' := [c0]) [0] (by decide +kernel) rfl
theorem rgJ10_3d4de24 {A0 : Nat → Prop} {D : va_G} {cl : List vw_C} {H H1 : Heap} {c0 c1 c2 c3 c4 c5 c6 c7 c8 c9 : Nat × va_E} {d0 : Nat × va_E} (hP : va_P D cl ([c0, c1, c2, c3, c4, c5, c6, c7, c8, c9]) H) (hD : va_D A0 ([c0, c1, c2, c3, c4, c5, c6, c7, c8, c9])) (hk : ∀ q : Nat, q < H.size → ¬ va_A ([c0]) H.size q → H1[q]? = H[q]?) (hF : ∀ q, va_A ([c0]) H.size q → A0 q) (hP1 : va_P D cl ([d0]) H1) (hD1 : va_D (va_A ([c0]) H.size) ([d0])) : va_P D cl ([d0, c1, c2, c3, c4, c5, c6, c7, c8, c9]) H1 ∧ va_D A0 ([d0, c1, c2, c3, c4, c5, c6, c7, c8, c9]) := by
  obtain ⟨h1, h2⟩ := va_join (ws := [c0, c1, c2, c3, c4, c5, c6, c7, c8, c9]) (wc := [c0]) (wr := [c1, c2, c3, c4, c5, c6, c7, c8, c9]) (w1 := [d0]) hP hD [0] [1, 2, 3, 4, 5, 6, 7, 8, 9] rfl rfl (by decide +kernel) (by decide +kernel) hk hF hP1 hD1
  exact ⟨va_P.sub (ws := [c1, c2, c3, c4, c5, c6, c7, c8, c9, d0]) (ws' := [d0, c1, c2, c3, c4, c5, c6, c7, c8, c9]) h1 [9, 0, 1, 2, 3, 4, 5, 6, 7, 8] rfl, va_D.sub (ws := [c1, c2, c3, c4, c5, c6, c7, c8, c9, d0]) (ws' := [d0, c1, c2, c3, c4, c5, c6, c7, c8, c9]) h2 [9, 0, 1, 2, 3, 4, 5, 6, 7, 8] (by decide +kernel) rfl⟩
theorem rgP9_740a929 {D : va_G} {cl : List vw_C} {H : Heap} {c0 c1 c2 c3 c4 c5 c6 c7 c8 : Nat × va_E} (h : va_P D cl ([c0, c1, c2, c3, c4, c5, c6, c7, c8]) H) : va_P D cl ([c0, c1]) H := h.sub (ws' := [c0, c1]) [0, 1] rfl
theorem rgK8_7e1e270 {D : va_G} {cl : List vw_C} {U : State} {t0 t1 t2 t3 t4 t5 t6 t7 : ClassId × FieldType} (h : va_K D cl [t0, t1, t2, t3, t4, t5, t6, t7] U) : va_K D cl [t0] U := h.sub (tys' := [t0]) [0] rfl
theorem rgD9_889b516 {A : Nat → Prop} {c0 c1 c2 c3 c4 c5 c6 c7 c8 : Nat × va_E} (h : va_D A ([c0, c1, c2, c3, c4, c5, c6, c7, c8])) : va_D A ([c0, c1]) := h.sub (ws' := [c0, c1]) [0, 1] (by decide +kernel) rfl
theorem rgJ9_2454167 {A0 : Nat → Prop} {D : va_G} {cl : List vw_C} {H H1 : Heap} {c0 c1 c2 c3 c4 c5 c6 c7 c8 : Nat × va_E} {d0 d1 : Nat × va_E} (hP : va_P D cl ([c0, c1, c2, c3, c4, c5, c6, c7, c8]) H) (hD : va_D A0 ([c0, c1, c2, c3, c4, c5, c6, c7, c8])) (hk : ∀ q : Nat, q < H.size → ¬ va_A ([c0, c1]) H.size q → H1[q]? = H[q]?) (hF : ∀ q, va_A ([c0, c1]) H.size q → A0 q) (hP1 : va_P D cl ([d0, d1]) H1) (hD1 : va_D (va_A ([c0, c1]) H.size) ([d0, d1])) : va_P D cl ([d0, d1, c2, c3, c4, c5, c6, c7, c8]) H1 ∧ va_D A0 ([d0, d1, c2, c3, c4, c5, c6, c7, c8]) := by
  obtain ⟨h1, h2⟩ := va_join (ws := [c0, c1, c2, c3, c4, c5, c6, c7, c8]) (wc := [c0, c1]) (wr := [c2, c3, c4, c5, c6, c7, c8]) (w1 := [d0, d1]) hP hD [0, 1] [2, 3, 4, 5, 6, 7, 8] rfl rfl (by decide +kernel) (by decide +kernel) hk hF hP1 hD1
  exact ⟨va_P.sub (ws := [c2, c3, c4, c5, c6, c7, c8, d0, d1]) (ws' := [d0, d1, c2, c3, c4, c5, c6, c7, c8]) h1 [7, 8, 0, 1, 2, 3, 4, 5, 6] rfl, va_D.sub (ws := [c2, c3, c4, c5, c6, c7, c8, d0, d1]) (ws' := [d0, d1, c2, c3, c4, c5, c6, c7, c8]) h2 [7, 8, 0, 1, 2, 3, 4, 5, 6] (by decide +kernel) rfl⟩
theorem rgL9_8c66716 {c0 c1 c2 c3 c4 c5 c6 c7 c8 : Nat × va_E} : (([c0, c1, c2, c3, c4, c5, c6, c7, c8] : va_W))[3]? = some c3 := rfl
theorem rgT8_ae72cb6 {t0 t1 t2 t3 t4 t5 t6 t7 : ClassId × FieldType} : (([t0, t1, t2, t3, t4, t5, t6, t7] : List (ClassId × FieldType)))[2]? = some t2 := rfl
theorem rgT8_c2e2e2e {t0 t1 t2 t3 t4 t5 t6 t7 : ClassId × FieldType} : (([t0, t1, t2, t3, t4, t5, t6, t7] : List (ClassId × FieldType)))[5]? = some t5 := rfl
theorem rgS9_57f80ba {A : Nat → Prop} {D : va_G} {cl : List vw_C} {H : Heap} {c0 c1 c2 c3 c4 c5 c6 c7 c8 : Nat × va_E} {d e : Nat × va_E} (hP : va_P D cl (([c0, c1, c2, c3, c4, c5, c6, c7, c8]).set 6 d) H) (hD : va_D A (([c0, c1, c2, c3, c4, c5, c6, c7, c8]).set 6 d)) (h : d = e) : va_P D cl ([c0, c1, c2, c3, c4, c5, e, c7, c8]) H ∧ va_D A ([c0, c1, c2, c3, c4, c5, e, c7, c8]) := by subst h; exact ⟨hP, hD⟩
theorem rgS9_dfe55cc {A : Nat → Prop} {D : va_G} {cl : List vw_C} {H : Heap} {c0 c1 c2 c3 c4 c5 c6 c7 c8 : Nat × va_E} {d e : Nat × va_E} (hP : va_P D cl (([c0, c1, c2, c3, c4, c5, c6, c7, c8]).set 3 d) H) (hD : va_D A (([c0, c1, c2, c3, c4, c5, c6, c7, c8]).set 3 d)) (h : d = e) : va_P D cl ([c0, c1, c2, e, c4, c5, c6, c7, c8]) H ∧ va_D A ([c0, c1, c2, e, c4, c5, c6, c7, c8]) := by subst h; exact ⟨hP, hD⟩
theorem rgP12_335202d {D : va_G} {cl : List vw_C} {H : Heap} {c0 c1 c2 c3 c4 c5 c6 c7 c8 c9 c10 c11 : Nat × va_E} (h : va_P D cl ([c0, c1, c2, c3, c4, c5, c6, c7, c8, c9, c10, c11]) H) : va_P D cl ([c0, c1, c2, c3, c4, c5, c6, c7]) H := h.sub (ws' := [c0, c1, c2, c3, c4, c5, c6, c7]) [0, 1, 2, 3, 4, 5, 6, 7] rfl
theorem rgK11_7d74d5c {D : va_G} {cl : List vw_C} {U : State} {t0 t1 t2 t3 t4 t5 t6 t7 t8 t9 t10 : ClassId × FieldType} (h : va_K D cl [t0, t1, t2, t3, t4, t5, t6, t7, t8, t9, t10] U) : va_K D cl [t0, t1, t2, t3, t4, t5, t6] U := h.sub (tys' := [t0, t1, t2, t3, t4, t5, t6]) [0, 1, 2, 3, 4, 5, 6] rfl
theorem rgD12_2bba977 {A : Nat → Prop} {c0 c1 c2 c3 c4 c5 c6 c7 c8 c9 c10 c11 : Nat × va_E} (h : va_D A ([c0, c1, c2, c3, c4, c5, c6, c7, c8, c9, c10, c11])) : va_D A ([c0, c1, c2, c3, c4, c5, c6, c7]) := h.sub (ws' := [c0, c1, c2, c3, c4, c5, c6, c7]) [0, 1, 2, 3, 4, 5, 6, 7] (by decide +kernel) rfl
theorem rgL12_062fd34 {c0 c1 c2 c3 c4 c5 c6 c7 c8 c9 c10 c11 : Nat × va_E} : (([c0, c1, c2, c3, c4, c5, c6, c7, c8, c9, c10, c11] : va_W))[0]? = some c0 := rfl
theorem rgJ12_2385b4d {A0 : Nat → Prop} {D : va_G} {cl : List vw_C} {H H1 : Heap} {c0 c1 c2 c3 c4 c5 c6 c7 c8 c9 c10 c11 : Nat × va_E} {d0 d1 d2 d3 d4 d5 d6 d7 : Nat × va_E} (hP : va_P D cl ([c0, c1, c2, c3, c4, c5, c6, c7, c8, c9, c10, c11]) H) (hD : va_D A0 ([c0, c1, c2, c3, c4, c5, c6, c7, c8, c9, c10, c11])) (hk : ∀ q : Nat, q < H.size → ¬ va_A ([c0, c1, c2, c3, c4, c5, c6, c7]) H.size q → H1[q]? = H[q]?) (hF : ∀ q, va_A ([c0, c1, c2, c3, c4, c5, c6, c7]) H.size q → A0 q) (hP1 : va_P D cl ([d0, d1, d2, d3, d4, d5, d6, d7]) H1) (hD1 : va_D (va_A ([c0, c1, c2, c3, c4, c5, c6, c7]) H.size) ([d0, d1, d2, d3, d4, d5, d6, d7])) : va_P D cl ([d0, d1, d2, d3, d4, d5, d6, d7, c8, c9, c10, c11]) H1 ∧ va_D A0 ([d0, d1, d2, d3, d4, d5, d6, d7, c8, c9, c10, c11]) := by
  obtain ⟨h1, h2⟩ := va_join (ws := [c0, c1, c2, c3, c4, c5, c6, c7, c8, c9, c10, c11]) (wc := [c0, c1, c2, c3, c4, c5, c6, c7]) (wr := [c8, c9, c10, c11]) (w1 := [d0, d1, d2, d3, d4, d5, d6, d7]) hP hD [0, 1, 2, 3, 4, 5, 6, 7] [8, 9, 10, 11] rfl rfl (by decide +kernel) (by decide +kernel) hk hF hP1 hD1
  exact ⟨va_P.sub (ws := [c8, c9, c10, c11, d0, d1, d2, d3, d4, d5, d6, d7]) (ws' := [d0, d1, d2, d3, d4, d5, d6, d7, c8, c9, c10, c11]) h1 [4, 5, 6, 7, 8, 9, 10, 11, 0, 1, 2, 3] rfl, va_D.sub (ws := [c8, c9, c10, c11, d0, d1, d2, d3, d4, d5, d6, d7]) (ws' := [d0, d1, d2, d3, d4, d5, d6, d7, c8, c9, c10, c11]) h2 [4, 5, 6, 7, 8, 9, 10, 11, 0, 1, 2, 3] (by decide +kernel) rfl⟩
theorem rgL12_12520d7 {c0 c1 c2 c3 c4 c5 c6 c7 c8 c9 c10 c11 : Nat × va_E} : (([c0, c1, c2, c3, c4, c5, c6, c7, c8, c9, c10, c11] : va_W))[4]? = some c4 := rfl
theorem rgT11_4f72b73 {t0 t1 t2 t3 t4 t5 t6 t7 t8 t9 t10 : ClassId × FieldType} : (([t0, t1, t2, t3, t4, t5, t6, t7, t8, t9, t10] : List (ClassId × FieldType)))[3]? = some t3 := rfl
theorem rgL12_a923e29 {c0 c1 c2 c3 c4 c5 c6 c7 c8 c9 c10 c11 : Nat × va_E} : (([c0, c1, c2, c3, c4, c5, c6, c7, c8, c9, c10, c11] : va_W))[8]? = some c8 := rfl
theorem rgS12_8f96eaa {A : Nat → Prop} {D : va_G} {cl : List vw_C} {H : Heap} {c0 c1 c2 c3 c4 c5 c6 c7 c8 c9 c10 c11 : Nat × va_E} {d e : Nat × va_E} (hP : va_P D cl (([c0, c1, c2, c3, c4, c5, c6, c7, c8, c9, c10, c11]).set 8 d) H) (hD : va_D A (([c0, c1, c2, c3, c4, c5, c6, c7, c8, c9, c10, c11]).set 8 d)) (h : d = e) : va_P D cl ([c0, c1, c2, c3, c4, c5, c6, c7, e, c9, c10, c11]) H ∧ va_D A ([c0, c1, c2, c3, c4, c5, c6, c7, e, c9, c10, c11]) := by subst h; exact ⟨hP, hD⟩
theorem rgL12_b9b776c {c0 c1 c2 c3 c4 c5 c6 c7 c8 c9 c10 c11 : Nat × va_E} : (([c0, c1, c2, c3, c4, c5, c6, c7, c8, c9, c10, c11] : va_W))[10]? = some c10 := rfl
theorem rgS12_5913c08 {A : Nat → Prop} {D : va_G} {cl : List vw_C} {H : Heap} {c0 c1 c2 c3 c4 c5 c6 c7 c8 c9 c10 c11 : Nat × va_E} {d e : Nat × va_E} (hP : va_P D cl (([c0, c1, c2, c3, c4, c5, c6, c7, c8, c9, c10, c11]).set 10 d) H) (hD : va_D A (([c0, c1, c2, c3, c4, c5, c6, c7, c8, c9, c10, c11]).set 10 d)) (h : d = e) : va_P D cl ([c0, c1, c2, c3, c4, c5, c6, c7, c8, c9, e, c11]) H ∧ va_D A ([c0, c1, c2, c3, c4, c5, c6, c7, c8, c9, e, c11]) := by subst h; exact ⟨hP, hD⟩
theorem rgL12_827ade5 {c0 c1 c2 c3 c4 c5 c6 c7 c8 c9 c10 c11 : Nat × va_E} : (([c0, c1, c2, c3, c4, c5, c6, c7, c8, c9, c10, c11] : va_W))[11]? = some c11 := rfl
theorem rgT11_0e4f932 {t0 t1 t2 t3 t4 t5 t6 t7 t8 t9 t10 : ClassId × FieldType} : (([t0, t1, t2, t3, t4, t5, t6, t7, t8, t9, t10] : List (ClassId × FieldType)))[10]? = some t10 := rfl
theorem rgS12_18878dc {A : Nat → Prop} {D : va_G} {cl : List vw_C} {H : Heap} {c0 c1 c2 c3 c4 c5 c6 c7 c8 c9 c10 c11 : Nat × va_E} {d e : Nat × va_E} (hP : va_P D cl (([c0, c1, c2, c3, c4, c5, c6, c7, c8, c9, c10, c11]).set 11 d) H) (hD : va_D A (([c0, c1, c2, c3, c4, c5, c6, c7, c8, c9, c10, c11]).set 11 d)) (h : d = e) : va_P D cl ([c0, c1, c2, c3, c4, c5, c6, c7, c8, c9, c10, e]) H ∧ va_D A ([c0, c1, c2, c3, c4, c5, c6, c7, c8, c9, c10, e]) := by subst h; exact ⟨hP, hD⟩
theorem rgP12_bf1ec98 {D : va_G} {cl : List vw_C} {H : Heap} {c0 c1 c2 c3 c4 c5 c6 c7 c8 c9 c10 c11 : Nat × va_E} (h : va_P D cl ([c0, c1, c2, c3, c4, c5, c6, c7, c8, c9, c10, c11]) H) : va_P D cl ([c0, c1]) H := h.sub (ws' := [c0, c1]) [0, 1] rfl
theorem rgK11_5a6413e {D : va_G} {cl : List vw_C} {U : State} {t0 t1 t2 t3 t4 t5 t6 t7 t8 t9 t10 : ClassId × FieldType} (h : va_K D cl [t0, t1, t2, t3, t4, t5, t6, t7, t8, t9, t10] U) : va_K D cl [t0] U := h.sub (tys' := [t0]) [0] rfl
theorem rgD12_4f57cf8 {A : Nat → Prop} {c0 c1 c2 c3 c4 c5 c6 c7 c8 c9 c10 c11 : Nat × va_E} (h : va_D A ([c0, c1, c2, c3, c4, c5, c6, c7, c8, c9, c10, c11])) : va_D A ([c0, c1]) := h.sub (ws' := [c0, c1]) [0, 1] (by decide +kernel) rfl
theorem rgJ12_4e82a22 {A0 : Nat → Prop} {D : va_G} {cl : List vw_C} {H H1 : Heap} {c0 c1 c2 c3 c4 c5 c6 c7 c8 c9 c10 c11 : Nat × va_E} {d0 d1 : Nat × va_E} (hP : va_P D cl ([c0, c1, c2, c3, c4, c5, c6, c7, c8, c9, c10, c11]) H) (hD : va_D A0 ([c0, c1, c2, c3, c4, c5, c6, c7, c8, c9, c10, c11])) (hk : ∀ q : Nat, q < H.size → ¬ va_A ([c0, c1]) H.size q → H1[q]? = H[q]?) (hF : ∀ q, va_A ([c0, c1]) H.size q → A0 q) (hP1 : va_P D cl ([d0, d1]) H1) (hD1 : va_D (va_A ([c0, c1]) H.size) ([d0, d1])) : va_P D cl ([d0, d1, c2, c3, c4, c5, c6, c7, c8, c9, c10, c11]) H1 ∧ va_D A0 ([d0, d1, c2, c3, c4, c5, c6, c7, c8, c9, c10, c11]) := by
  obtain ⟨h1, h2⟩ := va_join (ws := [c0, c1, c2, c3, c4, c5, c6, c7, c8, c9, c10, c11]) (wc := [c0, c1]) (wr := [c2, c3, c4, c5, c6, c7, c8, c9, c10, c11]) (w1 := [d0, d1]) hP hD [0, 1] [2, 3, 4, 5, 6, 7, 8, 9, 10, 11] rfl rfl (by decide +kernel) (by decide +kernel) hk hF hP1 hD1
  exact ⟨va_P.sub (ws := [c2, c3, c4, c5, c6, c7, c8, c9, c10, c11, d0, d1]) (ws' := [d0, d1, c2, c3, c4, c5, c6, c7, c8, c9, c10, c11]) h1 [10, 11, 0, 1, 2, 3, 4, 5, 6, 7, 8, 9] rfl, va_D.sub (ws := [c2, c3, c4, c5, c6, c7, c8, c9, c10, c11, d0, d1]) (ws' := [d0, d1, c2, c3, c4, c5, c6, c7, c8, c9, c10, c11]) h2 [10, 11, 0, 1, 2, 3, 4, 5, 6, 7, 8, 9] (by decide +kernel) rfl⟩
theorem rgL12_93f4a03 {c0 c1 c2 c3 c4 c5 c6 c7 c8 c9 c10 c11 : Nat × va_E} : (([c0, c1, c2, c3, c4, c5, c6, c7, c8, c9, c10, c11] : va_W))[9]? = some c9 := rfl
theorem rgS12_a37ab15 {A : Nat → Prop} {D : va_G} {cl : List vw_C} {H : Heap} {c0 c1 c2 c3 c4 c5 c6 c7 c8 c9 c10 c11 : Nat × va_E} {d e : Nat × va_E} (hP : va_P D cl (([c0, c1, c2, c3, c4, c5, c6, c7, c8, c9, c10, c11]).set 9 d) H) (hD : va_D A (([c0, c1, c2, c3, c4, c5, c6, c7, c8, c9, c10, c11]).set 9 d)) (h : d = e) : va_P D cl ([c0, c1, c2, c3, c4, c5, c6, c7, c8, e, c10, c11]) H ∧ va_D A ([c0, c1, c2, c3, c4, c5, c6, c7, c8, e, c10, c11]) := by subst h; exact ⟨hP, hD⟩
theorem rgP12_8e0773e {D : va_G} {cl : List vw_C} {H : Heap} {c0 c1 c2 c3 c4 c5 c6 c7 c8 c9 c10 c11 : Nat × va_E} (h : va_P D cl ([c0, c1, c2, c3, c4, c5, c6, c7, c8, c9, c10, c11]) H) : va_P D cl ([c0, c1, c2, c5, c10]) H := h.sub (ws' := [c0, c1, c2, c5, c10]) [0, 1, 2, 5, 10] rfl
theorem rgK11_38a35ce {D : va_G} {cl : List vw_C} {U : State} {t0 t1 t2 t3 t4 t5 t6 t7 t8 t9 t10 : ClassId × FieldType} (h : va_K D cl [t0, t1, t2, t3, t4, t5, t6, t7, t8, t9, t10] U) : va_K D cl [t0, t1, t4, t9] U := h.sub (tys' := [t0, t1, t4, t9]) [0, 1, 4, 9] rfl
theorem rgD12_da36770 {A : Nat → Prop} {c0 c1 c2 c3 c4 c5 c6 c7 c8 c9 c10 c11 : Nat × va_E} (h : va_D A ([c0, c1, c2, c3, c4, c5, c6, c7, c8, c9, c10, c11])) : va_D A ([c0, c1, c2, c5, c10]) := h.sub (ws' := [c0, c1, c2, c5, c10]) [0, 1, 2, 5, 10] (by decide +kernel) rfl
theorem rgJ12_c19c94a {A0 : Nat → Prop} {D : va_G} {cl : List vw_C} {H H1 : Heap} {c0 c1 c2 c3 c4 c5 c6 c7 c8 c9 c10 c11 : Nat × va_E} {d0 d1 d2 d3 d4 : Nat × va_E} (hP : va_P D cl ([c0, c1, c2, c3, c4, c5, c6, c7, c8, c9, c10, c11]) H) (hD : va_D A0 ([c0, c1, c2, c3, c4, c5, c6, c7, c8, c9, c10, c11])) (hk : ∀ q : Nat, q < H.size → ¬ va_A ([c0, c1, c2, c5, c10]) H.size q → H1[q]? = H[q]?) (hF : ∀ q, va_A ([c0, c1, c2, c5, c10]) H.size q → A0 q) (hP1 : va_P D cl ([d0, d1, d2, d3, d4]) H1) (hD1 : va_D (va_A ([c0, c1, c2, c5, c10]) H.size) ([d0, d1, d2, d3, d4])) : va_P D cl ([d0, d1, d2, c3, c4, d3, c6, c7, c8, c9, d4, c11]) H1 ∧ va_D A0 ([d0, d1, d2, c3, c4, d3, c6, c7, c8, c9, d4, c11]) := by
  obtain ⟨h1, h2⟩ := va_join (ws := [c0, c1, c2, c3, c4, c5, c6, c7, c8, c9, c10, c11]) (wc := [c0, c1, c2, c5, c10]) (wr := [c3, c4, c6, c7, c8, c9, c11]) (w1 := [d0, d1, d2, d3, d4]) hP hD [0, 1, 2, 5, 10] [3, 4, 6, 7, 8, 9, 11] rfl rfl (by decide +kernel) (by decide +kernel) hk hF hP1 hD1
  exact ⟨va_P.sub (ws := [c3, c4, c6, c7, c8, c9, c11, d0, d1, d2, d3, d4]) (ws' := [d0, d1, d2, c3, c4, d3, c6, c7, c8, c9, d4, c11]) h1 [7, 8, 9, 0, 1, 10, 2, 3, 4, 5, 11, 6] rfl, va_D.sub (ws := [c3, c4, c6, c7, c8, c9, c11, d0, d1, d2, d3, d4]) (ws' := [d0, d1, d2, c3, c4, d3, c6, c7, c8, c9, d4, c11]) h2 [7, 8, 9, 0, 1, 10, 2, 3, 4, 5, 11, 6] (by decide +kernel) rfl⟩
theorem rgL12_c7fa67d {c0 c1 c2 c3 c4 c5 c6 c7 c8 c9 c10 c11 : Nat × va_E} : (([c0, c1, c2, c3, c4, c5, c6, c7, c8, c9, c10, c11] : va_W))[7]? = some c7 := rfl
theorem rgS12_5a82636 {A : Nat → Prop} {D : va_G} {cl : List vw_C} {H : Heap} {c0 c1 c2 c3 c4 c5 c6 c7 c8 c9 c10 c11 : Nat × va_E} {d e : Nat × va_E} (hP : va_P D cl (([c0, c1, c2, c3, c4, c5, c6, c7, c8, c9, c10, c11]).set 7 d) H) (hD : va_D A (([c0, c1, c2, c3, c4, c5, c6, c7, c8, c9, c10, c11]).set 7 d)) (h : d = e) : va_P D cl ([c0, c1, c2, c3, c4, c5, c6, e, c8, c9, c10, c11]) H ∧ va_D A ([c0, c1, c2, c3, c4, c5, c6, e, c8, c9, c10, c11]) := by subst h; exact ⟨hP, hD⟩
theorem rgS12_b6cd9a0 {A : Nat → Prop} {D : va_G} {cl : List vw_C} {H : Heap} {c0 c1 c2 c3 c4 c5 c6 c7 c8 c9 c10 c11 : Nat × va_E} {d e : Nat × va_E} (hP : va_P D cl (([c0, c1, c2, c3, c4, c5, c6, c7, c8, c9, c10, c11]).set 4 d) H) (hD : va_D A (([c0, c1, c2, c3, c4, c5, c6, c7, c8, c9, c10, c11]).set 4 d)) (h : d = e) : va_P D cl ([c0, c1, c2, c3, e, c5, c6, c7, c8, c9, c10, c11]) H ∧ va_D A ([c0, c1, c2, c3, e, c5, c6, c7, c8, c9, c10, c11]) := by subst h; exact ⟨hP, hD⟩
theorem rgL13_e4c0870 {c0 c1 c2 c3 c4 c5 c6 c7 c8 c9 c10 c11 c12 : Nat × va_E} : (([c0, c1, c2, c3, c4, c5, c6, c7, c8, c9, c10, c11, c12] : va_W))[5]? = some c5 := rfl
theorem rgT12_c3ae75f {t0 t1 t2 t3 t4 t5 t6 t7 t8 t9 t10 t11 : ClassId × FieldType} : (([t0, t1, t2, t3, t4, t5, t6, t7, t8, t9, t10, t11] : List (ClassId × FieldType)))[4]? = some t4 := rfl
theorem rgT12_51c22ba {t0 t1 t2 t3 t4 t5 t6 t7 t8 t9 t10 t11 : ClassId × FieldType} : (([t0, t1, t2, t3, t4, t5, t6, t7, t8, t9, t10, t11] : List (ClassId × FieldType)))[8]? = some t8 := rfl
theorem rgP13_e9f0d34 {D : va_G} {cl : List vw_C} {H : Heap} {c0 c1 c2 c3 c4 c5 c6 c7 c8 c9 c10 c11 c12 : Nat × va_E} (h : va_P D cl ([c0, c1, c2, c3, c4, c5, c6, c7, c8, c9, c10, c11, c12]) H) : va_P D cl ([c0, c1]) H := h.sub (ws' := [c0, c1]) [0, 1] rfl
theorem rgK12_2fc2b8d {D : va_G} {cl : List vw_C} {U : State} {t0 t1 t2 t3 t4 t5 t6 t7 t8 t9 t10 t11 : ClassId × FieldType} (h : va_K D cl [t0, t1, t2, t3, t4, t5, t6, t7, t8, t9, t10, t11] U) : va_K D cl [t0] U := h.sub (tys' := [t0]) [0] rfl
theorem rgD13_097655f {A : Nat → Prop} {c0 c1 c2 c3 c4 c5 c6 c7 c8 c9 c10 c11 c12 : Nat × va_E} (h : va_D A ([c0, c1, c2, c3, c4, c5, c6, c7, c8, c9, c10, c11, c12])) : va_D A ([c0, c1]) := h.sub (ws' := [c0, c1]) [0, 1] (by decide +kernel) rfl
theorem rgJ13_d718ff5 {A0 : Nat → Prop} {D : va_G} {cl : List vw_C} {H H1 : Heap} {c0 c1 c2 c3 c4 c5 c6 c7 c8 c9 c10 c11 c12 : Nat × va_E} {d0 d1 : Nat × va_E} (hP : va_P D cl ([c0, c1, c2, c3, c4, c5, c6, c7, c8, c9, c10, c11, c12]) H) (hD : va_D A0 ([c0, c1, c2, c3, c4, c5, c6, c7, c8, c9, c10, c11, c12])) (hk : ∀ q : Nat, q < H.size → ¬ va_A ([c0, c1]) H.size q → H1[q]? = H[q]?) (hF : ∀ q, va_A ([c0, c1]) H.size q → A0 q) (hP1 : va_P D cl ([d0, d1]) H1) (hD1 : va_D (va_A ([c0, c1]) H.size) ([d0, d1])) : va_P D cl ([d0, d1, c2, c3, c4, c5, c6, c7, c8, c9, c10, c11, c12]) H1 ∧ va_D A0 ([d0, d1, c2, c3, c4, c5, c6, c7, c8, c9, c10, c11, c12]) := by
  obtain ⟨h1, h2⟩ := va_join (ws := [c0, c1, c2, c3, c4, c5, c6, c7, c8, c9, c10, c11, c12]) (wc := [c0, c1]) (wr := [c2, c3, c4, c5, c6, c7, c8, c9, c10, c11, c12]) (w1 := [d0, d1]) hP hD [0, 1] [2, 3, 4, 5, 6, 7, 8, 9, 10, 11, 12] rfl rfl (by decide +kernel) (by decide +kernel) hk hF hP1 hD1
  exact ⟨va_P.sub (ws := [c2, c3, c4, c5, c6, c7, c8, c9, c10, c11, c12, d0, d1]) (ws' := [d0, d1, c2, c3, c4, c5, c6, c7, c8, c9, c10, c11, c12]) h1 [11, 12, 0, 1, 2, 3, 4, 5, 6, 7, 8, 9, 10] rfl, va_D.sub (ws := [c2, c3, c4, c5, c6, c7, c8, c9, c10, c11, c12, d0, d1]) (ws' := [d0, d1, c2, c3, c4, c5, c6, c7, c8, c9, c10, c11, c12]) h2 [11, 12, 0, 1, 2, 3, 4, 5, 6, 7, 8, 9, 10] (by decide +kernel) rfl⟩
theorem rgP13_1660a73 {D : va_G} {cl : List vw_C} {H : Heap} {c0 c1 c2 c3 c4 c5 c6 c7 c8 c9 c10 c11 c12 : Nat × va_E} (h : va_P D cl ([c0, c1, c2, c3, c4, c5, c6, c7, c8, c9, c10, c11, c12]) H) : va_P D cl ([c0, c1, c2, c3, c4, c6, c7, c8]) H := h.sub (ws' := [c0, c1, c2, c3, c4, c6, c7, c8]) [0, 1, 2, 3, 4, 6, 7, 8] rfl
theorem rgK12_63d2448 {D : va_G} {cl : List vw_C} {U : State} {t0 t1 t2 t3 t4 t5 t6 t7 t8 t9 t10 t11 : ClassId × FieldType} (h : va_K D cl [t0, t1, t2, t3, t4, t5, t6, t7, t8, t9, t10, t11] U) : va_K D cl [t0, t1, t2, t3, t5, t6, t7] U := h.sub (tys' := [t0, t1, t2, t3, t5, t6, t7]) [0, 1, 2, 3, 5, 6, 7] rfl
theorem rgD13_3fa11c2 {A : Nat → Prop} {c0 c1 c2 c3 c4 c5 c6 c7 c8 c9 c10 c11 c12 : Nat × va_E} (h : va_D A ([c0, c1, c2, c3, c4, c5, c6, c7, c8, c9, c10, c11, c12])) : va_D A ([c0, c1, c2, c3, c4, c6, c7, c8]) := h.sub (ws' := [c0, c1, c2, c3, c4, c6, c7, c8]) [0, 1, 2, 3, 4, 6, 7, 8] (by decide +kernel) rfl
theorem rgJ13_b84a6dc {A0 : Nat → Prop} {D : va_G} {cl : List vw_C} {H H1 : Heap} {c0 c1 c2 c3 c4 c5 c6 c7 c8 c9 c10 c11 c12 : Nat × va_E} {d0 d1 d2 d3 d4 d5 d6 d7 : Nat × va_E} (hP : va_P D cl ([c0, c1, c2, c3, c4, c5, c6, c7, c8, c9, c10, c11, c12]) H) (hD : va_D A0 ([c0, c1, c2, c3, c4, c5, c6, c7, c8, c9, c10, c11, c12])) (hk : ∀ q : Nat, q < H.size → ¬ va_A ([c0, c1, c2, c3, c4, c6, c7, c8]) H.size q → H1[q]? = H[q]?) (hF : ∀ q, va_A ([c0, c1, c2, c3, c4, c6, c7, c8]) H.size q → A0 q) (hP1 : va_P D cl ([d0, d1, d2, d3, d4, d5, d6, d7]) H1) (hD1 : va_D (va_A ([c0, c1, c2, c3, c4, c6, c7, c8]) H.size) ([d0, d1, d2, d3, d4, d5, d6, d7])) : va_P D cl ([d0, d1, d2, d3, d4, c5, d5, d6, d7, c9, c10, c11, c12]) H1 ∧ va_D A0 ([d0, d1, d2, d3, d4, c5, d5, d6, d7, c9, c10, c11, c12]) := by
  obtain ⟨h1, h2⟩ := va_join (ws := [c0, c1, c2, c3, c4, c5, c6, c7, c8, c9, c10, c11, c12]) (wc := [c0, c1, c2, c3, c4, c6, c7, c8]) (wr := [c5, c9, c10, c11, c12]) (w1 := [d0, d1, d2, d3, d4, d5, d6, d7]) hP hD [0, 1, 2, 3, 4, 6, 7, 8] [5, 9, 10, 11, 12] rfl rfl (by decide +kernel) (by decide +kernel) hk hF hP1 hD1
  exact ⟨va_P.sub (ws := [c5, c9, c10, c11, c12, d0, d1, d2, d3, d4, d5, d6, d7]) (ws' := [d0, d1, d2, d3, d4, c5, d5, d6, d7, c9, c10, c11, c12]) h1 [5, 6, 7, 8, 9, 0, 10, 11, 12, 1, 2, 3, 4] rfl, va_D.sub (ws := [c5, c9, c10, c11, c12, d0, d1, d2, d3, d4, d5, d6, d7]) (ws' := [d0, d1, d2, d3, d4, c5, d5, d6, d7, c9, c10, c11, c12]) h2 [5, 6, 7, 8, 9, 0, 10, 11, 12, 1, 2, 3, 4] (by decide +kernel) rfl⟩
theorem rgT12_e433926 {t0 t1 t2 t3 t4 t5 t6 t7 t8 t9 t10 t11 : ClassId × FieldType} : (([t0, t1, t2, t3, t4, t5, t6, t7, t8, t9, t10, t11] : List (ClassId × FieldType)))[9]? = some t9 := rfl
theorem rgT12_e4ce31b {t0 t1 t2 t3 t4 t5 t6 t7 t8 t9 t10 t11 : ClassId × FieldType} : (([t0, t1, t2, t3, t4, t5, t6, t7, t8, t9, t10, t11] : List (ClassId × FieldType)))[11]? = some t11 := rfl
theorem rgT12_1025113 {t0 t1 t2 t3 t4 t5 t6 t7 t8 t9 t10 t11 : ClassId × FieldType} : (([t0, t1, t2, t3, t4, t5, t6, t7, t8, t9, t10, t11] : List (ClassId × FieldType)))[10]? = some t10 := rfl
theorem rgS13_353ab7d {A : Nat → Prop} {D : va_G} {cl : List vw_C} {H : Heap} {c0 c1 c2 c3 c4 c5 c6 c7 c8 c9 c10 c11 c12 : Nat × va_E} {d e : Nat × va_E} (hP : va_P D cl (([c0, c1, c2, c3, c4, c5, c6, c7, c8, c9, c10, c11, c12]).set 11 d) H) (hD : va_D A (([c0, c1, c2, c3, c4, c5, c6, c7, c8, c9, c10, c11, c12]).set 11 d)) (h : d = e) : va_P D cl ([c0, c1, c2, c3, c4, c5, c6, c7, c8, c9, c10, e, c12]) H ∧ va_D A ([c0, c1, c2, c3, c4, c5, c6, c7, c8, c9, c10, e, c12]) := by subst h; exact ⟨hP, hD⟩
theorem rgS13_82f222c {A : Nat → Prop} {D : va_G} {cl : List vw_C} {H : Heap} {c0 c1 c2 c3 c4 c5 c6 c7 c8 c9 c10 c11 c12 : Nat × va_E} {d e : Nat × va_E} (hP : va_P D cl (([c0, c1, c2, c3, c4, c5, c6, c7, c8, c9, c10, c11, c12]).set 5 d) H) (hD : va_D A (([c0, c1, c2, c3, c4, c5, c6, c7, c8, c9, c10, c11, c12]).set 5 d)) (h : d = e) : va_P D cl ([c0, c1, c2, c3, c4, e, c6, c7, c8, c9, c10, c11, c12]) H ∧ va_D A ([c0, c1, c2, c3, c4, e, c6, c7, c8, c9, c10, c11, c12]) := by subst h; exact ⟨hP, hD⟩
set_option maxHeartbeats 4000000 in
set_option maxRecDepth 100000 in
theorem k_X9_personLine (l : Launch) (dC : Nat → ClassId) (dI : Nat → Nat → Nat) (g : Gv) (sz : Nat) (a0 : Nat) (a0_0 : Int32) (a0_1 : Int32) (a0_2 : Int32) (a0_3 : Int32) (a0_4 : Nat) (a0_5 : Int32) (a0_6 : Int32) (a0_7 : Int32) (a0_8 : Int32) (a0_9 : Int32) (a0_10 : Int32) (a0_11 : Int64) (a0_12 : Int32) (a0_13 : Int32) (a0_14 : Int32) (a0_15 : Int32) (a0_16 : Int32) (a0_17 : Int32) (a0_18 : Nat) (a0_19 : Nat) (a0_20 : Nat) (a0_21 : Nat) (a0_22 : Nat) (a0_23 : Nat) (a0_24 : Nat) (a0_25 : Nat) (a0_26 : Nat) (a0_27 : Nat) (a0_28 : Nat) (a0_29 : Nat) (a0_30 : Nat) (a0_31 : Nat) (a0_32 : Nat) (a0_33 : Nat) (a0_34 : Nat) (a0_35 : Nat) (a0_36 : Int64) (a0_37 : Int32) (a0_38 : Nat) (a0_39 : Nat) (a0_40 : Int32) (a0_41 : Nat) (a0_42 : Nat) (a0_43 : Nat) (a0_4_c : ClassId) (a0_4_f : Nat → Int32) (a0_18_c : ClassId) (a0_18_f : Nat → Int32) (a0_19_c : ClassId) (a0_19_f : Nat → Int32) (a0_20_c : ClassId) (a0_20_f : Nat → Int32) (a0_22_c : ClassId) (a0_22_f : Nat → Int64) (a0_23_c : ClassId) (a0_23_f : Nat → Int32) (a0_24_c : ClassId) (a0_24_f : Nat → Int32) (a0_25_c : ClassId) (a0_25_f : Nat → Int64) (a0_27_c : ClassId) (a0_27_f : Nat → Int64) (h_a0_5 : 0 ≤ a0_5.toInt ∧ a0_5.toInt ≤ 1000) (h_a0_6 : 0 ≤ a0_6.toInt ∧ a0_6.toInt ≤ 1000) (h_a0_7 : 0 ≤ a0_7.toInt ∧ a0_7.toInt ≤ 1000) (h_a0_8 : 0 ≤ a0_8.toInt ∧ a0_8.toInt ≤ 1000) (h_a0_17 : 0 ≤ a0_17.toInt ∧ a0_17.toInt ≤ 1) (h_a0_37 : (-1) ≤ a0_37.toInt ∧ a0_37.toInt ≤ 23) (h_a0_40 : 0 ≤ a0_40.toInt ∧ a0_40.toInt ≤ 12) (h_a0_18_f : vr 0 8 a0_18_f) (h_a0_19_f : vr 0 4 a0_19_f) (h_a0_20_f : vr 0 24 a0_20_f) (hbn : a0_17.toInt = 1) (hcan : (a0_18_f a0_17.toNatClampNeg).toInt < 8) : Met l yX9_personLine (.code yX9_personLine cX9_personLine 2 (some .boolean) :: TBL) ({ frames := 9, cells := 0, slots := 0, locals := 264 }) (va_Pc [.ref a0] (fun U => U.heap.size = sz ∧ va_P (dC, dI) vwCl [(a0, .inr (8, [.int a0_0, .int a0_1, .int a0_2, .int a0_3, .ref a0_4, .int a0_5, .int a0_6, .int a0_7, .int a0_8, .int a0_9, .int a0_10, .long a0_11, .int a0_12, .int a0_13, .int a0_14, .int a0_15, .int a0_16, .int a0_17, .ref a0_18, .ref a0_19, .ref a0_20, .ref a0_21, .ref a0_22, .ref a0_23, .ref a0_24, .ref a0_25, .ref a0_26, .ref a0_27, .ref a0_28, .ref a0_29, .ref a0_30, .ref a0_31, .ref a0_32, .ref a0_33, .ref a0_34, .ref a0_35, .long a0_36, .int a0_37, .ref a0_38, .ref a0_39, .int a0_40, .ref a0_41, .ref a0_42, .ref a0_43])), (a0_4, .inl (a0_4_c, 1000, .inl a0_4_f)), (a0_18, .inl (a0_18_c, 2, .inl a0_18_f)), (a0_19, .inl (a0_19_c, 2, .inl a0_19_f)), (a0_20, .inl (a0_20_c, 2, .inl a0_20_f)), (a0_22, .inl (a0_22_c, 16, .inr (.inl a0_22_f))), (a0_23, .inl (a0_23_c, 16, .inl a0_23_f)), (a0_24, .inl (a0_24_c, 16, .inl a0_24_f)), (a0_25, .inl (a0_25_c, 8, .inr (.inl a0_25_f))), (a0_27, .inl (a0_27_c, 48, .inr (.inl a0_27_f)))] U.heap ∧ va_K (dC, dI) vwCl [(a0_4_c, .byte), (a0_18_c, .int), (a0_19_c, .int), (a0_20_c, .int), (a0_22_c, .long), (a0_23_c, .int), (a0_24_c, .int), (a0_25_c, .long), (a0_27_c, .long)] U ∧ va_D (fun _ => True) [(a0, .inr (8, [.int a0_0, .int a0_1, .int a0_2, .int a0_3, .ref a0_4, .int a0_5, .int a0_6, .int a0_7, .int a0_8, .int a0_9, .int a0_10, .long a0_11, .int a0_12, .int a0_13, .int a0_14, .int a0_15, .int a0_16, .int a0_17, .ref a0_18, .ref a0_19, .ref a0_20, .ref a0_21, .ref a0_22, .ref a0_23, .ref a0_24, .ref a0_25, .ref a0_26, .ref a0_27, .ref a0_28, .ref a0_29, .ref a0_30, .ref a0_31, .ref a0_32, .ref a0_33, .ref a0_34, .ref a0_35, .long a0_36, .int a0_37, .ref a0_38, .ref a0_39, .int a0_40, .ref a0_41, .ref a0_42, .ref a0_43])), (a0_4, .inl (a0_4_c, 1000, .inl a0_4_f)), (a0_18, .inl (a0_18_c, 2, .inl a0_18_f)), (a0_19, .inl (a0_19_c, 2, .inl a0_19_f)), (a0_20, .inl (a0_20_c, 2, .inl a0_20_f)), (a0_22, .inl (a0_22_c, 16, .inr (.inl a0_22_f))), (a0_23, .inl (a0_23_c, 16, .inl a0_23_f)), (a0_24, .inl (a0_24_c, 16, .inl a0_24_f)), (a0_25, .inl (a0_25_c, 8, .inr (.inl a0_25_f))), (a0_27, .inl (a0_27_c, 48, .inr (.inl a0_27_f)))] ∧ Ev g (va_A [(a0, .inr (8, [.int a0_0, .int a0_1, .int a0_2, .int a0_3, .ref a0_4, .int a0_5, .int a0_6, .int a0_7, .int a0_8, .int a0_9, .int a0_10, .long a0_11, .int a0_12, .int a0_13, .int a0_14, .int a0_15, .int a0_16, .int a0_17, .ref a0_18, .ref a0_19, .ref a0_20, .ref a0_21, .ref a0_22, .ref a0_23, .ref a0_24, .ref a0_25, .ref a0_26, .ref a0_27, .ref a0_28, .ref a0_29, .ref a0_30, .ref a0_31, .ref a0_32, .ref a0_33, .ref a0_34, .ref a0_35, .long a0_36, .int a0_37, .ref a0_38, .ref a0_39, .int a0_40, .ref a0_41, .ref a0_42, .ref a0_43])), (a0_4, .inl (a0_4_c, 1000, .inl a0_4_f)), (a0_18, .inl (a0_18_c, 2, .inl a0_18_f)), (a0_19, .inl (a0_19_c, 2, .inl a0_19_f)), (a0_20, .inl (a0_20_c, 2, .inl a0_20_f)), (a0_22, .inl (a0_22_c, 16, .inr (.inl a0_22_f))), (a0_23, .inl (a0_23_c, 16, .inl a0_23_f)), (a0_24, .inl (a0_24_c, 16, .inl a0_24_f)), (a0_25, .inl (a0_25_c, 8, .inr (.inl a0_25_f))), (a0_27, .inl (a0_27_c, 48, .inr (.inl a0_27_f)))] sz) U)) (va_Qi (fun (r : Int32) (u : Int32) => u = r) (fun (u : Int32) (t : State) => ∃ (za0_7 : Int32) (za0_8 : Int32) (za0_9 : Int32) (za0_10 : Int32) (za0_11 : Int64) (za0_12 : Int32) (za0_13 : Int32) (za0_14 : Int32) (za0_15 : Int32) (za0_16 : Int32) (za0_36 : Int64) (za0_18_f : Nat → Int32) (za0_22_f : Nat → Int64) (za0_23_f : Nat → Int32) (za0_24_f : Nat → Int32), (0 ≤ za0_7.toInt ∧ za0_7.toInt ≤ 1000) ∧ (0 ≤ za0_8.toInt ∧ za0_8.toInt ≤ 1000) ∧ vr 0 8 za0_18_f ∧ (u = 0 ∨ u = 1) ∧ (u.toInt = 1 → (za0_18_f a0_17.toNatClampNeg).toInt = (a0_18_f a0_17.toNatClampNeg).toInt + 1) ∧ va_P (dC, dI) vwCl [(a0, .inr (8, [.int a0_0, .int a0_1, .int a0_2, .int a0_3, .ref a0_4, .int a0_5, .int a0_6, .int za0_7, .int za0_8, .int za0_9, .int za0_10, .long za0_11, .int za0_12, .int za0_13, .int za0_14, .int za0_15, .int za0_16, .int a0_17, .ref a0_18, .ref a0_19, .ref a0_20, .ref a0_21, .ref a0_22, .ref a0_23, .ref a0_24, .ref a0_25, .ref a0_26, .ref a0_27, .ref a0_28, .ref a0_29, .ref a0_30, .ref a0_31, .ref a0_32, .ref a0_33, .ref a0_34, .ref a0_35, .long za0_36, .int a0_37, .ref a0_38, .ref a0_39, .int a0_40, .ref a0_41, .ref a0_42, .ref a0_43])), (a0_4, .inl (a0_4_c, 1000, .inl a0_4_f)), (a0_18, .inl (a0_18_c, 2, .inl za0_18_f)), (a0_19, .inl (a0_19_c, 2, .inl a0_19_f)), (a0_20, .inl (a0_20_c, 2, .inl a0_20_f)), (a0_22, .inl (a0_22_c, 16, .inr (.inl za0_22_f))), (a0_23, .inl (a0_23_c, 16, .inl za0_23_f)), (a0_24, .inl (a0_24_c, 16, .inl za0_24_f)), (a0_25, .inl (a0_25_c, 8, .inr (.inl a0_25_f))), (a0_27, .inl (a0_27_c, 48, .inr (.inl a0_27_f)))] t.heap ∧ va_K (dC, dI) vwCl [] t ∧ va_D (va_A [(a0, .inr (8, [.int a0_0, .int a0_1, .int a0_2, .int a0_3, .ref a0_4, .int a0_5, .int a0_6, .int a0_7, .int a0_8, .int a0_9, .int a0_10, .long a0_11, .int a0_12, .int a0_13, .int a0_14, .int a0_15, .int a0_16, .int a0_17, .ref a0_18, .ref a0_19, .ref a0_20, .ref a0_21, .ref a0_22, .ref a0_23, .ref a0_24, .ref a0_25, .ref a0_26, .ref a0_27, .ref a0_28, .ref a0_29, .ref a0_30, .ref a0_31, .ref a0_32, .ref a0_33, .ref a0_34, .ref a0_35, .long a0_36, .int a0_37, .ref a0_38, .ref a0_39, .int a0_40, .ref a0_41, .ref a0_42, .ref a0_43])), (a0_4, .inl (a0_4_c, 1000, .inl a0_4_f)), (a0_18, .inl (a0_18_c, 2, .inl a0_18_f)), (a0_19, .inl (a0_19_c, 2, .inl a0_19_f)), (a0_20, .inl (a0_20_c, 2, .inl a0_20_f)), (a0_22, .inl (a0_22_c, 16, .inr (.inl a0_22_f))), (a0_23, .inl (a0_23_c, 16, .inl a0_23_f)), (a0_24, .inl (a0_24_c, 16, .inl a0_24_f)), (a0_25, .inl (a0_25_c, 8, .inr (.inl a0_25_f))), (a0_27, .inl (a0_27_c, 48, .inr (.inl a0_27_f)))] sz) [(a0, .inr (8, [.int a0_0, .int a0_1, .int a0_2, .int a0_3, .ref a0_4, .int a0_5, .int a0_6, .int za0_7, .int za0_8, .int za0_9, .int za0_10, .long za0_11, .int za0_12, .int za0_13, .int za0_14, .int za0_15, .int za0_16, .int a0_17, .ref a0_18, .ref a0_19, .ref a0_20, .ref a0_21, .ref a0_22, .ref a0_23, .ref a0_24, .ref a0_25, .ref a0_26, .ref a0_27, .ref a0_28, .ref a0_29, .ref a0_30, .ref a0_31, .ref a0_32, .ref a0_33, .ref a0_34, .ref a0_35, .long za0_36, .int a0_37, .ref a0_38, .ref a0_39, .int a0_40, .ref a0_41, .ref a0_42, .ref a0_43])), (a0_4, .inl (a0_4_c, 1000, .inl a0_4_f)), (a0_18, .inl (a0_18_c, 2, .inl za0_18_f)), (a0_19, .inl (a0_19_c, 2, .inl a0_19_f)), (a0_20, .inl (a0_20_c, 2, .inl a0_20_f)), (a0_22, .inl (a0_22_c, 16, .inr (.inl za0_22_f))), (a0_23, .inl (a0_23_c, 16, .inl za0_23_f)), (a0_24, .inl (a0_24_c, 16, .inl za0_24_f)), (a0_25, .inl (a0_25_c, 8, .inr (.inl a0_25_f))), (a0_27, .inl (a0_27_c, 48, .inr (.inl a0_27_f)))]) (va_A [(a0, .inr (8, [.int a0_0, .int a0_1, .int a0_2, .int a0_3, .ref a0_4, .int a0_5, .int a0_6, .int a0_7, .int a0_8, .int a0_9, .int a0_10, .long a0_11, .int a0_12, .int a0_13, .int a0_14, .int a0_15, .int a0_16, .int a0_17, .ref a0_18, .ref a0_19, .ref a0_20, .ref a0_21, .ref a0_22, .ref a0_23, .ref a0_24, .ref a0_25, .ref a0_26, .ref a0_27, .ref a0_28, .ref a0_29, .ref a0_30, .ref a0_31, .ref a0_32, .ref a0_33, .ref a0_34, .ref a0_35, .long a0_36, .int a0_37, .ref a0_38, .ref a0_39, .int a0_40, .ref a0_41, .ref a0_42, .ref a0_43])), (a0_4, .inl (a0_4_c, 1000, .inl a0_4_f)), (a0_18, .inl (a0_18_c, 2, .inl a0_18_f)), (a0_19, .inl (a0_19_c, 2, .inl a0_19_f)), (a0_20, .inl (a0_20_c, 2, .inl a0_20_f)), (a0_22, .inl (a0_22_c, 16, .inr (.inl a0_22_f))), (a0_23, .inl (a0_23_c, 16, .inl a0_23_f)), (a0_24, .inl (a0_24_c, 16, .inl a0_24_f)), (a0_25, .inl (a0_25_c, 8, .inr (.inl a0_25_f))), (a0_27, .inl (a0_27_c, 48, .inr (.inl a0_27_f)))] sz)) 0 0 (va_A [(a0, .inr (8, [.int a0_0, .int a0_1, .int a0_2, .int a0_3, .ref a0_4, .int a0_5, .int a0_6, .int a0_7, .int a0_8, .int a0_9, .int a0_10, .long a0_11, .int a0_12, .int a0_13, .int a0_14, .int a0_15, .int a0_16, .int a0_17, .ref a0_18, .ref a0_19, .ref a0_20, .ref a0_21, .ref a0_22, .ref a0_23, .ref a0_24, .ref a0_25, .ref a0_26, .ref a0_27, .ref a0_28, .ref a0_29, .ref a0_30, .ref a0_31, .ref a0_32, .ref a0_33, .ref a0_34, .ref a0_35, .long a0_36, .int a0_37, .ref a0_38, .ref a0_39, .int a0_40, .ref a0_41, .ref a0_42, .ref a0_43])), (a0_4, .inl (a0_4_c, 1000, .inl a0_4_f)), (a0_18, .inl (a0_18_c, 2, .inl a0_18_f)), (a0_19, .inl (a0_19_c, 2, .inl a0_19_f)), (a0_20, .inl (a0_20_c, 2, .inl a0_20_f)), (a0_22, .inl (a0_22_c, 16, .inr (.inl a0_22_f))), (a0_23, .inl (a0_23_c, 16, .inl a0_23_f)), (a0_24, .inl (a0_24_c, 16, .inl a0_24_f)), (a0_25, .inl (a0_25_c, 8, .inr (.inl a0_25_f))), (a0_27, .inl (a0_27_c, 48, .inr (.inl a0_27_f)))] sz) := by
  refine Met.ofW (cc := cX9_personLine) (maxL := 2) (ret := (some .boolean)) (by decide) rfl ?_
  intro p e s m args below meth c s₁ B hml hv
  obtain ⟨rfl, hsz, hP, hK, hD0, hE⟩ := hv
  have hx := B.exec
  have hb := B.bytes
  have hr := B.returns
  have hts0 := atoms_spec (ws := (.code yX9_personLine cX9_personLine 2 (some .boolean) :: TBL)) B.pre
  have hts := fun (w : Cond) (h : w ∈ TBL) => hts0 w (List.mem_cons_of_mem _ h)
  have hown : s.vm.findClass RX9 = some m.cls := findClass_of_methodNamed B.named
  have hlocks := B.notSynchronized
  have hN := hE.1
  subst hsz
  have hD := hD0.self (sz := s.heap.size)
  generalize hAe : va_A [(a0, .inr (8, [.int a0_0, .int a0_1, .int a0_2, .int a0_3, .ref a0_4, .int a0_5, .int a0_6, .int a0_7, .int a0_8, .int a0_9, .int a0_10, .long a0_11, .int a0_12, .int a0_13, .int a0_14, .int a0_15, .int a0_16, .int a0_17, .ref a0_18, .ref a0_19, .ref a0_20, .ref a0_21, .ref a0_22, .ref a0_23, .ref a0_24, .ref a0_25, .ref a0_26, .ref a0_27, .ref a0_28, .ref a0_29, .ref a0_30, .ref a0_31, .ref a0_32, .ref a0_33, .ref a0_34, .ref a0_35, .long a0_36, .int a0_37, .ref a0_38, .ref a0_39, .int a0_40, .ref a0_41, .ref a0_42, .ref a0_43])), (a0_4, .inl (a0_4_c, 1000, .inl a0_4_f)), (a0_18, .inl (a0_18_c, 2, .inl a0_18_f)), (a0_19, .inl (a0_19_c, 2, .inl a0_19_f)), (a0_20, .inl (a0_20_c, 2, .inl a0_20_f)), (a0_22, .inl (a0_22_c, 16, .inr (.inl a0_22_f))), (a0_23, .inl (a0_23_c, 16, .inl a0_23_f)), (a0_24, .inl (a0_24_c, 16, .inl a0_24_f)), (a0_25, .inl (a0_25_c, 8, .inr (.inl a0_25_f))), (a0_27, .inl (a0_27_c, 48, .inr (.inl a0_27_f)))] s.heap.size = A at hD hE ⊢
  have hA : ∀ q : Nat, s.heap.size ≤ q → A q := fun q h => by rw [← hAe]; exact Or.inr h
  have hS : va_S A s.heap s.heap [] := va_S.rf
  replace hP : va_P (dC, dI) vwCl [(a0, .inr (8, [.int a0_0, .int a0_1, .int a0_2, .int a0_3, .ref a0_4, .int a0_5, .int a0_6, .int a0_7, .int a0_8, .int a0_9, .int a0_10, .long a0_11, .int a0_12, .int a0_13, .int a0_14, .int a0_15, .int a0_16, .int a0_17, .ref a0_18, .ref a0_19, .ref a0_20, .ref a0_21, .ref a0_22, .ref a0_23, .ref a0_24, .ref a0_25, .ref a0_26, .ref a0_27, .ref a0_28, .ref a0_29, .ref a0_30, .ref a0_31, .ref a0_32, .ref a0_33, .ref a0_34, .ref a0_35, .long a0_36, .int a0_37, .ref a0_38, .ref a0_39, .int a0_40, .ref a0_41, .ref a0_42, .ref a0_43])), (a0_4, .inl (a0_4_c, 1000, .inl a0_4_f)), (a0_18, .inl (a0_18_c, 2, .inl a0_18_f)), (a0_19, .inl (a0_19_c, 2, .inl a0_19_f)), (a0_20, .inl (a0_20_c, 2, .inl a0_20_f)), (a0_22, .inl (a0_22_c, 16, .inr (.inl a0_22_f))), (a0_23, .inl (a0_23_c, 16, .inl a0_23_f)), (a0_24, .inl (a0_24_c, 16, .inl a0_24_f)), (a0_25, .inl (a0_25_c, 8, .inr (.inl a0_25_f))), (a0_27, .inl (a0_27_c, 48, .inr (.inl a0_27_f)))] s.heap := hP
  have hl := lv_entry ([.ref a0]) (n := 2) (Nat.le_of_ble_eq_true rfl)
  rw [lg_entry_eq]
  generalize (lg_sl ([.ref a0]) ++ List.replicate (2 - (lg_sl ([.ref a0])).length) Slot.unset).toArray = ls at hl ⊢
  have hl : lv_has ls 2 [(0, .ref a0)] := hl
  have b_a0_0 := i32b a0_0
  have b_a0_1 := i32b a0_1
  have b_a0_2 := i32b a0_2
  have b_a0_3 := i32b a0_3
  have b_a0_9 := i32b a0_9
  have b_a0_10 := i32b a0_10
  have b_a0_12 := i32b a0_12
  have b_a0_13 := i32b a0_13
  have b_a0_14 := i32b a0_14
  have b_a0_15 := i32b a0_15
  have b_a0_16 := i32b a0_16
  refine lv_aload_n hx hb dX9_personLine_0 rfl (lv_at hl 0 rfl) ?_
  have hPc := (rgP10_f291010 hP)
  have hKc := (rgK9_c42332e hK)
  have hDc := (rgD10_d4799e4 hD)
  have hFc := freeW hDc hS hA
  refine va_calli (va_runV (As := []) (rest := []) ⟨hx, hb, hml, hown, hts⟩ (k_X9_newName l dC dI g s.heap.size (a0) (a0_0) (a0_1) (a0_2) (a0_3) (a0_4) (a0_5) (a0_6) (a0_7) (a0_8) (a0_9) (a0_10) (a0_11) (a0_12) (a0_13) (a0_14) (a0_15) (a0_16) (a0_17) (a0_18) (a0_19) (a0_20) (a0_21) (a0_22) (a0_23) (a0_24) (a0_25) (a0_26) (a0_27) (a0_28) (a0_29) (a0_30) (a0_31) (a0_32) (a0_33) (a0_34) (a0_35) (a0_36) (a0_37) (a0_38) (a0_39) (a0_40) (a0_41) (a0_42) (a0_43) (a0_4_c) (a0_4_f) (a0_18_c) (a0_18_f) (a0_19_c) (a0_19_f) (a0_20_c) (a0_20_f) (a0_22_c) (a0_22_f) (a0_25_c) (a0_25_f) (a0_27_c) (a0_27_f) (by omega) (by omega) (by omega) (by omega) (by omega) (by omega) (by omega) h_a0_18_f h_a0_19_f h_a0_20_f) (cwV 0 hts (gwV qw_555 qw_556 qw_557 qw_386 qw_554) rfl rfl rfl (by decide +kernel) ⟨Nat.le_of_ble_eq_true rfl, Nat.le_of_ble_eq_true rfl⟩) ⟨fun a U g9 mk q => ⟨q.1, q.2.1, q.2.2.1, va_K.moved (u := U) (U := U.calling g9 mk a) (Vm.Alike.refl U.vm) q.2.2.2.1, q.2.2.2.2.1, Ev.bl q.2.2.2.2.2⟩, va_recv hK hP (ci := 8) (q0 := 0) rfl rgL10_6790d07, fun U hU hW => ⟨rfl, by rw [hU], atB hU hPc, va_K.moved hW.alike hKc, hDc.weaken (fun _ _ _ _ => trivial), hE.go hS hFc hU hW⟩⟩ rfl rfl hl.1 rfl (lv_room (Nat.le_of_ble_eq_true rfl)) dX9_personLine_1 ⟨Nat.le_of_ble_eq_true rfl, Nat.le_of_ble_eq_true rfl⟩) hS (fun q _ h => hFc q h) hFc (fun r2 u1 t H1 locs ht hvm h_u1 hB hz1 hk1 hS => ?_)
  obtain ⟨za0_7_3, za0_8_4, za0_9_5, za0_10_6, za0_11_7, za0_12_8, za0_13_9, za0_36_10, hF11, hF12, hF13, hP1, hK1, hD1⟩ := hB
  have hK1 := va_K.moved hvm.symm hK1
  have hJ9 := rgJ10_bd6b21d hP hD hk1 hFc (atH ht hP1) hD1
  clear hP hD hPc hKc hDc hFc hP1 hD1 hk1 hz1
  obtain ⟨hP, hD⟩ := hJ9
  clear hK1
  generalize H1 = H at hP hS ⊢
  refine W.widen (k := 0) (n := 0) (Nat.le_of_ble_eq_true rfl) (Nat.le_of_ble_eq_true rfl) ?_
  have h_r2 := congrArg Int32.toInt h_u1
  have hz_r2 : r2 = 0 ∨ r2 = 1 := h_u1 ▸ hF13
  have b_r2 := z01 hz_r2
  refine lv_if_ne (tgt := 9) hx hb dX9_personLine_4 (by decide) (fun c4_14 => ?_) (fun c4_14 => ?_)
  · have c4_14 : ¬ (r2.toInt = 0) := mt (cv_eq rfl (by decide)).mpr c4_14
    refine lv_bipush (v := 8) hx hb dX9_personLine_9 (by decide) ?_
    refine lv_aload_n hx hb dX9_personLine_11 rfl (lv_at hl 0 rfl) ?_
    refine va_get (D := (dC, dI)) (ci := 8) (v := .int a0_17) (C := RX9) (T := TX9) (N := 44) hx hb hts inlX9 hown hK hP 0 rgL10_6790d07 rfl 17 (by decide) (hts (.fieldLink RX9 256 "ClosedUntilModel" "bench" "I") qw_435) (fun _ h9 => h9) rfl dX9_personLine_12 ?_
    refine lv_imul hx hb dX9_personLine_15 ?_
    refine lv_topi (fun x15 e_x15 => ?_)
    try have e_x15 := ti_mul e_x15 (show (8 : Int32).toInt = 8 by decide) rfl (by omega)
    refine lv_aload_n hx hb dX9_personLine_16 rfl (lv_at hl 0 rfl) ?_
    refine va_get (D := (dC, dI)) (ci := 8) (v := .ref a0_18) (C := RX9) (T := TX9) (N := 44) hx hb hts inlX9 hown hK hP 0 rgL10_6790d07 rfl 18 (by decide) (hts (.fieldLink RX9 13 "ClosedUntilModel" "people" "[I") qw_434) (fun _ h9 => h9) rfl dX9_personLine_17 ?_
    refine lv_aload_n hx hb dX9_personLine_20 rfl (lv_at hl 0 rfl) ?_
    refine va_get (D := (dC, dI)) (ci := 8) (v := .int a0_17) (C := RX9) (T := TX9) (N := 44) hx hb hts inlX9 hown hK hP 0 rgL10_6790d07 rfl 17 (by decide) (hts (.fieldLink RX9 256 "ClosedUntilModel" "bench" "I") qw_435) (fun _ h9 => h9) rfl dX9_personLine_21 ?_
    refine va_iald hx hb hK hP 2 1 rgL10_2f9faf6 rgT9_ade3714 (vinI (by omega) (by omega)) dX9_personLine_24 ?_
    refine lv_topi (fun x16 e_x16 => ?_)
    have q_x16 := congrArg Int32.toInt e_x16
    have b_x16 : 0 ≤ x16.toInt ∧ x16.toInt ≤ 8 := vr_at (lo := 0) (hi := 8) (f := a0_18_f) h_a0_18_f e_x16
    refine lv_iadd hx hb dX9_personLine_25 ?_
    refine lv_topi (fun x17 e_x17 => ?_)
    try have e_x17 := ti_add e_x17 rfl rfl (by omega)
    refine lv_istore_n (lv' := [(1, .int x17), (0, .ref a0)]) hx hb dX9_personLine_26 rfl hl (by decide) rfl (fun ls hl => ?_)
    refine lv_aload_n hx hb dX9_personLine_27 rfl (lv_at hl 1 rfl) ?_
    refine va_get (D := (dC, dI)) (ci := 8) (v := .ref a0_22) (C := RX9) (T := TX9) (N := 44) hx hb hts inlX9 hown hK hP 0 rgL10_6790d07 rfl 22 (by decide) (hts (.fieldLink RX9 26 "ClosedUntilModel" "personName" "[J") qw_436) (fun _ h9 => h9) rfl dX9_personLine_28 ?_
    refine lv_iload_n hx hb dX9_personLine_31 rfl (lv_at hl 0 rfl) ?_
    refine lv_aload_n hx hb dX9_personLine_32 rfl (lv_at hl 1 rfl) ?_
    refine va_get (D := (dC, dI)) (ci := 8) (v := .long za0_36_10) (C := RX9) (T := TX9) (N := 44) hx hb hts inlX9 hown hK hP 0 rgL10_6790d07 rfl 36 (by decide) (hts (.fieldLink RX9 271 "ClosedUntilModel" "nameHere" "J") qw_498) (fun _ h9 => h9) rfl dX9_personLine_33 ?_
    refine va_last hx hb hK hP hD hS 5 4 rgL10_adf45ab rgT9_9e21aff (vinI (by omega) (by omega)) dX9_personLine_36 (fun H locs hP9 hD9 hS9 => ?_)
    obtain ⟨y18, e_y18⟩ : ∃ y, (vp_updL a0_22_f x17.toNatClampNeg za0_36_10) = y := ⟨_, rfl⟩
    clear hP hD hS
    obtain ⟨hP, hD⟩ := rgS10_18433db (e := (a0_22, .inl (a0_22_c, 16, .inr (.inl y18)))) hP9 hD9 (congrArg (fun z9 => (((a0_22, .inl (a0_22_c, 16, .inr (.inl z9))) : Nat × va_E))) e_y18)
    have hS := hS9; clear hP9 hD9 hS9
    refine lv_aload_n hx hb dX9_personLine_37 rfl (lv_at hl 1 rfl) ?_
    refine va_get (D := (dC, dI)) (ci := 8) (v := .ref a0_23) (C := RX9) (T := TX9) (N := 44) hx hb hts inlX9 hown hK hP 0 rgL10_6790d07 rfl 23 (by decide) (hts (.fieldLink RX9 30 "ClosedUntilModel" "birth" "[I") qw_514) (fun _ h9 => h9) rfl dX9_personLine_38 ?_
    refine lv_iload_n hx hb dX9_personLine_41 rfl (lv_at hl 0 rfl) ?_
    refine lv_iconst (v := (-1)) hx hb dX9_personLine_42 (by decide) ?_
    refine va_iast hx hb hK hP hD hS 6 5 rgL10_d919974 rgT9_6f20d7e (vinI (by omega) (by omega)) dX9_personLine_43 (fun H locs hP9 hD9 hS9 => ?_)
    obtain ⟨y19, e_y19⟩ : ∃ y, (upd a0_23_f x17.toNatClampNeg ((-1))) = y := ⟨_, rfl⟩
    clear hP hD hS
    obtain ⟨hP, hD⟩ := rgS10_4d793eb (e := (a0_23, .inl (a0_23_c, 16, .inl y19))) hP9 hD9 (congrArg (fun z9 => (((a0_23, .inl (a0_23_c, 16, .inl z9)) : Nat × va_E))) e_y19)
    have hS := hS9; clear hP9 hD9 hS9
    refine lv_aload_n hx hb dX9_personLine_44 rfl (lv_at hl 1 rfl) ?_
    refine va_get (D := (dC, dI)) (ci := 8) (v := .ref a0_24) (C := RX9) (T := TX9) (N := 44) hx hb hts inlX9 hown hK hP 0 rgL10_6790d07 rfl 24 (by decide) (hts (.fieldLink RX9 33 "ClosedUntilModel" "death" "[I") qw_558) (fun _ h9 => h9) rfl dX9_personLine_45 ?_
    refine lv_iload_n hx hb dX9_personLine_48 rfl (lv_at hl 0 rfl) ?_
    refine lv_iconst (v := (-1)) hx hb dX9_personLine_49 (by decide) ?_
    refine va_iast hx hb hK hP hD hS 7 6 rgL10_4409b10 rgT9_4ac895f (vinI (by omega) (by omega)) dX9_personLine_50 (fun H locs hP9 hD9 hS9 => ?_)
    obtain ⟨y20, e_y20⟩ : ∃ y, (upd a0_24_f x17.toNatClampNeg ((-1))) = y := ⟨_, rfl⟩
    clear hP hD hS
    obtain ⟨hP, hD⟩ := rgS10_581ff44 (e := (a0_24, .inl (a0_24_c, 16, .inl y20))) hP9 hD9 (congrArg (fun z9 => (((a0_24, .inl (a0_24_c, 16, .inl z9)) : Nat × va_E))) e_y20)
    have hS := hS9; clear hP9 hD9 hS9
    refine lv_aload_n hx hb dX9_personLine_51 rfl (lv_at hl 1 rfl) ?_
    refine va_ldcS hx hb hown (show vk_R RX9 211 "born" (g.2.2.2.2.2.1 1) s from hE.2.2.2.2.2.2.2.2.2.2.2.2.2.2.2.2 1 (by decide)) dX9_personLine_52 ?_
    have hPc := (rgP10_daf6d47 hP)
    have hKc := (rgK9_3121138 hK)
    have hDc := (rgD10_656c2a0 hD)
    have hFc := freeW hDc hS hA
    refine va_calli (va_runV (As := [.ref (g.2.2.2.2.2.1 1)]) (rest := []) ⟨hx, hb, hml, hown, hts⟩ (k_X9_takes l dC dI g H.size (a0) (1) (a0_0) (a0_1) (a0_2) (a0_3) (a0_4) (a0_5) (a0_6) (za0_7_3) (za0_8_4) (za0_9_5) (za0_10_6) (za0_11_7) (za0_12_8) (za0_13_9) (a0_14) (a0_15) (a0_16) (a0_17) (a0_18) (a0_19) (a0_20) (a0_21) (a0_22) (a0_23) (a0_24) (a0_25) (a0_26) (a0_27) (a0_28) (a0_29) (a0_30) (a0_31) (a0_32) (a0_33) (a0_34) (a0_35) (za0_36_10) (a0_37) (a0_38) (a0_39) (a0_40) (a0_41) (a0_42) (a0_43) (a0_4_c) (a0_4_f) (by omega) (by omega) (by omega) (by omega) (by omega) (by omega) (by omega) (by first | assumption | decide)) (cwV 1 hts (gwV qw_560 qw_561 qw_562 qw_386 qw_559) rfl rfl rfl (by decide +kernel) ⟨Nat.le_of_ble_eq_true rfl, Nat.le_of_ble_eq_true rfl⟩) ⟨fun a U g9 mk q => ⟨q.1, q.2.1, q.2.2.1, va_K.moved (u := U) (U := U.calling g9 mk a) (Vm.Alike.refl U.vm) q.2.2.2.1, q.2.2.2.2.1, Ev.bl q.2.2.2.2.2⟩, va_recv hK hP (ci := 8) (q0 := 0) rfl rgL10_6790d07, fun U hU hW => ⟨rfl, by rw [hU], atB hU hPc, va_K.moved hW.alike hKc, hDc.weaken (fun _ _ _ _ => trivial), hE.go hS hFc hU hW⟩⟩ rfl rfl hl.1 rfl (lv_room (Nat.le_of_ble_eq_true rfl)) dX9_personLine_54 ⟨Nat.le_of_ble_eq_true rfl, Nat.le_of_ble_eq_true rfl⟩) hS (fun q _ h => hFc q h) hFc (fun r22 u21 t H1 locs ht hvm h_u21 hB hz1 hk1 hS => ?_)
    obtain ⟨za0_7_23, za0_8_24, za0_9_25, za0_10_26, za0_11_27, hF28, hF29, hF30, hP1, hK1, hD1⟩ := hB
    have hK1 := va_K.moved hvm.symm hK1
    have hJ9 := rgJ10_b6543c6 hP hD hk1 hFc (atH ht hP1) hD1
    clear hP hD hPc hKc hDc hFc hP1 hD1 hk1 hz1
    obtain ⟨hP, hD⟩ := hJ9
    clear hK1
    generalize H1 = H at hP hS ⊢
    refine W.widen (k := 0) (n := 0) (Nat.le_of_ble_eq_true rfl) (Nat.le_of_ble_eq_true rfl) ?_
    have h_r22 := congrArg Int32.toInt h_u21
    have hz_r22 : r22 = 0 ∨ r22 = 1 := h_u21 ▸ hF30
    have b_r22 := z01 hz_r22
    refine lv_if_eq (tgt := 79) hx hb dX9_personLine_57 (by decide) (fun c57_31 => ?_) (fun c57_31 => ?_)
    · have c57_31 : r22.toInt = 0 := (cv_eq rfl (by decide)).mp c57_31
      refine lv_aload_n hx hb dX9_personLine_79 rfl (lv_at hl 1 rfl) ?_
      refine va_ldcS hx hb hown (show vk_R RX9 213 "died" (g.2.2.2.2.2.1 2) s from hE.2.2.2.2.2.2.2.2.2.2.2.2.2.2.2.2 2 (by decide)) dX9_personLine_80 ?_
      have hPc := (rgP10_daf6d47 hP)
      have hKc := (rgK9_3121138 hK)
      have hDc := (rgD10_656c2a0 hD)
      have hFc := freeW hDc hS hA
      refine va_calli (va_runV (As := [.ref (g.2.2.2.2.2.1 2)]) (rest := []) ⟨hx, hb, hml, hown, hts⟩ (k_X9_takes l dC dI g H.size (a0) (2) (a0_0) (a0_1) (a0_2) (a0_3) (a0_4) (a0_5) (a0_6) (za0_7_23) (za0_8_24) (za0_9_25) (za0_10_26) (za0_11_27) (za0_12_8) (za0_13_9) (a0_14) (a0_15) (a0_16) (a0_17) (a0_18) (a0_19) (a0_20) (a0_21) (a0_22) (a0_23) (a0_24) (a0_25) (a0_26) (a0_27) (a0_28) (a0_29) (a0_30) (a0_31) (a0_32) (a0_33) (a0_34) (a0_35) (za0_36_10) (a0_37) (a0_38) (a0_39) (a0_40) (a0_41) (a0_42) (a0_43) (a0_4_c) (a0_4_f) (by omega) (by omega) (by omega) (by omega) (by omega) (by omega) (by omega) (by first | assumption | decide)) (cwV 1 hts (gwV qw_560 qw_561 qw_562 qw_386 qw_559) rfl rfl rfl (by decide +kernel) ⟨Nat.le_of_ble_eq_true rfl, Nat.le_of_ble_eq_true rfl⟩) ⟨fun a U g9 mk q => ⟨q.1, q.2.1, q.2.2.1, va_K.moved (u := U) (U := U.calling g9 mk a) (Vm.Alike.refl U.vm) q.2.2.2.1, q.2.2.2.2.1, Ev.bl q.2.2.2.2.2⟩, va_recv hK hP (ci := 8) (q0 := 0) rfl rgL10_6790d07, fun U hU hW => ⟨rfl, by rw [hU], atB hU hPc, va_K.moved hW.alike hKc, hDc.weaken (fun _ _ _ _ => trivial), hE.go hS hFc hU hW⟩⟩ rfl rfl hl.1 rfl (lv_room (Nat.le_of_ble_eq_true rfl)) dX9_personLine_82 ⟨Nat.le_of_ble_eq_true rfl, Nat.le_of_ble_eq_true rfl⟩) hS (fun q _ h => hFc q h) hFc (fun r33 u32 t H1 locs ht hvm h_u32 hB hz1 hk1 hS => ?_)
      obtain ⟨za0_7_34, za0_8_35, za0_9_36, za0_10_37, za0_11_38, hF39, hF40, hF41, hP1, hK1, hD1⟩ := hB
      have hK1 := va_K.moved hvm.symm hK1
      have hJ9 := rgJ10_b6543c6 hP hD hk1 hFc (atH ht hP1) hD1
      clear hP hD hPc hKc hDc hFc hP1 hD1 hk1 hz1
      obtain ⟨hP, hD⟩ := hJ9
      clear hK1
      generalize H1 = H at hP hS ⊢
      refine W.widen (k := 0) (n := 0) (Nat.le_of_ble_eq_true rfl) (Nat.le_of_ble_eq_true rfl) ?_
      have h_r33 := congrArg Int32.toInt h_u32
      have hz_r33 : r33 = 0 ∨ r33 = 1 := h_u32 ▸ hF41
      have b_r33 := z01 hz_r33
      refine lv_if_eq (tgt := 137) hx hb dX9_personLine_85 (by decide) (fun c85_42 => ?_) (fun c85_42 => ?_)
      · have c85_42 : r33.toInt = 0 := (cv_eq rfl (by decide)).mp c85_42
        refine lv_aload_n hx hb dX9_personLine_137 rfl (lv_at hl 1 rfl) ?_
        refine va_get (D := (dC, dI)) (ci := 8) (v := .ref a0_18) (C := RX9) (T := TX9) (N := 44) hx hb hts inlX9 hown hK hP 0 rgL10_6790d07 rfl 18 (by decide) (hts (.fieldLink RX9 13 "ClosedUntilModel" "people" "[I") qw_434) (fun _ h9 => h9) rfl dX9_personLine_138 ?_
        refine lv_aload_n hx hb dX9_personLine_141 rfl (lv_at hl 1 rfl) ?_
        refine va_get (D := (dC, dI)) (ci := 8) (v := .int a0_17) (C := RX9) (T := TX9) (N := 44) hx hb hts inlX9 hown hK hP 0 rgL10_6790d07 rfl 17 (by decide) (hts (.fieldLink RX9 256 "ClosedUntilModel" "bench" "I") qw_435) (fun _ h9 => h9) rfl dX9_personLine_142 ?_
        refine lv_dup2_11 hx hb dX9_personLine_145 rfl rfl ?_
        refine va_iald hx hb hK hP 2 1 rgL10_2f9faf6 rgT9_ade3714 (vinI (by omega) (by omega)) dX9_personLine_146 ?_
        refine lv_topi (fun x43 e_x43 => ?_)
        have q_x43 := congrArg Int32.toInt e_x43
        have b_x43 : 0 ≤ x43.toInt ∧ x43.toInt ≤ 8 := vr_at (lo := 0) (hi := 8) (f := a0_18_f) h_a0_18_f e_x43
        refine lv_iconst (v := 1) hx hb dX9_personLine_147 (by decide) ?_
        refine lv_iadd hx hb dX9_personLine_148 ?_
        refine lv_topi (fun x44 e_x44 => ?_)
        try have e_x44 := ti_add e_x44 rfl (show (1 : Int32).toInt = 1 by decide) (by omega)
        refine va_iast hx hb hK hP hD hS 2 1 rgL10_2f9faf6 rgT9_ade3714 (vinI (by omega) (by omega)) dX9_personLine_149 (fun H locs hP9 hD9 hS9 => ?_)
        obtain ⟨y45, e_y45⟩ : ∃ y, (upd a0_18_f a0_17.toNatClampNeg x44) = y := ⟨_, rfl⟩
        clear hP hD hS
        obtain ⟨hP, hD⟩ := rgS10_def6067 (e := (a0_18, .inl (a0_18_c, 2, .inl y45))) hP9 hD9 (congrArg (fun z9 => (((a0_18, .inl (a0_18_c, 2, .inl z9)) : Nat × va_E))) e_y45)
        have hS := hS9; clear hP9 hD9 hS9
        have b_y45 : vr 0 8 y45 := vr_upd e_y45 h_a0_18_f (by omega)
        refine lv_iconst (v := 1) hx hb dX9_personLine_150 (by decide) ?_
        have qc1 : (1 : Int32).toInt = 1 := by decide
        refine W.widen (k := 0) (n := 0) (Nat.le_of_ble_eq_true rfl) (Nat.le_of_ble_eq_true rfl) ?_
        have hP9 := hP
        have hD9 := hD
        have hK9 := (rgK9_204429a hK)
        have hf9_0 : (0 ≤ za0_7_34.toInt ∧ za0_7_34.toInt ≤ 1000) := by omega
        have hf9_1 : (0 ≤ za0_8_35.toInt ∧ za0_8_35.toInt ≤ 1000) := by omega
        have hf9_2 : vr 0 8 y45 := b_y45
        have hf9_3 : ((1 : Int32) = 0 ∨ (1 : Int32) = 1) := (by decide)
        have hf9_4 : ((1 : Int32).toInt = 1 → (y45 a0_17.toNatClampNeg).toInt = (a0_18_f a0_17.toNatClampNeg).toInt + 1) := fun _ => by rw [upd_eq e_y45]; omega
        exact W.zret (v := 1) hx hb hr rfl (fun t ht hW => ⟨⟨1, 1, rfl, rfl, za0_7_34, za0_8_35, za0_9_36, za0_10_37, za0_11_38, za0_12_8, za0_13_9, a0_14, a0_15, a0_16, za0_36_10, y45, y18, y19, y20, hf9_0, hf9_1, hf9_2, hf9_3, hf9_4, atB ht hP9, va_K.moved hW.alike hK9, hD9⟩, hS.F ht⟩) hS.2.2 dX9_personLine_151
      · have c85_42 : ¬ (r33.toInt = 0) := mt (cv_eq rfl (by decide)).mpr c85_42
        refine lv_aload_n hx hb dX9_personLine_88 rfl (lv_at hl 1 rfl) ?_
        have hPc := (rgP10_daf6d47 hP)
        have hKc := (rgK9_3121138 hK)
        have hDc := (rgD10_656c2a0 hD)
        have hFc := freeW hDc hS hA
        refine va_calli (va_runV (As := []) (rest := []) ⟨hx, hb, hml, hown, hts⟩ (k_X9_takesDate l dC dI g H.size (a0) (a0_0) (a0_1) (a0_2) (a0_3) (a0_4) (a0_5) (a0_6) (za0_7_34) (za0_8_35) (za0_9_36) (za0_10_37) (za0_11_38) (za0_12_8) (za0_13_9) (a0_14) (a0_15) (a0_16) (a0_17) (a0_18) (a0_19) (a0_20) (a0_21) (a0_22) (a0_23) (a0_24) (a0_25) (a0_26) (a0_27) (a0_28) (a0_29) (a0_30) (a0_31) (a0_32) (a0_33) (a0_34) (a0_35) (za0_36_10) (a0_37) (a0_38) (a0_39) (a0_40) (a0_41) (a0_42) (a0_43) (a0_4_c) (a0_4_f) (by omega) (by omega) (by omega) (by omega) (by omega) (by omega) (by omega)) (cwV 0 hts (gwV qw_564 qw_565 qw_566 qw_386 qw_563) rfl rfl rfl (by decide +kernel) ⟨Nat.le_of_ble_eq_true rfl, Nat.le_of_ble_eq_true rfl⟩) ⟨fun a U g9 mk q => ⟨q.1, q.2.1, q.2.2.1, va_K.moved (u := U) (U := U.calling g9 mk a) (Vm.Alike.refl U.vm) q.2.2.2.1, q.2.2.2.2.1, Ev.bl q.2.2.2.2.2⟩, va_recv hK hP (ci := 8) (q0 := 0) rfl rgL10_6790d07, fun U hU hW => ⟨rfl, by rw [hU], atB hU hPc, va_K.moved hW.alike hKc, hDc.weaken (fun _ _ _ _ => trivial), hE.go hS hFc hU hW⟩⟩ rfl rfl hl.1 rfl (lv_room (Nat.le_of_ble_eq_true rfl)) dX9_personLine_89 ⟨Nat.le_of_ble_eq_true rfl, Nat.le_of_ble_eq_true rfl⟩) hS (fun q _ h => hFc q h) hFc (fun r47 u46 t H1 locs ht hvm h_u46 hB hz1 hk1 hS => ?_)
        obtain ⟨za0_7_48, za0_8_49, za0_9_50, za0_10_51, za0_11_52, za0_12_53, za0_13_54, za0_14_55, za0_15_56, za0_16_57, hF58, hF59, hF60, hP1, hK1, hD1⟩ := hB
        have hK1 := va_K.moved hvm.symm hK1
        have hJ9 := rgJ10_b6543c6 hP hD hk1 hFc (atH ht hP1) hD1
        clear hP hD hPc hKc hDc hFc hP1 hD1 hk1 hz1
        obtain ⟨hP, hD⟩ := hJ9
        clear hK1
        generalize H1 = H at hP hS ⊢
        refine W.widen (k := 0) (n := 0) (Nat.le_of_ble_eq_true rfl) (Nat.le_of_ble_eq_true rfl) ?_
        have h_r47 := congrArg Int32.toInt h_u46
        have hz_r47 : r47 = 0 ∨ r47 = 1 := h_u46 ▸ hF60
        have b_r47 := z01 hz_r47
        refine lv_if_eq (tgt := 125) hx hb dX9_personLine_92 (by decide) (fun c92_61 => ?_) (fun c92_61 => ?_)
        · have c92_61 : r47.toInt = 0 := (cv_eq rfl (by decide)).mp c92_61
          refine lv_iconst (v := 0) hx hb dX9_personLine_125 (by decide) ?_
          have qc0 : (0 : Int32).toInt = 0 := by decide
          refine W.widen (k := 0) (n := 0) (Nat.le_of_ble_eq_true rfl) (Nat.le_of_ble_eq_true rfl) ?_
          have hP9 := hP
          have hD9 := hD
          have hK9 := (rgK9_204429a hK)
          have hf9_0 : (0 ≤ za0_7_48.toInt ∧ za0_7_48.toInt ≤ 1000) := by omega
          have hf9_1 : (0 ≤ za0_8_49.toInt ∧ za0_8_49.toInt ≤ 1000) := by omega
          have hf9_2 : vr 0 8 a0_18_f := h_a0_18_f
          have hf9_3 : ((0 : Int32) = 0 ∨ (0 : Int32) = 1) := (by decide)
          have hf9_4 : ((0 : Int32).toInt = 1 → (a0_18_f a0_17.toNatClampNeg).toInt = (a0_18_f a0_17.toNatClampNeg).toInt + 1) := fun q => absurd q (by decide)
          exact W.zret (v := 0) hx hb hr rfl (fun t ht hW => ⟨⟨0, 0, rfl, rfl, za0_7_48, za0_8_49, za0_9_50, za0_10_51, za0_11_52, za0_12_53, za0_13_54, za0_14_55, za0_15_56, za0_16_57, za0_36_10, a0_18_f, y18, y19, y20, hf9_0, hf9_1, hf9_2, hf9_3, hf9_4, atB ht hP9, va_K.moved hW.alike hK9, hD9⟩, hS.F ht⟩) hS.2.2 dX9_personLine_126
        · have c92_61 : ¬ (r47.toInt = 0) := mt (cv_eq rfl (by decide)).mpr c92_61
          refine lv_aload_n hx hb dX9_personLine_95 rfl (lv_at hl 1 rfl) ?_
          refine lv_aload_n hx hb dX9_personLine_96 rfl (lv_at hl 1 rfl) ?_
          refine va_get (D := (dC, dI)) (ci := 8) (v := .int za0_15_56) (C := RX9) (T := TX9) (N := 44) hx hb hts inlX9 hown hK hP 0 rgL10_6790d07 rfl 15 (by decide) (hts (.fieldLink RX9 253 "ClosedUntilModel" "dateHere" "I") qw_481) (fun _ h9 => h9) rfl dX9_personLine_97 ?_
          refine lv_aload_n hx hb dX9_personLine_100 rfl (lv_at hl 1 rfl) ?_
          refine va_get (D := (dC, dI)) (ci := 8) (v := .ref a0_23) (C := RX9) (T := TX9) (N := 44) hx hb hts inlX9 hown hK hP 0 rgL10_6790d07 rfl 23 (by decide) (hts (.fieldLink RX9 30 "ClosedUntilModel" "birth" "[I") qw_514) (fun _ h9 => h9) rfl dX9_personLine_101 ?_
          refine lv_iload_n hx hb dX9_personLine_104 rfl (lv_at hl 0 rfl) ?_
          refine va_iald hx hb hK hP 6 5 rgL10_d919974 rgT9_6f20d7e (vinI (by omega) (by omega)) dX9_personLine_105 ?_
          refine cst (v := (-1)) (upd_eq e_y19) ?_
          refine lv_icmp_lt (tgt := 113) hx hb dX9_personLine_106 (by decide) (fun c106_62 => ?_) (fun c106_62 => ?_)
          · have c106_62 : za0_15_56.toInt < (-1) := (cv_lt rfl (by decide)).mp c106_62
            refine lv_iconst (v := 0) hx hb dX9_personLine_113 (by decide) ?_
            refine lv_iconst (v := 4) hx hb dX9_personLine_114 (by decide) ?_
            refine lv_aload_n hx hb dX9_personLine_115 rfl (lv_at hl 1 rfl) ?_
            refine va_get (D := (dC, dI)) (ci := 8) (v := .int za0_16_57) (C := RX9) (T := TX9) (N := 44) hx hb hts inlX9 hown hK hP 0 rgL10_6790d07 rfl 16 (by decide) (hts (.fieldLink RX9 246 "ClosedUntilModel" "datePlace" "I") qw_476) (fun _ h9 => h9) rfl dX9_personLine_116 ?_
            have qc0 : (0 : Int32).toInt = 0 := by decide
            have qc4 : (4 : Int32).toInt = 4 := by decide
            have hPc := (rgP10_1d6b6a5 hP)
            have hKc := (rgK9_204429a hK)
            have hDc := (rgD10_f967a9f hD)
            have hFc := freeW hDc hS hA
            refine va_calli (va_runV (As := [.int 0, .int 4, .int za0_16_57]) (rest := []) ⟨hx, hb, hml, hown, hts⟩ (k_X9_mustAt l dC dI g H.size (a0) (0) (4) (za0_16_57) (a0_0) (a0_1) (a0_2) (a0_3) (a0_4) (a0_5) (a0_6) (za0_7_48) (za0_8_49) (za0_9_50) (za0_10_51) (za0_11_52) (za0_12_53) (za0_13_54) (za0_14_55) (za0_15_56) (za0_16_57) (a0_17) (a0_18) (a0_19) (a0_20) (a0_21) (a0_22) (a0_23) (a0_24) (a0_25) (a0_26) (a0_27) (a0_28) (a0_29) (a0_30) (a0_31) (a0_32) (a0_33) (a0_34) (a0_35) (za0_36_10) (a0_37) (a0_38) (a0_39) (a0_40) (a0_41) (a0_42) (a0_43) (by omega) (by omega) (by omega) (by omega) (by omega) (by omega) (by omega) (by omega)) (cwV 3 hts (gwV qw_418 qw_419 qw_420 qw_386 qw_417) rfl rfl rfl (by decide +kernel) ⟨Nat.le_of_ble_eq_true rfl, Nat.le_of_ble_eq_true rfl⟩) ⟨fun a U g9 mk q => ⟨q.1, q.2.1, q.2.2.1, va_K.moved (u := U) (U := U.calling g9 mk a) (Vm.Alike.refl U.vm) q.2.2.2.1, q.2.2.2.2.1, Ev.bl q.2.2.2.2.2⟩, va_recv hK hP (ci := 8) (q0 := 0) rfl rgL10_6790d07, fun U hU hW => ⟨rfl, by rw [hU], atB hU hPc, va_K.moved hW.alike hKc, hDc.weaken (fun _ _ _ _ => trivial), hE.go hS hFc hU hW⟩⟩ rfl rfl hl.1 rfl (lv_room (Nat.le_of_ble_eq_true rfl)) dX9_personLine_119 ⟨Nat.le_of_ble_eq_true rfl, Nat.le_of_ble_eq_true rfl⟩) hS (fun q _ h => hFc q h) hFc (fun r64 u63 t H1 locs ht hvm h_u63 hB hz1 hk1 hS => ?_)
            obtain ⟨za0_12_65, za0_13_66, hF67, hF68, hP1, hK1, hD1⟩ := hB
            have hK1 := va_K.moved hvm.symm hK1
            have hJ9 := rgJ10_3d4de24 hP hD hk1 hFc (atH ht hP1) hD1
            clear hP hD hPc hKc hDc hFc hP1 hD1 hk1 hz1
            obtain ⟨hP, hD⟩ := hJ9
            clear hK1
            generalize H1 = H at hP hS ⊢
            refine W.widen (k := 0) (n := 0) (Nat.le_of_ble_eq_true rfl) (Nat.le_of_ble_eq_true rfl) ?_
            have h_r64 := congrArg Int32.toInt h_u63
            have hz_r64 : r64 = 0 ∨ r64 = 1 := h_u63 ▸ hF67
            have b_r64 := z01 hz_r64
            refine cst (v := 0) (Int32.toInt_inj.mp (by rw [show (0 : Int32).toInt = 0 by decide]; omega)) ?_
            refine lv_if_ne (tgt := 127) hx hb dX9_personLine_122 (by decide) (fun c122_69 => by exfalso; exact absurd c122_69 (by decide)) (fun c122_69 => ?_)
            refine lv_iconst (v := 0) hx hb dX9_personLine_125 (by decide) ?_
            have qc0 : (0 : Int32).toInt = 0 := by decide
            refine W.widen (k := 0) (n := 0) (Nat.le_of_ble_eq_true rfl) (Nat.le_of_ble_eq_true rfl) ?_
            have hP9 := hP
            have hD9 := hD
            have hK9 := (rgK9_204429a hK)
            have hf9_0 : (0 ≤ za0_7_48.toInt ∧ za0_7_48.toInt ≤ 1000) := by omega
            have hf9_1 : (0 ≤ za0_8_49.toInt ∧ za0_8_49.toInt ≤ 1000) := by omega
            have hf9_2 : vr 0 8 a0_18_f := h_a0_18_f
            have hf9_3 : ((0 : Int32) = 0 ∨ (0 : Int32) = 1) := (by decide)
            have hf9_4 : ((0 : Int32).toInt = 1 → (a0_18_f a0_17.toNatClampNeg).toInt = (a0_18_f a0_17.toNatClampNeg).toInt + 1) := fun q => absurd q (by decide)
            exact W.zret (v := 0) hx hb hr rfl (fun t ht hW => ⟨⟨0, 0, rfl, rfl, za0_7_48, za0_8_49, za0_9_50, za0_10_51, za0_11_52, za0_12_65, za0_13_66, za0_14_55, za0_15_56, za0_16_57, za0_36_10, a0_18_f, y18, y19, y20, hf9_0, hf9_1, hf9_2, hf9_3, hf9_4, atB ht hP9, va_K.moved hW.alike hK9, hD9⟩, hS.F ht⟩) hS.2.2 dX9_personLine_126
          · have c106_62 : ¬ (za0_15_56.toInt < (-1)) := mt (cv_lt rfl (by decide)).mpr c106_62
            refine lv_iconst (v := 1) hx hb dX9_personLine_109 (by decide) ?_
            refine lv_goto (tgt := 114) hx hb dX9_personLine_110 (by decide) ?_
            refine lv_iconst (v := 4) hx hb dX9_personLine_114 (by decide) ?_
            refine lv_aload_n hx hb dX9_personLine_115 rfl (lv_at hl 1 rfl) ?_
            refine va_get (D := (dC, dI)) (ci := 8) (v := .int za0_16_57) (C := RX9) (T := TX9) (N := 44) hx hb hts inlX9 hown hK hP 0 rgL10_6790d07 rfl 16 (by decide) (hts (.fieldLink RX9 246 "ClosedUntilModel" "datePlace" "I") qw_476) (fun _ h9 => h9) rfl dX9_personLine_116 ?_
            have qc1 : (1 : Int32).toInt = 1 := by decide
            have qc4 : (4 : Int32).toInt = 4 := by decide
            have hPc := (rgP10_1d6b6a5 hP)
            have hKc := (rgK9_204429a hK)
            have hDc := (rgD10_f967a9f hD)
            have hFc := freeW hDc hS hA
            refine va_calli (va_runV (As := [.int 1, .int 4, .int za0_16_57]) (rest := []) ⟨hx, hb, hml, hown, hts⟩ (k_X9_mustAt l dC dI g H.size (a0) (1) (4) (za0_16_57) (a0_0) (a0_1) (a0_2) (a0_3) (a0_4) (a0_5) (a0_6) (za0_7_48) (za0_8_49) (za0_9_50) (za0_10_51) (za0_11_52) (za0_12_53) (za0_13_54) (za0_14_55) (za0_15_56) (za0_16_57) (a0_17) (a0_18) (a0_19) (a0_20) (a0_21) (a0_22) (a0_23) (a0_24) (a0_25) (a0_26) (a0_27) (a0_28) (a0_29) (a0_30) (a0_31) (a0_32) (a0_33) (a0_34) (a0_35) (za0_36_10) (a0_37) (a0_38) (a0_39) (a0_40) (a0_41) (a0_42) (a0_43) (by omega) (by omega) (by omega) (by omega) (by omega) (by omega) (by omega) (by omega)) (cwV 3 hts (gwV qw_418 qw_419 qw_420 qw_386 qw_417) rfl rfl rfl (by decide +kernel) ⟨Nat.le_of_ble_eq_true rfl, Nat.le_of_ble_eq_true rfl⟩) ⟨fun a U g9 mk q => ⟨q.1, q.2.1, q.2.2.1, va_K.moved (u := U) (U := U.calling g9 mk a) (Vm.Alike.refl U.vm) q.2.2.2.1, q.2.2.2.2.1, Ev.bl q.2.2.2.2.2⟩, va_recv hK hP (ci := 8) (q0 := 0) rfl rgL10_6790d07, fun U hU hW => ⟨rfl, by rw [hU], atB hU hPc, va_K.moved hW.alike hKc, hDc.weaken (fun _ _ _ _ => trivial), hE.go hS hFc hU hW⟩⟩ rfl rfl hl.1 rfl (lv_room (Nat.le_of_ble_eq_true rfl)) dX9_personLine_119 ⟨Nat.le_of_ble_eq_true rfl, Nat.le_of_ble_eq_true rfl⟩) hS (fun q _ h => hFc q h) hFc (fun r71 u70 t H1 locs ht hvm h_u70 hB hz1 hk1 hS => ?_)
            obtain ⟨za0_12_72, za0_13_73, hF74, hF75, hP1, hK1, hD1⟩ := hB
            have hK1 := va_K.moved hvm.symm hK1
            have hJ9 := rgJ10_3d4de24 hP hD hk1 hFc (atH ht hP1) hD1
            clear hP hD hPc hKc hDc hFc hP1 hD1 hk1 hz1
            obtain ⟨hP, hD⟩ := hJ9
            clear hK1
            generalize H1 = H at hP hS ⊢
            refine W.widen (k := 0) (n := 0) (Nat.le_of_ble_eq_true rfl) (Nat.le_of_ble_eq_true rfl) ?_
            have h_r71 := congrArg Int32.toInt h_u70
            have hz_r71 : r71 = 0 ∨ r71 = 1 := h_u70 ▸ hF74
            have b_r71 := z01 hz_r71
            refine lv_if_ne (tgt := 127) hx hb dX9_personLine_122 (by decide) (fun c122_76 => ?_) (fun c122_76 => ?_)
            · have c122_76 : ¬ (r71.toInt = 0) := mt (cv_eq rfl (by decide)).mpr c122_76
              refine lv_aload_n hx hb dX9_personLine_127 rfl (lv_at hl 1 rfl) ?_
              refine va_get (D := (dC, dI)) (ci := 8) (v := .ref a0_24) (C := RX9) (T := TX9) (N := 44) hx hb hts inlX9 hown hK hP 0 rgL10_6790d07 rfl 24 (by decide) (hts (.fieldLink RX9 33 "ClosedUntilModel" "death" "[I") qw_558) (fun _ h9 => h9) rfl dX9_personLine_128 ?_
              refine lv_iload_n hx hb dX9_personLine_131 rfl (lv_at hl 0 rfl) ?_
              refine lv_aload_n hx hb dX9_personLine_132 rfl (lv_at hl 1 rfl) ?_
              refine va_get (D := (dC, dI)) (ci := 8) (v := .int za0_15_56) (C := RX9) (T := TX9) (N := 44) hx hb hts inlX9 hown hK hP 0 rgL10_6790d07 rfl 15 (by decide) (hts (.fieldLink RX9 253 "ClosedUntilModel" "dateHere" "I") qw_481) (fun _ h9 => h9) rfl dX9_personLine_133 ?_
              refine va_iast hx hb hK hP hD hS 7 6 rgL10_4409b10 rgT9_4ac895f (vinI (by omega) (by omega)) dX9_personLine_136 (fun H locs hP9 hD9 hS9 => ?_)
              obtain ⟨y77, e_y77⟩ : ∃ y, (upd y20 x17.toNatClampNeg za0_15_56) = y := ⟨_, rfl⟩
              clear hP hD hS
              obtain ⟨hP, hD⟩ := rgS10_581ff44 (e := (a0_24, .inl (a0_24_c, 16, .inl y77))) hP9 hD9 (congrArg (fun z9 => (((a0_24, .inl (a0_24_c, 16, .inl z9)) : Nat × va_E))) e_y77)
              have hS := hS9; clear hP9 hD9 hS9
              refine lv_aload_n hx hb dX9_personLine_137 rfl (lv_at hl 1 rfl) ?_
              refine va_get (D := (dC, dI)) (ci := 8) (v := .ref a0_18) (C := RX9) (T := TX9) (N := 44) hx hb hts inlX9 hown hK hP 0 rgL10_6790d07 rfl 18 (by decide) (hts (.fieldLink RX9 13 "ClosedUntilModel" "people" "[I") qw_434) (fun _ h9 => h9) rfl dX9_personLine_138 ?_
              refine lv_aload_n hx hb dX9_personLine_141 rfl (lv_at hl 1 rfl) ?_
              refine va_get (D := (dC, dI)) (ci := 8) (v := .int a0_17) (C := RX9) (T := TX9) (N := 44) hx hb hts inlX9 hown hK hP 0 rgL10_6790d07 rfl 17 (by decide) (hts (.fieldLink RX9 256 "ClosedUntilModel" "bench" "I") qw_435) (fun _ h9 => h9) rfl dX9_personLine_142 ?_
              refine lv_dup2_11 hx hb dX9_personLine_145 rfl rfl ?_
              refine va_iald hx hb hK hP 2 1 rgL10_2f9faf6 rgT9_ade3714 (vinI (by omega) (by omega)) dX9_personLine_146 ?_
              refine lv_topi (fun x78 e_x78 => ?_)
              have q_x78 := congrArg Int32.toInt e_x78
              have b_x78 : 0 ≤ x78.toInt ∧ x78.toInt ≤ 8 := vr_at (lo := 0) (hi := 8) (f := a0_18_f) h_a0_18_f e_x78
              refine lv_iconst (v := 1) hx hb dX9_personLine_147 (by decide) ?_
              refine lv_iadd hx hb dX9_personLine_148 ?_
              refine lv_topi (fun x79 e_x79 => ?_)
              try have e_x79 := ti_add e_x79 rfl (show (1 : Int32).toInt = 1 by decide) (by omega)
              refine va_iast hx hb hK hP hD hS 2 1 rgL10_2f9faf6 rgT9_ade3714 (vinI (by omega) (by omega)) dX9_personLine_149 (fun H locs hP9 hD9 hS9 => ?_)
              obtain ⟨y80, e_y80⟩ : ∃ y, (upd a0_18_f a0_17.toNatClampNeg x79) = y := ⟨_, rfl⟩
              clear hP hD hS
              obtain ⟨hP, hD⟩ := rgS10_def6067 (e := (a0_18, .inl (a0_18_c, 2, .inl y80))) hP9 hD9 (congrArg (fun z9 => (((a0_18, .inl (a0_18_c, 2, .inl z9)) : Nat × va_E))) e_y80)
              have hS := hS9; clear hP9 hD9 hS9
              have b_y80 : vr 0 8 y80 := vr_upd e_y80 h_a0_18_f (by omega)
              refine lv_iconst (v := 1) hx hb dX9_personLine_150 (by decide) ?_
              have qc1 : (1 : Int32).toInt = 1 := by decide
              refine W.widen (k := 0) (n := 0) (Nat.le_of_ble_eq_true rfl) (Nat.le_of_ble_eq_true rfl) ?_
              have hP9 := hP
              have hD9 := hD
              have hK9 := (rgK9_204429a hK)
              have hf9_0 : (0 ≤ za0_7_48.toInt ∧ za0_7_48.toInt ≤ 1000) := by omega
              have hf9_1 : (0 ≤ za0_8_49.toInt ∧ za0_8_49.toInt ≤ 1000) := by omega
              have hf9_2 : vr 0 8 y80 := b_y80
              have hf9_3 : ((1 : Int32) = 0 ∨ (1 : Int32) = 1) := (by decide)
              have hf9_4 : ((1 : Int32).toInt = 1 → (y80 a0_17.toNatClampNeg).toInt = (a0_18_f a0_17.toNatClampNeg).toInt + 1) := fun _ => by rw [upd_eq e_y80]; omega
              exact W.zret (v := 1) hx hb hr rfl (fun t ht hW => ⟨⟨1, 1, rfl, rfl, za0_7_48, za0_8_49, za0_9_50, za0_10_51, za0_11_52, za0_12_72, za0_13_73, za0_14_55, za0_15_56, za0_16_57, za0_36_10, y80, y18, y19, y77, hf9_0, hf9_1, hf9_2, hf9_3, hf9_4, atB ht hP9, va_K.moved hW.alike hK9, hD9⟩, hS.F ht⟩) hS.2.2 dX9_personLine_151
            · have c122_76 : r71.toInt = 0 := (cv_eq rfl (by decide)).mp c122_76
              refine lv_iconst (v := 0) hx hb dX9_personLine_125 (by decide) ?_
              have qc0 : (0 : Int32).toInt = 0 := by decide
              refine W.widen (k := 0) (n := 0) (Nat.le_of_ble_eq_true rfl) (Nat.le_of_ble_eq_true rfl) ?_
              have hP9 := hP
              have hD9 := hD
              have hK9 := (rgK9_204429a hK)
              have hf9_0 : (0 ≤ za0_7_48.toInt ∧ za0_7_48.toInt ≤ 1000) := by omega
              have hf9_1 : (0 ≤ za0_8_49.toInt ∧ za0_8_49.toInt ≤ 1000) := by omega
              have hf9_2 : vr 0 8 a0_18_f := h_a0_18_f
              have hf9_3 : ((0 : Int32) = 0 ∨ (0 : Int32) = 1) := (by decide)
              have hf9_4 : ((0 : Int32).toInt = 1 → (a0_18_f a0_17.toNatClampNeg).toInt = (a0_18_f a0_17.toNatClampNeg).toInt + 1) := fun q => absurd q (by decide)
              exact W.zret (v := 0) hx hb hr rfl (fun t ht hW => ⟨⟨0, 0, rfl, rfl, za0_7_48, za0_8_49, za0_9_50, za0_10_51, za0_11_52, za0_12_72, za0_13_73, za0_14_55, za0_15_56, za0_16_57, za0_36_10, a0_18_f, y18, y19, y20, hf9_0, hf9_1, hf9_2, hf9_3, hf9_4, atB ht hP9, va_K.moved hW.alike hK9, hD9⟩, hS.F ht⟩) hS.2.2 dX9_personLine_126
    · have c57_31 : ¬ (r22.toInt = 0) := mt (cv_eq rfl (by decide)).mpr c57_31
      refine lv_aload_n hx hb dX9_personLine_60 rfl (lv_at hl 1 rfl) ?_
      have hPc := (rgP10_daf6d47 hP)
      have hKc := (rgK9_3121138 hK)
      have hDc := (rgD10_656c2a0 hD)
      have hFc := freeW hDc hS hA
      refine va_calli (va_runV (As := []) (rest := []) ⟨hx, hb, hml, hown, hts⟩ (k_X9_takesDate l dC dI g H.size (a0) (a0_0) (a0_1) (a0_2) (a0_3) (a0_4) (a0_5) (a0_6) (za0_7_23) (za0_8_24) (za0_9_25) (za0_10_26) (za0_11_27) (za0_12_8) (za0_13_9) (a0_14) (a0_15) (a0_16) (a0_17) (a0_18) (a0_19) (a0_20) (a0_21) (a0_22) (a0_23) (a0_24) (a0_25) (a0_26) (a0_27) (a0_28) (a0_29) (a0_30) (a0_31) (a0_32) (a0_33) (a0_34) (a0_35) (za0_36_10) (a0_37) (a0_38) (a0_39) (a0_40) (a0_41) (a0_42) (a0_43) (a0_4_c) (a0_4_f) (by omega) (by omega) (by omega) (by omega) (by omega) (by omega) (by omega)) (cwV 0 hts (gwV qw_564 qw_565 qw_566 qw_386 qw_563) rfl rfl rfl (by decide +kernel) ⟨Nat.le_of_ble_eq_true rfl, Nat.le_of_ble_eq_true rfl⟩) ⟨fun a U g9 mk q => ⟨q.1, q.2.1, q.2.2.1, va_K.moved (u := U) (U := U.calling g9 mk a) (Vm.Alike.refl U.vm) q.2.2.2.1, q.2.2.2.2.1, Ev.bl q.2.2.2.2.2⟩, va_recv hK hP (ci := 8) (q0 := 0) rfl rgL10_6790d07, fun U hU hW => ⟨rfl, by rw [hU], atB hU hPc, va_K.moved hW.alike hKc, hDc.weaken (fun _ _ _ _ => trivial), hE.go hS hFc hU hW⟩⟩ rfl rfl hl.1 rfl (lv_room (Nat.le_of_ble_eq_true rfl)) dX9_personLine_61 ⟨Nat.le_of_ble_eq_true rfl, Nat.le_of_ble_eq_true rfl⟩) hS (fun q _ h => hFc q h) hFc (fun r82 u81 t H1 locs ht hvm h_u81 hB hz1 hk1 hS => ?_)
      obtain ⟨za0_7_83, za0_8_84, za0_9_85, za0_10_86, za0_11_87, za0_12_88, za0_13_89, za0_14_90, za0_15_91, za0_16_92, hF93, hF94, hF95, hP1, hK1, hD1⟩ := hB
      have hK1 := va_K.moved hvm.symm hK1
      have hJ9 := rgJ10_b6543c6 hP hD hk1 hFc (atH ht hP1) hD1
      clear hP hD hPc hKc hDc hFc hP1 hD1 hk1 hz1
      obtain ⟨hP, hD⟩ := hJ9
      clear hK1
      generalize H1 = H at hP hS ⊢
      refine W.widen (k := 0) (n := 0) (Nat.le_of_ble_eq_true rfl) (Nat.le_of_ble_eq_true rfl) ?_
      have h_r82 := congrArg Int32.toInt h_u81
      have hz_r82 : r82 = 0 ∨ r82 = 1 := h_u81 ▸ hF95
      have b_r82 := z01 hz_r82
      refine lv_if_ne (tgt := 69) hx hb dX9_personLine_64 (by decide) (fun c64_96 => ?_) (fun c64_96 => ?_)
      · have c64_96 : ¬ (r82.toInt = 0) := mt (cv_eq rfl (by decide)).mpr c64_96
        refine lv_aload_n hx hb dX9_personLine_69 rfl (lv_at hl 1 rfl) ?_
        refine va_get (D := (dC, dI)) (ci := 8) (v := .ref a0_23) (C := RX9) (T := TX9) (N := 44) hx hb hts inlX9 hown hK hP 0 rgL10_6790d07 rfl 23 (by decide) (hts (.fieldLink RX9 30 "ClosedUntilModel" "birth" "[I") qw_514) (fun _ h9 => h9) rfl dX9_personLine_70 ?_
        refine lv_iload_n hx hb dX9_personLine_73 rfl (lv_at hl 0 rfl) ?_
        refine lv_aload_n hx hb dX9_personLine_74 rfl (lv_at hl 1 rfl) ?_
        refine va_get (D := (dC, dI)) (ci := 8) (v := .int za0_15_91) (C := RX9) (T := TX9) (N := 44) hx hb hts inlX9 hown hK hP 0 rgL10_6790d07 rfl 15 (by decide) (hts (.fieldLink RX9 253 "ClosedUntilModel" "dateHere" "I") qw_481) (fun _ h9 => h9) rfl dX9_personLine_75 ?_
        refine va_iast hx hb hK hP hD hS 6 5 rgL10_d919974 rgT9_6f20d7e (vinI (by omega) (by omega)) dX9_personLine_78 (fun H locs hP9 hD9 hS9 => ?_)
        obtain ⟨y97, e_y97⟩ : ∃ y, (upd y19 x17.toNatClampNeg za0_15_91) = y := ⟨_, rfl⟩
        clear hP hD hS
        obtain ⟨hP, hD⟩ := rgS10_4d793eb (e := (a0_23, .inl (a0_23_c, 16, .inl y97))) hP9 hD9 (congrArg (fun z9 => (((a0_23, .inl (a0_23_c, 16, .inl z9)) : Nat × va_E))) e_y97)
        have hS := hS9; clear hP9 hD9 hS9
        refine lv_aload_n hx hb dX9_personLine_79 rfl (lv_at hl 1 rfl) ?_
        refine va_ldcS hx hb hown (show vk_R RX9 213 "died" (g.2.2.2.2.2.1 2) s from hE.2.2.2.2.2.2.2.2.2.2.2.2.2.2.2.2 2 (by decide)) dX9_personLine_80 ?_
        have hPc := (rgP10_daf6d47 hP)
        have hKc := (rgK9_3121138 hK)
        have hDc := (rgD10_656c2a0 hD)
        have hFc := freeW hDc hS hA
        refine va_calli (va_runV (As := [.ref (g.2.2.2.2.2.1 2)]) (rest := []) ⟨hx, hb, hml, hown, hts⟩ (k_X9_takes l dC dI g H.size (a0) (2) (a0_0) (a0_1) (a0_2) (a0_3) (a0_4) (a0_5) (a0_6) (za0_7_83) (za0_8_84) (za0_9_85) (za0_10_86) (za0_11_87) (za0_12_88) (za0_13_89) (za0_14_90) (za0_15_91) (za0_16_92) (a0_17) (a0_18) (a0_19) (a0_20) (a0_21) (a0_22) (a0_23) (a0_24) (a0_25) (a0_26) (a0_27) (a0_28) (a0_29) (a0_30) (a0_31) (a0_32) (a0_33) (a0_34) (a0_35) (za0_36_10) (a0_37) (a0_38) (a0_39) (a0_40) (a0_41) (a0_42) (a0_43) (a0_4_c) (a0_4_f) (by omega) (by omega) (by omega) (by omega) (by omega) (by omega) (by omega) (by first | assumption | decide)) (cwV 1 hts (gwV qw_560 qw_561 qw_562 qw_386 qw_559) rfl rfl rfl (by decide +kernel) ⟨Nat.le_of_ble_eq_true rfl, Nat.le_of_ble_eq_true rfl⟩) ⟨fun a U g9 mk q => ⟨q.1, q.2.1, q.2.2.1, va_K.moved (u := U) (U := U.calling g9 mk a) (Vm.Alike.refl U.vm) q.2.2.2.1, q.2.2.2.2.1, Ev.bl q.2.2.2.2.2⟩, va_recv hK hP (ci := 8) (q0 := 0) rfl rgL10_6790d07, fun U hU hW => ⟨rfl, by rw [hU], atB hU hPc, va_K.moved hW.alike hKc, hDc.weaken (fun _ _ _ _ => trivial), hE.go hS hFc hU hW⟩⟩ rfl rfl hl.1 rfl (lv_room (Nat.le_of_ble_eq_true rfl)) dX9_personLine_82 ⟨Nat.le_of_ble_eq_true rfl, Nat.le_of_ble_eq_true rfl⟩) hS (fun q _ h => hFc q h) hFc (fun r99 u98 t H1 locs ht hvm h_u98 hB hz1 hk1 hS => ?_)
        obtain ⟨za0_7_100, za0_8_101, za0_9_102, za0_10_103, za0_11_104, hF105, hF106, hF107, hP1, hK1, hD1⟩ := hB
        have hK1 := va_K.moved hvm.symm hK1
        have hJ9 := rgJ10_b6543c6 hP hD hk1 hFc (atH ht hP1) hD1
        clear hP hD hPc hKc hDc hFc hP1 hD1 hk1 hz1
        obtain ⟨hP, hD⟩ := hJ9
        clear hK1
        generalize H1 = H at hP hS ⊢
        refine W.widen (k := 0) (n := 0) (Nat.le_of_ble_eq_true rfl) (Nat.le_of_ble_eq_true rfl) ?_
        have h_r99 := congrArg Int32.toInt h_u98
        have hz_r99 : r99 = 0 ∨ r99 = 1 := h_u98 ▸ hF107
        have b_r99 := z01 hz_r99
        refine lv_if_eq (tgt := 137) hx hb dX9_personLine_85 (by decide) (fun c85_108 => ?_) (fun c85_108 => ?_)
        · have c85_108 : r99.toInt = 0 := (cv_eq rfl (by decide)).mp c85_108
          refine lv_aload_n hx hb dX9_personLine_137 rfl (lv_at hl 1 rfl) ?_
          refine va_get (D := (dC, dI)) (ci := 8) (v := .ref a0_18) (C := RX9) (T := TX9) (N := 44) hx hb hts inlX9 hown hK hP 0 rgL10_6790d07 rfl 18 (by decide) (hts (.fieldLink RX9 13 "ClosedUntilModel" "people" "[I") qw_434) (fun _ h9 => h9) rfl dX9_personLine_138 ?_
          refine lv_aload_n hx hb dX9_personLine_141 rfl (lv_at hl 1 rfl) ?_
          refine va_get (D := (dC, dI)) (ci := 8) (v := .int a0_17) (C := RX9) (T := TX9) (N := 44) hx hb hts inlX9 hown hK hP 0 rgL10_6790d07 rfl 17 (by decide) (hts (.fieldLink RX9 256 "ClosedUntilModel" "bench" "I") qw_435) (fun _ h9 => h9) rfl dX9_personLine_142 ?_
          refine lv_dup2_11 hx hb dX9_personLine_145 rfl rfl ?_
          refine va_iald hx hb hK hP 2 1 rgL10_2f9faf6 rgT9_ade3714 (vinI (by omega) (by omega)) dX9_personLine_146 ?_
          refine lv_topi (fun x109 e_x109 => ?_)
          have q_x109 := congrArg Int32.toInt e_x109
          have b_x109 : 0 ≤ x109.toInt ∧ x109.toInt ≤ 8 := vr_at (lo := 0) (hi := 8) (f := a0_18_f) h_a0_18_f e_x109
          refine lv_iconst (v := 1) hx hb dX9_personLine_147 (by decide) ?_
          refine lv_iadd hx hb dX9_personLine_148 ?_
          refine lv_topi (fun x110 e_x110 => ?_)
          try have e_x110 := ti_add e_x110 rfl (show (1 : Int32).toInt = 1 by decide) (by omega)
          refine va_iast hx hb hK hP hD hS 2 1 rgL10_2f9faf6 rgT9_ade3714 (vinI (by omega) (by omega)) dX9_personLine_149 (fun H locs hP9 hD9 hS9 => ?_)
          obtain ⟨y111, e_y111⟩ : ∃ y, (upd a0_18_f a0_17.toNatClampNeg x110) = y := ⟨_, rfl⟩
          clear hP hD hS
          obtain ⟨hP, hD⟩ := rgS10_def6067 (e := (a0_18, .inl (a0_18_c, 2, .inl y111))) hP9 hD9 (congrArg (fun z9 => (((a0_18, .inl (a0_18_c, 2, .inl z9)) : Nat × va_E))) e_y111)
          have hS := hS9; clear hP9 hD9 hS9
          have b_y111 : vr 0 8 y111 := vr_upd e_y111 h_a0_18_f (by omega)
          refine lv_iconst (v := 1) hx hb dX9_personLine_150 (by decide) ?_
          have qc1 : (1 : Int32).toInt = 1 := by decide
          refine W.widen (k := 0) (n := 0) (Nat.le_of_ble_eq_true rfl) (Nat.le_of_ble_eq_true rfl) ?_
          have hP9 := hP
          have hD9 := hD
          have hK9 := (rgK9_204429a hK)
          have hf9_0 : (0 ≤ za0_7_100.toInt ∧ za0_7_100.toInt ≤ 1000) := by omega
          have hf9_1 : (0 ≤ za0_8_101.toInt ∧ za0_8_101.toInt ≤ 1000) := by omega
          have hf9_2 : vr 0 8 y111 := b_y111
          have hf9_3 : ((1 : Int32) = 0 ∨ (1 : Int32) = 1) := (by decide)
          have hf9_4 : ((1 : Int32).toInt = 1 → (y111 a0_17.toNatClampNeg).toInt = (a0_18_f a0_17.toNatClampNeg).toInt + 1) := fun _ => by rw [upd_eq e_y111]; omega
          exact W.zret (v := 1) hx hb hr rfl (fun t ht hW => ⟨⟨1, 1, rfl, rfl, za0_7_100, za0_8_101, za0_9_102, za0_10_103, za0_11_104, za0_12_88, za0_13_89, za0_14_90, za0_15_91, za0_16_92, za0_36_10, y111, y18, y97, y20, hf9_0, hf9_1, hf9_2, hf9_3, hf9_4, atB ht hP9, va_K.moved hW.alike hK9, hD9⟩, hS.F ht⟩) hS.2.2 dX9_personLine_151
        · have c85_108 : ¬ (r99.toInt = 0) := mt (cv_eq rfl (by decide)).mpr c85_108
          refine lv_aload_n hx hb dX9_personLine_88 rfl (lv_at hl 1 rfl) ?_
          have hPc := (rgP10_daf6d47 hP)
          have hKc := (rgK9_3121138 hK)
          have hDc := (rgD10_656c2a0 hD)
          have hFc := freeW hDc hS hA
          refine va_calli (va_runV (As := []) (rest := []) ⟨hx, hb, hml, hown, hts⟩ (k_X9_takesDate l dC dI g H.size (a0) (a0_0) (a0_1) (a0_2) (a0_3) (a0_4) (a0_5) (a0_6) (za0_7_100) (za0_8_101) (za0_9_102) (za0_10_103) (za0_11_104) (za0_12_88) (za0_13_89) (za0_14_90) (za0_15_91) (za0_16_92) (a0_17) (a0_18) (a0_19) (a0_20) (a0_21) (a0_22) (a0_23) (a0_24) (a0_25) (a0_26) (a0_27) (a0_28) (a0_29) (a0_30) (a0_31) (a0_32) (a0_33) (a0_34) (a0_35) (za0_36_10) (a0_37) (a0_38) (a0_39) (a0_40) (a0_41) (a0_42) (a0_43) (a0_4_c) (a0_4_f) (by omega) (by omega) (by omega) (by omega) (by omega) (by omega) (by omega)) (cwV 0 hts (gwV qw_564 qw_565 qw_566 qw_386 qw_563) rfl rfl rfl (by decide +kernel) ⟨Nat.le_of_ble_eq_true rfl, Nat.le_of_ble_eq_true rfl⟩) ⟨fun a U g9 mk q => ⟨q.1, q.2.1, q.2.2.1, va_K.moved (u := U) (U := U.calling g9 mk a) (Vm.Alike.refl U.vm) q.2.2.2.1, q.2.2.2.2.1, Ev.bl q.2.2.2.2.2⟩, va_recv hK hP (ci := 8) (q0 := 0) rfl rgL10_6790d07, fun U hU hW => ⟨rfl, by rw [hU], atB hU hPc, va_K.moved hW.alike hKc, hDc.weaken (fun _ _ _ _ => trivial), hE.go hS hFc hU hW⟩⟩ rfl rfl hl.1 rfl (lv_room (Nat.le_of_ble_eq_true rfl)) dX9_personLine_89 ⟨Nat.le_of_ble_eq_true rfl, Nat.le_of_ble_eq_true rfl⟩) hS (fun q _ h => hFc q h) hFc (fun r113 u112 t H1 locs ht hvm h_u112 hB hz1 hk1 hS => ?_)
          obtain ⟨za0_7_114, za0_8_115, za0_9_116, za0_10_117, za0_11_118, za0_12_119, za0_13_120, za0_14_121, za0_15_122, za0_16_123, hF124, hF125, hF126, hP1, hK1, hD1⟩ := hB
          have hK1 := va_K.moved hvm.symm hK1
          have hJ9 := rgJ10_b6543c6 hP hD hk1 hFc (atH ht hP1) hD1
          clear hP hD hPc hKc hDc hFc hP1 hD1 hk1 hz1
          obtain ⟨hP, hD⟩ := hJ9
          clear hK1
          generalize H1 = H at hP hS ⊢
          refine W.widen (k := 0) (n := 0) (Nat.le_of_ble_eq_true rfl) (Nat.le_of_ble_eq_true rfl) ?_
          have h_r113 := congrArg Int32.toInt h_u112
          have hz_r113 : r113 = 0 ∨ r113 = 1 := h_u112 ▸ hF126
          have b_r113 := z01 hz_r113
          refine lv_if_eq (tgt := 125) hx hb dX9_personLine_92 (by decide) (fun c92_127 => ?_) (fun c92_127 => ?_)
          · have c92_127 : r113.toInt = 0 := (cv_eq rfl (by decide)).mp c92_127
            refine lv_iconst (v := 0) hx hb dX9_personLine_125 (by decide) ?_
            have qc0 : (0 : Int32).toInt = 0 := by decide
            refine W.widen (k := 0) (n := 0) (Nat.le_of_ble_eq_true rfl) (Nat.le_of_ble_eq_true rfl) ?_
            have hP9 := hP
            have hD9 := hD
            have hK9 := (rgK9_204429a hK)
            have hf9_0 : (0 ≤ za0_7_114.toInt ∧ za0_7_114.toInt ≤ 1000) := by omega
            have hf9_1 : (0 ≤ za0_8_115.toInt ∧ za0_8_115.toInt ≤ 1000) := by omega
            have hf9_2 : vr 0 8 a0_18_f := h_a0_18_f
            have hf9_3 : ((0 : Int32) = 0 ∨ (0 : Int32) = 1) := (by decide)
            have hf9_4 : ((0 : Int32).toInt = 1 → (a0_18_f a0_17.toNatClampNeg).toInt = (a0_18_f a0_17.toNatClampNeg).toInt + 1) := fun q => absurd q (by decide)
            exact W.zret (v := 0) hx hb hr rfl (fun t ht hW => ⟨⟨0, 0, rfl, rfl, za0_7_114, za0_8_115, za0_9_116, za0_10_117, za0_11_118, za0_12_119, za0_13_120, za0_14_121, za0_15_122, za0_16_123, za0_36_10, a0_18_f, y18, y97, y20, hf9_0, hf9_1, hf9_2, hf9_3, hf9_4, atB ht hP9, va_K.moved hW.alike hK9, hD9⟩, hS.F ht⟩) hS.2.2 dX9_personLine_126
          · have c92_127 : ¬ (r113.toInt = 0) := mt (cv_eq rfl (by decide)).mpr c92_127
            refine lv_aload_n hx hb dX9_personLine_95 rfl (lv_at hl 1 rfl) ?_
            refine lv_aload_n hx hb dX9_personLine_96 rfl (lv_at hl 1 rfl) ?_
            refine va_get (D := (dC, dI)) (ci := 8) (v := .int za0_15_122) (C := RX9) (T := TX9) (N := 44) hx hb hts inlX9 hown hK hP 0 rgL10_6790d07 rfl 15 (by decide) (hts (.fieldLink RX9 253 "ClosedUntilModel" "dateHere" "I") qw_481) (fun _ h9 => h9) rfl dX9_personLine_97 ?_
            refine lv_aload_n hx hb dX9_personLine_100 rfl (lv_at hl 1 rfl) ?_
            refine va_get (D := (dC, dI)) (ci := 8) (v := .ref a0_23) (C := RX9) (T := TX9) (N := 44) hx hb hts inlX9 hown hK hP 0 rgL10_6790d07 rfl 23 (by decide) (hts (.fieldLink RX9 30 "ClosedUntilModel" "birth" "[I") qw_514) (fun _ h9 => h9) rfl dX9_personLine_101 ?_
            refine lv_iload_n hx hb dX9_personLine_104 rfl (lv_at hl 0 rfl) ?_
            refine va_iald hx hb hK hP 6 5 rgL10_d919974 rgT9_6f20d7e (vinI (by omega) (by omega)) dX9_personLine_105 ?_
            refine cst (v := za0_15_91) (upd_eq e_y97) ?_
            refine lv_icmp_lt (tgt := 113) hx hb dX9_personLine_106 (by decide) (fun c106_128 => ?_) (fun c106_128 => ?_)
            · have c106_128 : za0_15_122.toInt < za0_15_91.toInt := (cv_lt rfl rfl).mp c106_128
              refine lv_iconst (v := 0) hx hb dX9_personLine_113 (by decide) ?_
              refine lv_iconst (v := 4) hx hb dX9_personLine_114 (by decide) ?_
              refine lv_aload_n hx hb dX9_personLine_115 rfl (lv_at hl 1 rfl) ?_
              refine va_get (D := (dC, dI)) (ci := 8) (v := .int za0_16_123) (C := RX9) (T := TX9) (N := 44) hx hb hts inlX9 hown hK hP 0 rgL10_6790d07 rfl 16 (by decide) (hts (.fieldLink RX9 246 "ClosedUntilModel" "datePlace" "I") qw_476) (fun _ h9 => h9) rfl dX9_personLine_116 ?_
              have qc0 : (0 : Int32).toInt = 0 := by decide
              have qc4 : (4 : Int32).toInt = 4 := by decide
              have hPc := (rgP10_1d6b6a5 hP)
              have hKc := (rgK9_204429a hK)
              have hDc := (rgD10_f967a9f hD)
              have hFc := freeW hDc hS hA
              refine va_calli (va_runV (As := [.int 0, .int 4, .int za0_16_123]) (rest := []) ⟨hx, hb, hml, hown, hts⟩ (k_X9_mustAt l dC dI g H.size (a0) (0) (4) (za0_16_123) (a0_0) (a0_1) (a0_2) (a0_3) (a0_4) (a0_5) (a0_6) (za0_7_114) (za0_8_115) (za0_9_116) (za0_10_117) (za0_11_118) (za0_12_119) (za0_13_120) (za0_14_121) (za0_15_122) (za0_16_123) (a0_17) (a0_18) (a0_19) (a0_20) (a0_21) (a0_22) (a0_23) (a0_24) (a0_25) (a0_26) (a0_27) (a0_28) (a0_29) (a0_30) (a0_31) (a0_32) (a0_33) (a0_34) (a0_35) (za0_36_10) (a0_37) (a0_38) (a0_39) (a0_40) (a0_41) (a0_42) (a0_43) (by omega) (by omega) (by omega) (by omega) (by omega) (by omega) (by omega) (by omega)) (cwV 3 hts (gwV qw_418 qw_419 qw_420 qw_386 qw_417) rfl rfl rfl (by decide +kernel) ⟨Nat.le_of_ble_eq_true rfl, Nat.le_of_ble_eq_true rfl⟩) ⟨fun a U g9 mk q => ⟨q.1, q.2.1, q.2.2.1, va_K.moved (u := U) (U := U.calling g9 mk a) (Vm.Alike.refl U.vm) q.2.2.2.1, q.2.2.2.2.1, Ev.bl q.2.2.2.2.2⟩, va_recv hK hP (ci := 8) (q0 := 0) rfl rgL10_6790d07, fun U hU hW => ⟨rfl, by rw [hU], atB hU hPc, va_K.moved hW.alike hKc, hDc.weaken (fun _ _ _ _ => trivial), hE.go hS hFc hU hW⟩⟩ rfl rfl hl.1 rfl (lv_room (Nat.le_of_ble_eq_true rfl)) dX9_personLine_119 ⟨Nat.le_of_ble_eq_true rfl, Nat.le_of_ble_eq_true rfl⟩) hS (fun q _ h => hFc q h) hFc (fun r130 u129 t H1 locs ht hvm h_u129 hB hz1 hk1 hS => ?_)
              obtain ⟨za0_12_131, za0_13_132, hF133, hF134, hP1, hK1, hD1⟩ := hB
              have hK1 := va_K.moved hvm.symm hK1
              have hJ9 := rgJ10_3d4de24 hP hD hk1 hFc (atH ht hP1) hD1
              clear hP hD hPc hKc hDc hFc hP1 hD1 hk1 hz1
              obtain ⟨hP, hD⟩ := hJ9
              clear hK1
              generalize H1 = H at hP hS ⊢
              refine W.widen (k := 0) (n := 0) (Nat.le_of_ble_eq_true rfl) (Nat.le_of_ble_eq_true rfl) ?_
              have h_r130 := congrArg Int32.toInt h_u129
              have hz_r130 : r130 = 0 ∨ r130 = 1 := h_u129 ▸ hF133
              have b_r130 := z01 hz_r130
              refine cst (v := 0) (Int32.toInt_inj.mp (by rw [show (0 : Int32).toInt = 0 by decide]; omega)) ?_
              refine lv_if_ne (tgt := 127) hx hb dX9_personLine_122 (by decide) (fun c122_135 => by exfalso; exact absurd c122_135 (by decide)) (fun c122_135 => ?_)
              refine lv_iconst (v := 0) hx hb dX9_personLine_125 (by decide) ?_
              have qc0 : (0 : Int32).toInt = 0 := by decide
              refine W.widen (k := 0) (n := 0) (Nat.le_of_ble_eq_true rfl) (Nat.le_of_ble_eq_true rfl) ?_
              have hP9 := hP
              have hD9 := hD
              have hK9 := (rgK9_204429a hK)
              have hf9_0 : (0 ≤ za0_7_114.toInt ∧ za0_7_114.toInt ≤ 1000) := by omega
              have hf9_1 : (0 ≤ za0_8_115.toInt ∧ za0_8_115.toInt ≤ 1000) := by omega
              have hf9_2 : vr 0 8 a0_18_f := h_a0_18_f
              have hf9_3 : ((0 : Int32) = 0 ∨ (0 : Int32) = 1) := (by decide)
              have hf9_4 : ((0 : Int32).toInt = 1 → (a0_18_f a0_17.toNatClampNeg).toInt = (a0_18_f a0_17.toNatClampNeg).toInt + 1) := fun q => absurd q (by decide)
              exact W.zret (v := 0) hx hb hr rfl (fun t ht hW => ⟨⟨0, 0, rfl, rfl, za0_7_114, za0_8_115, za0_9_116, za0_10_117, za0_11_118, za0_12_131, za0_13_132, za0_14_121, za0_15_122, za0_16_123, za0_36_10, a0_18_f, y18, y97, y20, hf9_0, hf9_1, hf9_2, hf9_3, hf9_4, atB ht hP9, va_K.moved hW.alike hK9, hD9⟩, hS.F ht⟩) hS.2.2 dX9_personLine_126
            · have c106_128 : ¬ (za0_15_122.toInt < za0_15_91.toInt) := mt (cv_lt rfl rfl).mpr c106_128
              refine lv_iconst (v := 1) hx hb dX9_personLine_109 (by decide) ?_
              refine lv_goto (tgt := 114) hx hb dX9_personLine_110 (by decide) ?_
              refine lv_iconst (v := 4) hx hb dX9_personLine_114 (by decide) ?_
              refine lv_aload_n hx hb dX9_personLine_115 rfl (lv_at hl 1 rfl) ?_
              refine va_get (D := (dC, dI)) (ci := 8) (v := .int za0_16_123) (C := RX9) (T := TX9) (N := 44) hx hb hts inlX9 hown hK hP 0 rgL10_6790d07 rfl 16 (by decide) (hts (.fieldLink RX9 246 "ClosedUntilModel" "datePlace" "I") qw_476) (fun _ h9 => h9) rfl dX9_personLine_116 ?_
              have qc1 : (1 : Int32).toInt = 1 := by decide
              have qc4 : (4 : Int32).toInt = 4 := by decide
              have hPc := (rgP10_1d6b6a5 hP)
              have hKc := (rgK9_204429a hK)
              have hDc := (rgD10_f967a9f hD)
              have hFc := freeW hDc hS hA
              refine va_calli (va_runV (As := [.int 1, .int 4, .int za0_16_123]) (rest := []) ⟨hx, hb, hml, hown, hts⟩ (k_X9_mustAt l dC dI g H.size (a0) (1) (4) (za0_16_123) (a0_0) (a0_1) (a0_2) (a0_3) (a0_4) (a0_5) (a0_6) (za0_7_114) (za0_8_115) (za0_9_116) (za0_10_117) (za0_11_118) (za0_12_119) (za0_13_120) (za0_14_121) (za0_15_122) (za0_16_123) (a0_17) (a0_18) (a0_19) (a0_20) (a0_21) (a0_22) (a0_23) (a0_24) (a0_25) (a0_26) (a0_27) (a0_28) (a0_29) (a0_30) (a0_31) (a0_32) (a0_33) (a0_34) (a0_35) (za0_36_10) (a0_37) (a0_38) (a0_39) (a0_40) (a0_41) (a0_42) (a0_43) (by omega) (by omega) (by omega) (by omega) (by omega) (by omega) (by omega) (by omega)) (cwV 3 hts (gwV qw_418 qw_419 qw_420 qw_386 qw_417) rfl rfl rfl (by decide +kernel) ⟨Nat.le_of_ble_eq_true rfl, Nat.le_of_ble_eq_true rfl⟩) ⟨fun a U g9 mk q => ⟨q.1, q.2.1, q.2.2.1, va_K.moved (u := U) (U := U.calling g9 mk a) (Vm.Alike.refl U.vm) q.2.2.2.1, q.2.2.2.2.1, Ev.bl q.2.2.2.2.2⟩, va_recv hK hP (ci := 8) (q0 := 0) rfl rgL10_6790d07, fun U hU hW => ⟨rfl, by rw [hU], atB hU hPc, va_K.moved hW.alike hKc, hDc.weaken (fun _ _ _ _ => trivial), hE.go hS hFc hU hW⟩⟩ rfl rfl hl.1 rfl (lv_room (Nat.le_of_ble_eq_true rfl)) dX9_personLine_119 ⟨Nat.le_of_ble_eq_true rfl, Nat.le_of_ble_eq_true rfl⟩) hS (fun q _ h => hFc q h) hFc (fun r137 u136 t H1 locs ht hvm h_u136 hB hz1 hk1 hS => ?_)
              obtain ⟨za0_12_138, za0_13_139, hF140, hF141, hP1, hK1, hD1⟩ := hB
              have hK1 := va_K.moved hvm.symm hK1
              have hJ9 := rgJ10_3d4de24 hP hD hk1 hFc (atH ht hP1) hD1
              clear hP hD hPc hKc hDc hFc hP1 hD1 hk1 hz1
              obtain ⟨hP, hD⟩ := hJ9
              clear hK1
              generalize H1 = H at hP hS ⊢
              refine W.widen (k := 0) (n := 0) (Nat.le_of_ble_eq_true rfl) (Nat.le_of_ble_eq_true rfl) ?_
              have h_r137 := congrArg Int32.toInt h_u136
              have hz_r137 : r137 = 0 ∨ r137 = 1 := h_u136 ▸ hF140
              have b_r137 := z01 hz_r137
              refine lv_if_ne (tgt := 127) hx hb dX9_personLine_122 (by decide) (fun c122_142 => ?_) (fun c122_142 => ?_)
              · have c122_142 : ¬ (r137.toInt = 0) := mt (cv_eq rfl (by decide)).mpr c122_142
                refine lv_aload_n hx hb dX9_personLine_127 rfl (lv_at hl 1 rfl) ?_
                refine va_get (D := (dC, dI)) (ci := 8) (v := .ref a0_24) (C := RX9) (T := TX9) (N := 44) hx hb hts inlX9 hown hK hP 0 rgL10_6790d07 rfl 24 (by decide) (hts (.fieldLink RX9 33 "ClosedUntilModel" "death" "[I") qw_558) (fun _ h9 => h9) rfl dX9_personLine_128 ?_
                refine lv_iload_n hx hb dX9_personLine_131 rfl (lv_at hl 0 rfl) ?_
                refine lv_aload_n hx hb dX9_personLine_132 rfl (lv_at hl 1 rfl) ?_
                refine va_get (D := (dC, dI)) (ci := 8) (v := .int za0_15_122) (C := RX9) (T := TX9) (N := 44) hx hb hts inlX9 hown hK hP 0 rgL10_6790d07 rfl 15 (by decide) (hts (.fieldLink RX9 253 "ClosedUntilModel" "dateHere" "I") qw_481) (fun _ h9 => h9) rfl dX9_personLine_133 ?_
                refine va_iast hx hb hK hP hD hS 7 6 rgL10_4409b10 rgT9_4ac895f (vinI (by omega) (by omega)) dX9_personLine_136 (fun H locs hP9 hD9 hS9 => ?_)
                obtain ⟨y143, e_y143⟩ : ∃ y, (upd y20 x17.toNatClampNeg za0_15_122) = y := ⟨_, rfl⟩
                clear hP hD hS
                obtain ⟨hP, hD⟩ := rgS10_581ff44 (e := (a0_24, .inl (a0_24_c, 16, .inl y143))) hP9 hD9 (congrArg (fun z9 => (((a0_24, .inl (a0_24_c, 16, .inl z9)) : Nat × va_E))) e_y143)
                have hS := hS9; clear hP9 hD9 hS9
                refine lv_aload_n hx hb dX9_personLine_137 rfl (lv_at hl 1 rfl) ?_
                refine va_get (D := (dC, dI)) (ci := 8) (v := .ref a0_18) (C := RX9) (T := TX9) (N := 44) hx hb hts inlX9 hown hK hP 0 rgL10_6790d07 rfl 18 (by decide) (hts (.fieldLink RX9 13 "ClosedUntilModel" "people" "[I") qw_434) (fun _ h9 => h9) rfl dX9_personLine_138 ?_
                refine lv_aload_n hx hb dX9_personLine_141 rfl (lv_at hl 1 rfl) ?_
                refine va_get (D := (dC, dI)) (ci := 8) (v := .int a0_17) (C := RX9) (T := TX9) (N := 44) hx hb hts inlX9 hown hK hP 0 rgL10_6790d07 rfl 17 (by decide) (hts (.fieldLink RX9 256 "ClosedUntilModel" "bench" "I") qw_435) (fun _ h9 => h9) rfl dX9_personLine_142 ?_
                refine lv_dup2_11 hx hb dX9_personLine_145 rfl rfl ?_
                refine va_iald hx hb hK hP 2 1 rgL10_2f9faf6 rgT9_ade3714 (vinI (by omega) (by omega)) dX9_personLine_146 ?_
                refine lv_topi (fun x144 e_x144 => ?_)
                have q_x144 := congrArg Int32.toInt e_x144
                have b_x144 : 0 ≤ x144.toInt ∧ x144.toInt ≤ 8 := vr_at (lo := 0) (hi := 8) (f := a0_18_f) h_a0_18_f e_x144
                refine lv_iconst (v := 1) hx hb dX9_personLine_147 (by decide) ?_
                refine lv_iadd hx hb dX9_personLine_148 ?_
                refine lv_topi (fun x145 e_x145 => ?_)
                try have e_x145 := ti_add e_x145 rfl (show (1 : Int32).toInt = 1 by decide) (by omega)
                refine va_iast hx hb hK hP hD hS 2 1 rgL10_2f9faf6 rgT9_ade3714 (vinI (by omega) (by omega)) dX9_personLine_149 (fun H locs hP9 hD9 hS9 => ?_)
                obtain ⟨y146, e_y146⟩ : ∃ y, (upd a0_18_f a0_17.toNatClampNeg x145) = y := ⟨_, rfl⟩
                clear hP hD hS
                obtain ⟨hP, hD⟩ := rgS10_def6067 (e := (a0_18, .inl (a0_18_c, 2, .inl y146))) hP9 hD9 (congrArg (fun z9 => (((a0_18, .inl (a0_18_c, 2, .inl z9)) : Nat × va_E))) e_y146)
                have hS := hS9; clear hP9 hD9 hS9
                have b_y146 : vr 0 8 y146 := vr_upd e_y146 h_a0_18_f (by omega)
                refine lv_iconst (v := 1) hx hb dX9_personLine_150 (by decide) ?_
                have qc1 : (1 : Int32).toInt = 1 := by decide
                refine W.widen (k := 0) (n := 0) (Nat.le_of_ble_eq_true rfl) (Nat.le_of_ble_eq_true rfl) ?_
                have hP9 := hP
                have hD9 := hD
                have hK9 := (rgK9_204429a hK)
                have hf9_0 : (0 ≤ za0_7_114.toInt ∧ za0_7_114.toInt ≤ 1000) := by omega
                have hf9_1 : (0 ≤ za0_8_115.toInt ∧ za0_8_115.toInt ≤ 1000) := by omega
                have hf9_2 : vr 0 8 y146 := b_y146
                have hf9_3 : ((1 : Int32) = 0 ∨ (1 : Int32) = 1) := (by decide)
                have hf9_4 : ((1 : Int32).toInt = 1 → (y146 a0_17.toNatClampNeg).toInt = (a0_18_f a0_17.toNatClampNeg).toInt + 1) := fun _ => by rw [upd_eq e_y146]; omega
                exact W.zret (v := 1) hx hb hr rfl (fun t ht hW => ⟨⟨1, 1, rfl, rfl, za0_7_114, za0_8_115, za0_9_116, za0_10_117, za0_11_118, za0_12_138, za0_13_139, za0_14_121, za0_15_122, za0_16_123, za0_36_10, y146, y18, y97, y143, hf9_0, hf9_1, hf9_2, hf9_3, hf9_4, atB ht hP9, va_K.moved hW.alike hK9, hD9⟩, hS.F ht⟩) hS.2.2 dX9_personLine_151
              · have c122_142 : r137.toInt = 0 := (cv_eq rfl (by decide)).mp c122_142
                refine lv_iconst (v := 0) hx hb dX9_personLine_125 (by decide) ?_
                have qc0 : (0 : Int32).toInt = 0 := by decide
                refine W.widen (k := 0) (n := 0) (Nat.le_of_ble_eq_true rfl) (Nat.le_of_ble_eq_true rfl) ?_
                have hP9 := hP
                have hD9 := hD
                have hK9 := (rgK9_204429a hK)
                have hf9_0 : (0 ≤ za0_7_114.toInt ∧ za0_7_114.toInt ≤ 1000) := by omega
                have hf9_1 : (0 ≤ za0_8_115.toInt ∧ za0_8_115.toInt ≤ 1000) := by omega
                have hf9_2 : vr 0 8 a0_18_f := h_a0_18_f
                have hf9_3 : ((0 : Int32) = 0 ∨ (0 : Int32) = 1) := (by decide)
                have hf9_4 : ((0 : Int32).toInt = 1 → (a0_18_f a0_17.toNatClampNeg).toInt = (a0_18_f a0_17.toNatClampNeg).toInt + 1) := fun q => absurd q (by decide)
                exact W.zret (v := 0) hx hb hr rfl (fun t ht hW => ⟨⟨0, 0, rfl, rfl, za0_7_114, za0_8_115, za0_9_116, za0_10_117, za0_11_118, za0_12_138, za0_13_139, za0_14_121, za0_15_122, za0_16_123, za0_36_10, a0_18_f, y18, y97, y20, hf9_0, hf9_1, hf9_2, hf9_3, hf9_4, atB ht hP9, va_K.moved hW.alike hK9, hD9⟩, hS.F ht⟩) hS.2.2 dX9_personLine_126
      · have c64_96 : r82.toInt = 0 := (cv_eq rfl (by decide)).mp c64_96
        refine lv_iconst (v := 0) hx hb dX9_personLine_67 (by decide) ?_
        have qc0 : (0 : Int32).toInt = 0 := by decide
        refine W.widen (k := 0) (n := 0) (Nat.le_of_ble_eq_true rfl) (Nat.le_of_ble_eq_true rfl) ?_
        have hP9 := hP
        have hD9 := hD
        have hK9 := (rgK9_204429a hK)
        have hf9_0 : (0 ≤ za0_7_83.toInt ∧ za0_7_83.toInt ≤ 1000) := by omega
        have hf9_1 : (0 ≤ za0_8_84.toInt ∧ za0_8_84.toInt ≤ 1000) := by omega
        have hf9_2 : vr 0 8 a0_18_f := h_a0_18_f
        have hf9_3 : ((0 : Int32) = 0 ∨ (0 : Int32) = 1) := (by decide)
        have hf9_4 : ((0 : Int32).toInt = 1 → (a0_18_f a0_17.toNatClampNeg).toInt = (a0_18_f a0_17.toNatClampNeg).toInt + 1) := fun q => absurd q (by decide)
        exact W.zret (v := 0) hx hb hr rfl (fun t ht hW => ⟨⟨0, 0, rfl, rfl, za0_7_83, za0_8_84, za0_9_85, za0_10_86, za0_11_87, za0_12_88, za0_13_89, za0_14_90, za0_15_91, za0_16_92, za0_36_10, a0_18_f, y18, y19, y20, hf9_0, hf9_1, hf9_2, hf9_3, hf9_4, atB ht hP9, va_K.moved hW.alike hK9, hD9⟩, hS.F ht⟩) hS.2.2 dX9_personLine_68
  · have c4_14 : r2.toInt = 0 := (cv_eq rfl (by decide)).mp c4_14
    refine lv_iconst (v := 0) hx hb dX9_personLine_7 (by decide) ?_
    have qc0 : (0 : Int32).toInt = 0 := by decide
    refine W.widen (k := 0) (n := 0) (Nat.le_of_ble_eq_true rfl) (Nat.le_of_ble_eq_true rfl) ?_
    have hP9 := hP
    have hD9 := hD
    have hK9 := (rgK9_204429a hK)
    have hf9_0 : (0 ≤ za0_7_3.toInt ∧ za0_7_3.toInt ≤ 1000) := by omega
    have hf9_1 : (0 ≤ za0_8_4.toInt ∧ za0_8_4.toInt ≤ 1000) := by omega
    have hf9_2 : vr 0 8 a0_18_f := h_a0_18_f
    have hf9_3 : ((0 : Int32) = 0 ∨ (0 : Int32) = 1) := (by decide)
    have hf9_4 : ((0 : Int32).toInt = 1 → (a0_18_f a0_17.toNatClampNeg).toInt = (a0_18_f a0_17.toNatClampNeg).toInt + 1) := fun q => absurd q (by decide)
    exact W.zret (v := 0) hx hb hr rfl (fun t ht hW => ⟨⟨0, 0, rfl, rfl, za0_7_3, za0_8_4, za0_9_5, za0_10_6, za0_11_7, za0_12_8, za0_13_9, a0_14, a0_15, a0_16, za0_36_10, a0_18_f, a0_22_f, a0_23_f, a0_24_f, hf9_0, hf9_1, hf9_2, hf9_3, hf9_4, atB ht hP9, va_K.moved hW.alike hK9, hD9⟩, hS.F ht⟩) hS.2.2 dX9_personLine_8
set_option maxHeartbeats 4000000 in
set_option maxRecDepth 100000 in
theorem k_X9_depositLine (l : Launch) (dC : Nat → ClassId) (dI : Nat → Nat → Nat) (g : Gv) (sz : Nat) (a0 : Nat) (a0_0 : Int32) (a0_1 : Int32) (a0_2 : Int32) (a0_3 : Int32) (a0_4 : Nat) (a0_5 : Int32) (a0_6 : Int32) (a0_7 : Int32) (a0_8 : Int32) (a0_9 : Int32) (a0_10 : Int32) (a0_11 : Int64) (a0_12 : Int32) (a0_13 : Int32) (a0_14 : Int32) (a0_15 : Int32) (a0_16 : Int32) (a0_17 : Int32) (a0_18 : Nat) (a0_19 : Nat) (a0_20 : Nat) (a0_21 : Nat) (a0_22 : Nat) (a0_23 : Nat) (a0_24 : Nat) (a0_25 : Nat) (a0_26 : Nat) (a0_27 : Nat) (a0_28 : Nat) (a0_29 : Nat) (a0_30 : Nat) (a0_31 : Nat) (a0_32 : Nat) (a0_33 : Nat) (a0_34 : Nat) (a0_35 : Nat) (a0_36 : Int64) (a0_37 : Int32) (a0_38 : Nat) (a0_39 : Nat) (a0_40 : Int32) (a0_41 : Nat) (a0_42 : Nat) (a0_43 : Nat) (a0_4_c : ClassId) (a0_4_f : Nat → Int32) (a0_18_c : ClassId) (a0_18_f : Nat → Int32) (a0_19_c : ClassId) (a0_19_f : Nat → Int32) (a0_20_c : ClassId) (a0_20_f : Nat → Int32) (a0_22_c : ClassId) (a0_22_f : Nat → Int64) (a0_25_c : ClassId) (a0_25_f : Nat → Int64) (a0_26_c : ClassId) (a0_26_f : Nat → Int32) (a0_27_c : ClassId) (a0_27_f : Nat → Int64) (h_a0_5 : 0 ≤ a0_5.toInt ∧ a0_5.toInt ≤ 1000) (h_a0_6 : 0 ≤ a0_6.toInt ∧ a0_6.toInt ≤ 1000) (h_a0_7 : 0 ≤ a0_7.toInt ∧ a0_7.toInt ≤ 1000) (h_a0_8 : 0 ≤ a0_8.toInt ∧ a0_8.toInt ≤ 1000) (h_a0_17 : 0 ≤ a0_17.toInt ∧ a0_17.toInt ≤ 1) (h_a0_37 : (-1) ≤ a0_37.toInt ∧ a0_37.toInt ≤ 23) (h_a0_40 : 0 ≤ a0_40.toInt ∧ a0_40.toInt ≤ 12) (h_a0_18_f : vr 0 8 a0_18_f) (h_a0_19_f : vr 0 4 a0_19_f) (h_a0_20_f : vr 0 24 a0_20_f) (hbn : a0_17.toInt = 1) (hcan : (a0_19_f a0_17.toNatClampNeg).toInt < 4) : Met l yX9_depositLine (.code yX9_depositLine cX9_depositLine 4 (some .boolean) :: TBL) ({ frames := 9, cells := 0, slots := 0, locals := 264 }) (va_Pc [.ref a0] (fun U => U.heap.size = sz ∧ va_P (dC, dI) vwCl [(a0, .inr (8, [.int a0_0, .int a0_1, .int a0_2, .int a0_3, .ref a0_4, .int a0_5, .int a0_6, .int a0_7, .int a0_8, .int a0_9, .int a0_10, .long a0_11, .int a0_12, .int a0_13, .int a0_14, .int a0_15, .int a0_16, .int a0_17, .ref a0_18, .ref a0_19, .ref a0_20, .ref a0_21, .ref a0_22, .ref a0_23, .ref a0_24, .ref a0_25, .ref a0_26, .ref a0_27, .ref a0_28, .ref a0_29, .ref a0_30, .ref a0_31, .ref a0_32, .ref a0_33, .ref a0_34, .ref a0_35, .long a0_36, .int a0_37, .ref a0_38, .ref a0_39, .int a0_40, .ref a0_41, .ref a0_42, .ref a0_43])), (a0_4, .inl (a0_4_c, 1000, .inl a0_4_f)), (a0_18, .inl (a0_18_c, 2, .inl a0_18_f)), (a0_19, .inl (a0_19_c, 2, .inl a0_19_f)), (a0_20, .inl (a0_20_c, 2, .inl a0_20_f)), (a0_22, .inl (a0_22_c, 16, .inr (.inl a0_22_f))), (a0_25, .inl (a0_25_c, 8, .inr (.inl a0_25_f))), (a0_26, .inl (a0_26_c, 8, .inl a0_26_f)), (a0_27, .inl (a0_27_c, 48, .inr (.inl a0_27_f)))] U.heap ∧ va_K (dC, dI) vwCl [(a0_4_c, .byte), (a0_18_c, .int), (a0_19_c, .int), (a0_20_c, .int), (a0_22_c, .long), (a0_25_c, .long), (a0_26_c, .int), (a0_27_c, .long)] U ∧ va_D (fun _ => True) [(a0, .inr (8, [.int a0_0, .int a0_1, .int a0_2, .int a0_3, .ref a0_4, .int a0_5, .int a0_6, .int a0_7, .int a0_8, .int a0_9, .int a0_10, .long a0_11, .int a0_12, .int a0_13, .int a0_14, .int a0_15, .int a0_16, .int a0_17, .ref a0_18, .ref a0_19, .ref a0_20, .ref a0_21, .ref a0_22, .ref a0_23, .ref a0_24, .ref a0_25, .ref a0_26, .ref a0_27, .ref a0_28, .ref a0_29, .ref a0_30, .ref a0_31, .ref a0_32, .ref a0_33, .ref a0_34, .ref a0_35, .long a0_36, .int a0_37, .ref a0_38, .ref a0_39, .int a0_40, .ref a0_41, .ref a0_42, .ref a0_43])), (a0_4, .inl (a0_4_c, 1000, .inl a0_4_f)), (a0_18, .inl (a0_18_c, 2, .inl a0_18_f)), (a0_19, .inl (a0_19_c, 2, .inl a0_19_f)), (a0_20, .inl (a0_20_c, 2, .inl a0_20_f)), (a0_22, .inl (a0_22_c, 16, .inr (.inl a0_22_f))), (a0_25, .inl (a0_25_c, 8, .inr (.inl a0_25_f))), (a0_26, .inl (a0_26_c, 8, .inl a0_26_f)), (a0_27, .inl (a0_27_c, 48, .inr (.inl a0_27_f)))] ∧ Ev g (va_A [(a0, .inr (8, [.int a0_0, .int a0_1, .int a0_2, .int a0_3, .ref a0_4, .int a0_5, .int a0_6, .int a0_7, .int a0_8, .int a0_9, .int a0_10, .long a0_11, .int a0_12, .int a0_13, .int a0_14, .int a0_15, .int a0_16, .int a0_17, .ref a0_18, .ref a0_19, .ref a0_20, .ref a0_21, .ref a0_22, .ref a0_23, .ref a0_24, .ref a0_25, .ref a0_26, .ref a0_27, .ref a0_28, .ref a0_29, .ref a0_30, .ref a0_31, .ref a0_32, .ref a0_33, .ref a0_34, .ref a0_35, .long a0_36, .int a0_37, .ref a0_38, .ref a0_39, .int a0_40, .ref a0_41, .ref a0_42, .ref a0_43])), (a0_4, .inl (a0_4_c, 1000, .inl a0_4_f)), (a0_18, .inl (a0_18_c, 2, .inl a0_18_f)), (a0_19, .inl (a0_19_c, 2, .inl a0_19_f)), (a0_20, .inl (a0_20_c, 2, .inl a0_20_f)), (a0_22, .inl (a0_22_c, 16, .inr (.inl a0_22_f))), (a0_25, .inl (a0_25_c, 8, .inr (.inl a0_25_f))), (a0_26, .inl (a0_26_c, 8, .inl a0_26_f)), (a0_27, .inl (a0_27_c, 48, .inr (.inl a0_27_f)))] sz) U)) (va_Qi (fun (r : Int32) (u : Int32) => u = r) (fun (u : Int32) (t : State) => ∃ (za0_7 : Int32) (za0_8 : Int32) (za0_9 : Int32) (za0_10 : Int32) (za0_11 : Int64) (za0_12 : Int32) (za0_13 : Int32) (za0_14 : Int32) (za0_15 : Int32) (za0_16 : Int32) (za0_36 : Int64) (za0_19_f : Nat → Int32) (za0_25_f : Nat → Int64) (za0_26_f : Nat → Int32), (0 ≤ za0_7.toInt ∧ za0_7.toInt ≤ 1000) ∧ (0 ≤ za0_8.toInt ∧ za0_8.toInt ≤ 1000) ∧ vr 0 4 za0_19_f ∧ (u = 0 ∨ u = 1) ∧ (u.toInt = 1 → (za0_19_f a0_17.toNatClampNeg).toInt = (a0_19_f a0_17.toNatClampNeg).toInt + 1) ∧ va_P (dC, dI) vwCl [(a0, .inr (8, [.int a0_0, .int a0_1, .int a0_2, .int a0_3, .ref a0_4, .int a0_5, .int a0_6, .int za0_7, .int za0_8, .int za0_9, .int za0_10, .long za0_11, .int za0_12, .int za0_13, .int za0_14, .int za0_15, .int za0_16, .int a0_17, .ref a0_18, .ref a0_19, .ref a0_20, .ref a0_21, .ref a0_22, .ref a0_23, .ref a0_24, .ref a0_25, .ref a0_26, .ref a0_27, .ref a0_28, .ref a0_29, .ref a0_30, .ref a0_31, .ref a0_32, .ref a0_33, .ref a0_34, .ref a0_35, .long za0_36, .int a0_37, .ref a0_38, .ref a0_39, .int a0_40, .ref a0_41, .ref a0_42, .ref a0_43])), (a0_4, .inl (a0_4_c, 1000, .inl a0_4_f)), (a0_18, .inl (a0_18_c, 2, .inl a0_18_f)), (a0_19, .inl (a0_19_c, 2, .inl za0_19_f)), (a0_20, .inl (a0_20_c, 2, .inl a0_20_f)), (a0_22, .inl (a0_22_c, 16, .inr (.inl a0_22_f))), (a0_25, .inl (a0_25_c, 8, .inr (.inl za0_25_f))), (a0_26, .inl (a0_26_c, 8, .inl za0_26_f)), (a0_27, .inl (a0_27_c, 48, .inr (.inl a0_27_f)))] t.heap ∧ va_K (dC, dI) vwCl [] t ∧ va_D (va_A [(a0, .inr (8, [.int a0_0, .int a0_1, .int a0_2, .int a0_3, .ref a0_4, .int a0_5, .int a0_6, .int a0_7, .int a0_8, .int a0_9, .int a0_10, .long a0_11, .int a0_12, .int a0_13, .int a0_14, .int a0_15, .int a0_16, .int a0_17, .ref a0_18, .ref a0_19, .ref a0_20, .ref a0_21, .ref a0_22, .ref a0_23, .ref a0_24, .ref a0_25, .ref a0_26, .ref a0_27, .ref a0_28, .ref a0_29, .ref a0_30, .ref a0_31, .ref a0_32, .ref a0_33, .ref a0_34, .ref a0_35, .long a0_36, .int a0_37, .ref a0_38, .ref a0_39, .int a0_40, .ref a0_41, .ref a0_42, .ref a0_43])), (a0_4, .inl (a0_4_c, 1000, .inl a0_4_f)), (a0_18, .inl (a0_18_c, 2, .inl a0_18_f)), (a0_19, .inl (a0_19_c, 2, .inl a0_19_f)), (a0_20, .inl (a0_20_c, 2, .inl a0_20_f)), (a0_22, .inl (a0_22_c, 16, .inr (.inl a0_22_f))), (a0_25, .inl (a0_25_c, 8, .inr (.inl a0_25_f))), (a0_26, .inl (a0_26_c, 8, .inl a0_26_f)), (a0_27, .inl (a0_27_c, 48, .inr (.inl a0_27_f)))] sz) [(a0, .inr (8, [.int a0_0, .int a0_1, .int a0_2, .int a0_3, .ref a0_4, .int a0_5, .int a0_6, .int za0_7, .int za0_8, .int za0_9, .int za0_10, .long za0_11, .int za0_12, .int za0_13, .int za0_14, .int za0_15, .int za0_16, .int a0_17, .ref a0_18, .ref a0_19, .ref a0_20, .ref a0_21, .ref a0_22, .ref a0_23, .ref a0_24, .ref a0_25, .ref a0_26, .ref a0_27, .ref a0_28, .ref a0_29, .ref a0_30, .ref a0_31, .ref a0_32, .ref a0_33, .ref a0_34, .ref a0_35, .long za0_36, .int a0_37, .ref a0_38, .ref a0_39, .int a0_40, .ref a0_41, .ref a0_42, .ref a0_43])), (a0_4, .inl (a0_4_c, 1000, .inl a0_4_f)), (a0_18, .inl (a0_18_c, 2, .inl a0_18_f)), (a0_19, .inl (a0_19_c, 2, .inl za0_19_f)), (a0_20, .inl (a0_20_c, 2, .inl a0_20_f)), (a0_22, .inl (a0_22_c, 16, .inr (.inl a0_22_f))), (a0_25, .inl (a0_25_c, 8, .inr (.inl za0_25_f))), (a0_26, .inl (a0_26_c, 8, .inl za0_26_f)), (a0_27, .inl (a0_27_c, 48, .inr (.inl a0_27_f)))]) (va_A [(a0, .inr (8, [.int a0_0, .int a0_1, .int a0_2, .int a0_3, .ref a0_4, .int a0_5, .int a0_6, .int a0_7, .int a0_8, .int a0_9, .int a0_10, .long a0_11, .int a0_12, .int a0_13, .int a0_14, .int a0_15, .int a0_16, .int a0_17, .ref a0_18, .ref a0_19, .ref a0_20, .ref a0_21, .ref a0_22, .ref a0_23, .ref a0_24, .ref a0_25, .ref a0_26, .ref a0_27, .ref a0_28, .ref a0_29, .ref a0_30, .ref a0_31, .ref a0_32, .ref a0_33, .ref a0_34, .ref a0_35, .long a0_36, .int a0_37, .ref a0_38, .ref a0_39, .int a0_40, .ref a0_41, .ref a0_42, .ref a0_43])), (a0_4, .inl (a0_4_c, 1000, .inl a0_4_f)), (a0_18, .inl (a0_18_c, 2, .inl a0_18_f)), (a0_19, .inl (a0_19_c, 2, .inl a0_19_f)), (a0_20, .inl (a0_20_c, 2, .inl a0_20_f)), (a0_22, .inl (a0_22_c, 16, .inr (.inl a0_22_f))), (a0_25, .inl (a0_25_c, 8, .inr (.inl a0_25_f))), (a0_26, .inl (a0_26_c, 8, .inl a0_26_f)), (a0_27, .inl (a0_27_c, 48, .inr (.inl a0_27_f)))] sz)) 0 0 (va_A [(a0, .inr (8, [.int a0_0, .int a0_1, .int a0_2, .int a0_3, .ref a0_4, .int a0_5, .int a0_6, .int a0_7, .int a0_8, .int a0_9, .int a0_10, .long a0_11, .int a0_12, .int a0_13, .int a0_14, .int a0_15, .int a0_16, .int a0_17, .ref a0_18, .ref a0_19, .ref a0_20, .ref a0_21, .ref a0_22, .ref a0_23, .ref a0_24, .ref a0_25, .ref a0_26, .ref a0_27, .ref a0_28, .ref a0_29, .ref a0_30, .ref a0_31, .ref a0_32, .ref a0_33, .ref a0_34, .ref a0_35, .long a0_36, .int a0_37, .ref a0_38, .ref a0_39, .int a0_40, .ref a0_41, .ref a0_42, .ref a0_43])), (a0_4, .inl (a0_4_c, 1000, .inl a0_4_f)), (a0_18, .inl (a0_18_c, 2, .inl a0_18_f)), (a0_19, .inl (a0_19_c, 2, .inl a0_19_f)), (a0_20, .inl (a0_20_c, 2, .inl a0_20_f)), (a0_22, .inl (a0_22_c, 16, .inr (.inl a0_22_f))), (a0_25, .inl (a0_25_c, 8, .inr (.inl a0_25_f))), (a0_26, .inl (a0_26_c, 8, .inl a0_26_f)), (a0_27, .inl (a0_27_c, 48, .inr (.inl a0_27_f)))] sz) := by
  refine Met.ofW (cc := cX9_depositLine) (maxL := 4) (ret := (some .boolean)) (by decide) rfl ?_
  intro p e s m args below meth c s₁ B hml hv
  obtain ⟨rfl, hsz, hP, hK, hD0, hE⟩ := hv
  have hx := B.exec
  have hb := B.bytes
  have hr := B.returns
  have hts0 := atoms_spec (ws := (.code yX9_depositLine cX9_depositLine 4 (some .boolean) :: TBL)) B.pre
  have hts := fun (w : Cond) (h : w ∈ TBL) => hts0 w (List.mem_cons_of_mem _ h)
  have hown : s.vm.findClass RX9 = some m.cls := findClass_of_methodNamed B.named
  have hlocks := B.notSynchronized
  have hN := hE.1
  subst hsz
  have hD := hD0.self (sz := s.heap.size)
  generalize hAe : va_A [(a0, .inr (8, [.int a0_0, .int a0_1, .int a0_2, .int a0_3, .ref a0_4, .int a0_5, .int a0_6, .int a0_7, .int a0_8, .int a0_9, .int a0_10, .long a0_11, .int a0_12, .int a0_13, .int a0_14, .int a0_15, .int a0_16, .int a0_17, .ref a0_18, .ref a0_19, .ref a0_20, .ref a0_21, .ref a0_22, .ref a0_23, .ref a0_24, .ref a0_25, .ref a0_26, .ref a0_27, .ref a0_28, .ref a0_29, .ref a0_30, .ref a0_31, .ref a0_32, .ref a0_33, .ref a0_34, .ref a0_35, .long a0_36, .int a0_37, .ref a0_38, .ref a0_39, .int a0_40, .ref a0_41, .ref a0_42, .ref a0_43])), (a0_4, .inl (a0_4_c, 1000, .inl a0_4_f)), (a0_18, .inl (a0_18_c, 2, .inl a0_18_f)), (a0_19, .inl (a0_19_c, 2, .inl a0_19_f)), (a0_20, .inl (a0_20_c, 2, .inl a0_20_f)), (a0_22, .inl (a0_22_c, 16, .inr (.inl a0_22_f))), (a0_25, .inl (a0_25_c, 8, .inr (.inl a0_25_f))), (a0_26, .inl (a0_26_c, 8, .inl a0_26_f)), (a0_27, .inl (a0_27_c, 48, .inr (.inl a0_27_f)))] s.heap.size = A at hD hE ⊢
  have hA : ∀ q : Nat, s.heap.size ≤ q → A q := fun q h => by rw [← hAe]; exact Or.inr h
  have hS : va_S A s.heap s.heap [] := va_S.rf
  replace hP : va_P (dC, dI) vwCl [(a0, .inr (8, [.int a0_0, .int a0_1, .int a0_2, .int a0_3, .ref a0_4, .int a0_5, .int a0_6, .int a0_7, .int a0_8, .int a0_9, .int a0_10, .long a0_11, .int a0_12, .int a0_13, .int a0_14, .int a0_15, .int a0_16, .int a0_17, .ref a0_18, .ref a0_19, .ref a0_20, .ref a0_21, .ref a0_22, .ref a0_23, .ref a0_24, .ref a0_25, .ref a0_26, .ref a0_27, .ref a0_28, .ref a0_29, .ref a0_30, .ref a0_31, .ref a0_32, .ref a0_33, .ref a0_34, .ref a0_35, .long a0_36, .int a0_37, .ref a0_38, .ref a0_39, .int a0_40, .ref a0_41, .ref a0_42, .ref a0_43])), (a0_4, .inl (a0_4_c, 1000, .inl a0_4_f)), (a0_18, .inl (a0_18_c, 2, .inl a0_18_f)), (a0_19, .inl (a0_19_c, 2, .inl a0_19_f)), (a0_20, .inl (a0_20_c, 2, .inl a0_20_f)), (a0_22, .inl (a0_22_c, 16, .inr (.inl a0_22_f))), (a0_25, .inl (a0_25_c, 8, .inr (.inl a0_25_f))), (a0_26, .inl (a0_26_c, 8, .inl a0_26_f)), (a0_27, .inl (a0_27_c, 48, .inr (.inl a0_27_f)))] s.heap := hP
  have hl := lv_entry ([.ref a0]) (n := 4) (Nat.le_of_ble_eq_true rfl)
  rw [lg_entry_eq]
  generalize (lg_sl ([.ref a0]) ++ List.replicate (4 - (lg_sl ([.ref a0])).length) Slot.unset).toArray = ls at hl ⊢
  have hl : lv_has ls 4 [(0, .ref a0)] := hl
  have b_a0_0 := i32b a0_0
  have b_a0_1 := i32b a0_1
  have b_a0_2 := i32b a0_2
  have b_a0_3 := i32b a0_3
  have b_a0_9 := i32b a0_9
  have b_a0_10 := i32b a0_10
  have b_a0_12 := i32b a0_12
  have b_a0_13 := i32b a0_13
  have b_a0_14 := i32b a0_14
  have b_a0_15 := i32b a0_15
  have b_a0_16 := i32b a0_16
  refine lv_aload_n hx hb dX9_depositLine_0 rfl (lv_at hl 0 rfl) ?_
  have hPc := (rgP9_4c7e336 hP)
  have hKc := (rgK8_4886f59 hK)
  have hDc := (rgD9_a7a0835 hD)
  have hFc := freeW hDc hS hA
  refine va_calli (va_runV (As := []) (rest := []) ⟨hx, hb, hml, hown, hts⟩ (k_X9_newName l dC dI g s.heap.size (a0) (a0_0) (a0_1) (a0_2) (a0_3) (a0_4) (a0_5) (a0_6) (a0_7) (a0_8) (a0_9) (a0_10) (a0_11) (a0_12) (a0_13) (a0_14) (a0_15) (a0_16) (a0_17) (a0_18) (a0_19) (a0_20) (a0_21) (a0_22) (a0_23) (a0_24) (a0_25) (a0_26) (a0_27) (a0_28) (a0_29) (a0_30) (a0_31) (a0_32) (a0_33) (a0_34) (a0_35) (a0_36) (a0_37) (a0_38) (a0_39) (a0_40) (a0_41) (a0_42) (a0_43) (a0_4_c) (a0_4_f) (a0_18_c) (a0_18_f) (a0_19_c) (a0_19_f) (a0_20_c) (a0_20_f) (a0_22_c) (a0_22_f) (a0_25_c) (a0_25_f) (a0_27_c) (a0_27_f) (by omega) (by omega) (by omega) (by omega) (by omega) (by omega) (by omega) h_a0_18_f h_a0_19_f h_a0_20_f) (cwV 0 hts (gwV qw_555 qw_556 qw_557 qw_386 qw_554) rfl rfl rfl (by decide +kernel) ⟨Nat.le_of_ble_eq_true rfl, Nat.le_of_ble_eq_true rfl⟩) ⟨fun a U g9 mk q => ⟨q.1, q.2.1, q.2.2.1, va_K.moved (u := U) (U := U.calling g9 mk a) (Vm.Alike.refl U.vm) q.2.2.2.1, q.2.2.2.2.1, Ev.bl q.2.2.2.2.2⟩, va_recv hK hP (ci := 8) (q0 := 0) rfl rgL9_97de23c, fun U hU hW => ⟨rfl, by rw [hU], atB hU hPc, va_K.moved hW.alike hKc, hDc.weaken (fun _ _ _ _ => trivial), hE.go hS hFc hU hW⟩⟩ rfl rfl hl.1 rfl (lv_room (Nat.le_of_ble_eq_true rfl)) dX9_depositLine_1 ⟨Nat.le_of_ble_eq_true rfl, Nat.le_of_ble_eq_true rfl⟩) hS (fun q _ h => hFc q h) hFc (fun r2 u1 t H1 locs ht hvm h_u1 hB hz1 hk1 hS => ?_)
  obtain ⟨za0_7_3, za0_8_4, za0_9_5, za0_10_6, za0_11_7, za0_12_8, za0_13_9, za0_36_10, hF11, hF12, hF13, hP1, hK1, hD1⟩ := hB
  have hK1 := va_K.moved hvm.symm hK1
  have hJ9 := rgJ9_a5e34bc hP hD hk1 hFc (atH ht hP1) hD1
  clear hP hD hPc hKc hDc hFc hP1 hD1 hk1 hz1
  obtain ⟨hP, hD⟩ := hJ9
  clear hK1
  generalize H1 = H at hP hS ⊢
  refine W.widen (k := 0) (n := 0) (Nat.le_of_ble_eq_true rfl) (Nat.le_of_ble_eq_true rfl) ?_
  have h_r2 := congrArg Int32.toInt h_u1
  have hz_r2 : r2 = 0 ∨ r2 = 1 := h_u1 ▸ hF13
  have b_r2 := z01 hz_r2
  refine lv_if_ne (tgt := 9) hx hb dX9_depositLine_4 (by decide) (fun c4_14 => ?_) (fun c4_14 => ?_)
  · have c4_14 : ¬ (r2.toInt = 0) := mt (cv_eq rfl (by decide)).mpr c4_14
    refine lv_aload_n hx hb dX9_depositLine_9 rfl (lv_at hl 0 rfl) ?_
    refine va_get (D := (dC, dI)) (ci := 8) (v := .long za0_36_10) (C := RX9) (T := TX9) (N := 44) hx hb hts inlX9 hown hK hP 0 rgL9_97de23c rfl 36 (by decide) (hts (.fieldLink RX9 271 "ClosedUntilModel" "nameHere" "J") qw_498) (fun _ h9 => h9) rfl dX9_depositLine_10 ?_
    refine lv_lstore_n (lv' := [(1, .long za0_36_10), (0, .ref a0)]) hx hb dX9_depositLine_13 rfl hl (by decide) rfl (fun ls hl => ?_)
    refine lv_aload_n hx hb dX9_depositLine_14 rfl (lv_at hl 1 rfl) ?_
    have hPc := (rgP9_740a929 hP)
    have hKc := (rgK8_7e1e270 hK)
    have hDc := (rgD9_889b516 hD)
    have hFc := freeW hDc hS hA
    refine va_calli (va_runV (As := []) (rest := []) ⟨hx, hb, hml, hown, hts⟩ (k_X9_takesDate l dC dI g H.size (a0) (a0_0) (a0_1) (a0_2) (a0_3) (a0_4) (a0_5) (a0_6) (za0_7_3) (za0_8_4) (za0_9_5) (za0_10_6) (za0_11_7) (za0_12_8) (za0_13_9) (a0_14) (a0_15) (a0_16) (a0_17) (a0_18) (a0_19) (a0_20) (a0_21) (a0_22) (a0_23) (a0_24) (a0_25) (a0_26) (a0_27) (a0_28) (a0_29) (a0_30) (a0_31) (a0_32) (a0_33) (a0_34) (a0_35) (za0_36_10) (a0_37) (a0_38) (a0_39) (a0_40) (a0_41) (a0_42) (a0_43) (a0_4_c) (a0_4_f) (by omega) (by omega) (by omega) (by omega) (by omega) (by omega) (by omega)) (cwV 0 hts (gwV qw_564 qw_565 qw_566 qw_386 qw_563) rfl rfl rfl (by decide +kernel) ⟨Nat.le_of_ble_eq_true rfl, Nat.le_of_ble_eq_true rfl⟩) ⟨fun a U g9 mk q => ⟨q.1, q.2.1, q.2.2.1, va_K.moved (u := U) (U := U.calling g9 mk a) (Vm.Alike.refl U.vm) q.2.2.2.1, q.2.2.2.2.1, Ev.bl q.2.2.2.2.2⟩, va_recv hK hP (ci := 8) (q0 := 0) rfl rgL9_97de23c, fun U hU hW => ⟨rfl, by rw [hU], atB hU hPc, va_K.moved hW.alike hKc, hDc.weaken (fun _ _ _ _ => trivial), hE.go hS hFc hU hW⟩⟩ rfl rfl hl.1 rfl (lv_room (Nat.le_of_ble_eq_true rfl)) dX9_depositLine_15 ⟨Nat.le_of_ble_eq_true rfl, Nat.le_of_ble_eq_true rfl⟩) hS (fun q _ h => hFc q h) hFc (fun r16 u15 t H1 locs ht hvm h_u15 hB hz1 hk1 hS => ?_)
    obtain ⟨za0_7_17, za0_8_18, za0_9_19, za0_10_20, za0_11_21, za0_12_22, za0_13_23, za0_14_24, za0_15_25, za0_16_26, hF27, hF28, hF29, hP1, hK1, hD1⟩ := hB
    have hK1 := va_K.moved hvm.symm hK1
    have hJ9 := rgJ9_2454167 hP hD hk1 hFc (atH ht hP1) hD1
    clear hP hD hPc hKc hDc hFc hP1 hD1 hk1 hz1
    obtain ⟨hP, hD⟩ := hJ9
    clear hK1
    generalize H1 = H at hP hS ⊢
    refine W.widen (k := 0) (n := 0) (Nat.le_of_ble_eq_true rfl) (Nat.le_of_ble_eq_true rfl) ?_
    have h_r16 := congrArg Int32.toInt h_u15
    have hz_r16 : r16 = 0 ∨ r16 = 1 := h_u15 ▸ hF29
    have b_r16 := z01 hz_r16
    refine lv_if_ne (tgt := 23) hx hb dX9_depositLine_18 (by decide) (fun c18_30 => ?_) (fun c18_30 => ?_)
    · have c18_30 : ¬ (r16.toInt = 0) := mt (cv_eq rfl (by decide)).mpr c18_30
      refine lv_iconst (v := 4) hx hb dX9_depositLine_23 (by decide) ?_
      refine lv_aload_n hx hb dX9_depositLine_24 rfl (lv_at hl 1 rfl) ?_
      refine va_get (D := (dC, dI)) (ci := 8) (v := .int a0_17) (C := RX9) (T := TX9) (N := 44) hx hb hts inlX9 hown hK hP 0 rgL9_97de23c rfl 17 (by decide) (hts (.fieldLink RX9 256 "ClosedUntilModel" "bench" "I") qw_435) (fun _ h9 => h9) rfl dX9_depositLine_25 ?_
      refine lv_imul hx hb dX9_depositLine_28 ?_
      refine lv_topi (fun x31 e_x31 => ?_)
      try have e_x31 := ti_mul e_x31 (show (4 : Int32).toInt = 4 by decide) rfl (by omega)
      refine lv_aload_n hx hb dX9_depositLine_29 rfl (lv_at hl 1 rfl) ?_
      refine va_get (D := (dC, dI)) (ci := 8) (v := .ref a0_19) (C := RX9) (T := TX9) (N := 44) hx hb hts inlX9 hown hK hP 0 rgL9_97de23c rfl 19 (by decide) (hts (.fieldLink RX9 17 "ClosedUntilModel" "deposits" "[I") qw_437) (fun _ h9 => h9) rfl dX9_depositLine_30 ?_
      refine lv_aload_n hx hb dX9_depositLine_33 rfl (lv_at hl 1 rfl) ?_
      refine va_get (D := (dC, dI)) (ci := 8) (v := .int a0_17) (C := RX9) (T := TX9) (N := 44) hx hb hts inlX9 hown hK hP 0 rgL9_97de23c rfl 17 (by decide) (hts (.fieldLink RX9 256 "ClosedUntilModel" "bench" "I") qw_435) (fun _ h9 => h9) rfl dX9_depositLine_34 ?_
      refine va_iald hx hb hK hP 3 2 rgL9_8c66716 rgT8_ae72cb6 (vinI (by omega) (by omega)) dX9_depositLine_37 ?_
      refine lv_topi (fun x32 e_x32 => ?_)
      have q_x32 := congrArg Int32.toInt e_x32
      have b_x32 : 0 ≤ x32.toInt ∧ x32.toInt ≤ 4 := vr_at (lo := 0) (hi := 4) (f := a0_19_f) h_a0_19_f e_x32
      refine lv_iadd hx hb dX9_depositLine_38 ?_
      refine lv_topi (fun x33 e_x33 => ?_)
      try have e_x33 := ti_add e_x33 rfl rfl (by omega)
      refine lv_istore_n (lv' := [(3, .int x33), (1, .long za0_36_10), (0, .ref a0)]) hx hb dX9_depositLine_39 rfl hl (by decide) rfl (fun ls hl => ?_)
      refine lv_aload_n hx hb dX9_depositLine_40 rfl (lv_at hl 2 rfl) ?_
      refine va_get (D := (dC, dI)) (ci := 8) (v := .ref a0_25) (C := RX9) (T := TX9) (N := 44) hx hb hts inlX9 hown hK hP 0 rgL9_97de23c rfl 25 (by decide) (hts (.fieldLink RX9 36 "ClosedUntilModel" "depositName" "[J") qw_438) (fun _ h9 => h9) rfl dX9_depositLine_41 ?_
      refine lv_iload_n hx hb dX9_depositLine_44 rfl (lv_at hl 0 rfl) ?_
      refine lv_lload_n hx hb dX9_depositLine_45 rfl (lv_at hl 1 rfl) ?_
      refine va_last hx hb hK hP hD hS 6 5 rgL9_84147e0 rgT8_c2e2e2e (vinI (by omega) (by omega)) dX9_depositLine_46 (fun H locs hP9 hD9 hS9 => ?_)
      obtain ⟨y34, e_y34⟩ : ∃ y, (vp_updL a0_25_f x33.toNatClampNeg za0_36_10) = y := ⟨_, rfl⟩
      clear hP hD hS
      obtain ⟨hP, hD⟩ := rgS9_57f80ba (e := (a0_25, .inl (a0_25_c, 8, .inr (.inl y34)))) hP9 hD9 (congrArg (fun z9 => (((a0_25, .inl (a0_25_c, 8, .inr (.inl z9))) : Nat × va_E))) e_y34)
      have hS := hS9; clear hP9 hD9 hS9
      refine lv_aload_n hx hb dX9_depositLine_47 rfl (lv_at hl 2 rfl) ?_
      refine va_get (D := (dC, dI)) (ci := 8) (v := .ref a0_26) (C := RX9) (T := TX9) (N := 44) hx hb hts inlX9 hown hK hP 0 rgL9_97de23c rfl 26 (by decide) (hts (.fieldLink RX9 39 "ClosedUntilModel" "depositDay" "[I") qw_517) (fun _ h9 => h9) rfl dX9_depositLine_48 ?_
      refine lv_iload_n hx hb dX9_depositLine_51 rfl (lv_at hl 0 rfl) ?_
      refine lv_aload_n hx hb dX9_depositLine_52 rfl (lv_at hl 2 rfl) ?_
      refine va_get (D := (dC, dI)) (ci := 8) (v := .int za0_15_25) (C := RX9) (T := TX9) (N := 44) hx hb hts inlX9 hown hK hP 0 rgL9_97de23c rfl 15 (by decide) (hts (.fieldLink RX9 253 "ClosedUntilModel" "dateHere" "I") qw_481) (fun _ h9 => h9) rfl dX9_depositLine_53 ?_
      refine va_iast hx hb hK hP hD hS 7 6 rgL9_1eb08b1 rgT8_f259fe9 (vinI (by omega) (by omega)) dX9_depositLine_56 (fun H locs hP9 hD9 hS9 => ?_)
      obtain ⟨y35, e_y35⟩ : ∃ y, (upd a0_26_f x33.toNatClampNeg za0_15_25) = y := ⟨_, rfl⟩
      clear hP hD hS
      obtain ⟨hP, hD⟩ := rgS9_55c93b5 (e := (a0_26, .inl (a0_26_c, 8, .inl y35))) hP9 hD9 (congrArg (fun z9 => (((a0_26, .inl (a0_26_c, 8, .inl z9)) : Nat × va_E))) e_y35)
      have hS := hS9; clear hP9 hD9 hS9
      refine lv_aload_n hx hb dX9_depositLine_57 rfl (lv_at hl 2 rfl) ?_
      refine va_get (D := (dC, dI)) (ci := 8) (v := .ref a0_19) (C := RX9) (T := TX9) (N := 44) hx hb hts inlX9 hown hK hP 0 rgL9_97de23c rfl 19 (by decide) (hts (.fieldLink RX9 17 "ClosedUntilModel" "deposits" "[I") qw_437) (fun _ h9 => h9) rfl dX9_depositLine_58 ?_
      refine lv_aload_n hx hb dX9_depositLine_61 rfl (lv_at hl 2 rfl) ?_
      refine va_get (D := (dC, dI)) (ci := 8) (v := .int a0_17) (C := RX9) (T := TX9) (N := 44) hx hb hts inlX9 hown hK hP 0 rgL9_97de23c rfl 17 (by decide) (hts (.fieldLink RX9 256 "ClosedUntilModel" "bench" "I") qw_435) (fun _ h9 => h9) rfl dX9_depositLine_62 ?_
      refine lv_dup2_11 hx hb dX9_depositLine_65 rfl rfl ?_
      refine va_iald hx hb hK hP 3 2 rgL9_8c66716 rgT8_ae72cb6 (vinI (by omega) (by omega)) dX9_depositLine_66 ?_
      refine lv_topi (fun x36 e_x36 => ?_)
      have q_x36 := congrArg Int32.toInt e_x36
      have b_x36 : 0 ≤ x36.toInt ∧ x36.toInt ≤ 4 := vr_at (lo := 0) (hi := 4) (f := a0_19_f) h_a0_19_f e_x36
      refine lv_iconst (v := 1) hx hb dX9_depositLine_67 (by decide) ?_
      refine lv_iadd hx hb dX9_depositLine_68 ?_
      refine lv_topi (fun x37 e_x37 => ?_)
      try have e_x37 := ti_add e_x37 rfl (show (1 : Int32).toInt = 1 by decide) (by omega)
      refine va_iast hx hb hK hP hD hS 3 2 rgL9_8c66716 rgT8_ae72cb6 (vinI (by omega) (by omega)) dX9_depositLine_69 (fun H locs hP9 hD9 hS9 => ?_)
      obtain ⟨y38, e_y38⟩ : ∃ y, (upd a0_19_f a0_17.toNatClampNeg x37) = y := ⟨_, rfl⟩
      clear hP hD hS
      obtain ⟨hP, hD⟩ := rgS9_dfe55cc (e := (a0_19, .inl (a0_19_c, 2, .inl y38))) hP9 hD9 (congrArg (fun z9 => (((a0_19, .inl (a0_19_c, 2, .inl z9)) : Nat × va_E))) e_y38)
      have hS := hS9; clear hP9 hD9 hS9
      have b_y38 : vr 0 4 y38 := vr_upd e_y38 h_a0_19_f (by omega)
      refine lv_iconst (v := 1) hx hb dX9_depositLine_70 (by decide) ?_
      have qc1 : (1 : Int32).toInt = 1 := by decide
      refine W.widen (k := 0) (n := 0) (Nat.le_of_ble_eq_true rfl) (Nat.le_of_ble_eq_true rfl) ?_
      have hP9 := hP
      have hD9 := hD
      have hK9 := (rgK8_e0dc46b hK)
      have hf9_0 : (0 ≤ za0_7_17.toInt ∧ za0_7_17.toInt ≤ 1000) := by omega
      have hf9_1 : (0 ≤ za0_8_18.toInt ∧ za0_8_18.toInt ≤ 1000) := by omega
      have hf9_2 : vr 0 4 y38 := b_y38
      have hf9_3 : ((1 : Int32) = 0 ∨ (1 : Int32) = 1) := (by decide)
      have hf9_4 : ((1 : Int32).toInt = 1 → (y38 a0_17.toNatClampNeg).toInt = (a0_19_f a0_17.toNatClampNeg).toInt + 1) := fun _ => by rw [upd_eq e_y38]; omega
      exact W.zret (v := 1) hx hb hr rfl (fun t ht hW => ⟨⟨1, 1, rfl, rfl, za0_7_17, za0_8_18, za0_9_19, za0_10_20, za0_11_21, za0_12_22, za0_13_23, za0_14_24, za0_15_25, za0_16_26, za0_36_10, y38, y34, y35, hf9_0, hf9_1, hf9_2, hf9_3, hf9_4, atB ht hP9, va_K.moved hW.alike hK9, hD9⟩, hS.F ht⟩) hS.2.2 dX9_depositLine_71
    · have c18_30 : r16.toInt = 0 := (cv_eq rfl (by decide)).mp c18_30
      refine lv_iconst (v := 0) hx hb dX9_depositLine_21 (by decide) ?_
      have qc0 : (0 : Int32).toInt = 0 := by decide
      refine W.widen (k := 0) (n := 0) (Nat.le_of_ble_eq_true rfl) (Nat.le_of_ble_eq_true rfl) ?_
      have hP9 := hP
      have hD9 := hD
      have hK9 := (rgK8_e0dc46b hK)
      have hf9_0 : (0 ≤ za0_7_17.toInt ∧ za0_7_17.toInt ≤ 1000) := by omega
      have hf9_1 : (0 ≤ za0_8_18.toInt ∧ za0_8_18.toInt ≤ 1000) := by omega
      have hf9_2 : vr 0 4 a0_19_f := h_a0_19_f
      have hf9_3 : ((0 : Int32) = 0 ∨ (0 : Int32) = 1) := (by decide)
      have hf9_4 : ((0 : Int32).toInt = 1 → (a0_19_f a0_17.toNatClampNeg).toInt = (a0_19_f a0_17.toNatClampNeg).toInt + 1) := fun q => absurd q (by decide)
      exact W.zret (v := 0) hx hb hr rfl (fun t ht hW => ⟨⟨0, 0, rfl, rfl, za0_7_17, za0_8_18, za0_9_19, za0_10_20, za0_11_21, za0_12_22, za0_13_23, za0_14_24, za0_15_25, za0_16_26, za0_36_10, a0_19_f, a0_25_f, a0_26_f, hf9_0, hf9_1, hf9_2, hf9_3, hf9_4, atB ht hP9, va_K.moved hW.alike hK9, hD9⟩, hS.F ht⟩) hS.2.2 dX9_depositLine_22
  · have c4_14 : r2.toInt = 0 := (cv_eq rfl (by decide)).mp c4_14
    refine lv_iconst (v := 0) hx hb dX9_depositLine_7 (by decide) ?_
    have qc0 : (0 : Int32).toInt = 0 := by decide
    refine W.widen (k := 0) (n := 0) (Nat.le_of_ble_eq_true rfl) (Nat.le_of_ble_eq_true rfl) ?_
    have hP9 := hP
    have hD9 := hD
    have hK9 := (rgK8_e0dc46b hK)
    have hf9_0 : (0 ≤ za0_7_3.toInt ∧ za0_7_3.toInt ≤ 1000) := by omega
    have hf9_1 : (0 ≤ za0_8_4.toInt ∧ za0_8_4.toInt ≤ 1000) := by omega
    have hf9_2 : vr 0 4 a0_19_f := h_a0_19_f
    have hf9_3 : ((0 : Int32) = 0 ∨ (0 : Int32) = 1) := (by decide)
    have hf9_4 : ((0 : Int32).toInt = 1 → (a0_19_f a0_17.toNatClampNeg).toInt = (a0_19_f a0_17.toNatClampNeg).toInt + 1) := fun q => absurd q (by decide)
    exact W.zret (v := 0) hx hb hr rfl (fun t ht hW => ⟨⟨0, 0, rfl, rfl, za0_7_3, za0_8_4, za0_9_5, za0_10_6, za0_11_7, za0_12_8, za0_13_9, a0_14, a0_15, a0_16, za0_36_10, a0_19_f, a0_25_f, a0_26_f, hf9_0, hf9_1, hf9_2, hf9_3, hf9_4, atB ht hP9, va_K.moved hW.alike hK9, hD9⟩, hS.F ht⟩) hS.2.2 dX9_depositLine_8
set_option maxHeartbeats 4000000 in
set_option maxRecDepth 100000 in
theorem k_X9_pieceLine (l : Launch) (dC : Nat → ClassId) (dI : Nat → Nat → Nat) (g : Gv) (sz : Nat) (a0 : Nat) (a0_0 : Int32) (a0_1 : Int32) (a0_2 : Int32) (a0_3 : Int32) (a0_4 : Nat) (a0_5 : Int32) (a0_6 : Int32) (a0_7 : Int32) (a0_8 : Int32) (a0_9 : Int32) (a0_10 : Int32) (a0_11 : Int64) (a0_12 : Int32) (a0_13 : Int32) (a0_14 : Int32) (a0_15 : Int32) (a0_16 : Int32) (a0_17 : Int32) (a0_18 : Nat) (a0_19 : Nat) (a0_20 : Nat) (a0_21 : Nat) (a0_22 : Nat) (a0_23 : Nat) (a0_24 : Nat) (a0_25 : Nat) (a0_26 : Nat) (a0_27 : Nat) (a0_28 : Nat) (a0_29 : Nat) (a0_30 : Nat) (a0_31 : Nat) (a0_32 : Nat) (a0_33 : Nat) (a0_34 : Nat) (a0_35 : Nat) (a0_36 : Int64) (a0_37 : Int32) (a0_38 : Nat) (a0_39 : Nat) (a0_40 : Int32) (a0_41 : Nat) (a0_42 : Nat) (a0_43 : Nat) (a0_4_c : ClassId) (a0_4_f : Nat → Int32) (a0_18_c : ClassId) (a0_18_f : Nat → Int32) (a0_19_c : ClassId) (a0_19_f : Nat → Int32) (a0_20_c : ClassId) (a0_20_f : Nat → Int32) (a0_22_c : ClassId) (a0_22_f : Nat → Int64) (a0_25_c : ClassId) (a0_25_f : Nat → Int64) (a0_27_c : ClassId) (a0_27_f : Nat → Int64) (a0_28_c : ClassId) (a0_28_f : Nat → Int32) (a0_29_c : ClassId) (a0_29_f : Nat → Int32) (a0_30_c : ClassId) (a0_30_f : Nat → Int32) (a0_31_c : ClassId) (a0_31_f : Nat → Int32) (h_a0_5 : 0 ≤ a0_5.toInt ∧ a0_5.toInt ≤ 1000) (h_a0_6 : 0 ≤ a0_6.toInt ∧ a0_6.toInt ≤ 1000) (h_a0_7 : 0 ≤ a0_7.toInt ∧ a0_7.toInt ≤ 1000) (h_a0_8 : 0 ≤ a0_8.toInt ∧ a0_8.toInt ≤ 1000) (h_a0_17 : 0 ≤ a0_17.toInt ∧ a0_17.toInt ≤ 1) (h_a0_37 : (-1) ≤ a0_37.toInt ∧ a0_37.toInt ≤ 23) (h_a0_40 : 0 ≤ a0_40.toInt ∧ a0_40.toInt ≤ 12) (h_a0_18_f : vr 0 8 a0_18_f) (h_a0_19_f : vr 0 4 a0_19_f) (h_a0_20_f : vr 0 24 a0_20_f) (hbn : a0_17.toInt = 1) (hcan : (a0_20_f a0_17.toNatClampNeg).toInt < 24) (hpt : PTOk a0_28_f (a0_20_f a0_17.toNatClampNeg).toInt) : Met l yX9_pieceLine (.code yX9_pieceLine cX9_pieceLine 4 (some .boolean) :: TBL) ({ frames := 9, cells := 0, slots := 0, locals := 267 }) (va_Pc [.ref a0] (fun U => U.heap.size = sz ∧ va_P (dC, dI) vwCl [(a0, .inr (8, [.int a0_0, .int a0_1, .int a0_2, .int a0_3, .ref a0_4, .int a0_5, .int a0_6, .int a0_7, .int a0_8, .int a0_9, .int a0_10, .long a0_11, .int a0_12, .int a0_13, .int a0_14, .int a0_15, .int a0_16, .int a0_17, .ref a0_18, .ref a0_19, .ref a0_20, .ref a0_21, .ref a0_22, .ref a0_23, .ref a0_24, .ref a0_25, .ref a0_26, .ref a0_27, .ref a0_28, .ref a0_29, .ref a0_30, .ref a0_31, .ref a0_32, .ref a0_33, .ref a0_34, .ref a0_35, .long a0_36, .int a0_37, .ref a0_38, .ref a0_39, .int a0_40, .ref a0_41, .ref a0_42, .ref a0_43])), (a0_4, .inl (a0_4_c, 1000, .inl a0_4_f)), (a0_18, .inl (a0_18_c, 2, .inl a0_18_f)), (a0_19, .inl (a0_19_c, 2, .inl a0_19_f)), (a0_20, .inl (a0_20_c, 2, .inl a0_20_f)), (a0_22, .inl (a0_22_c, 16, .inr (.inl a0_22_f))), (a0_25, .inl (a0_25_c, 8, .inr (.inl a0_25_f))), (a0_27, .inl (a0_27_c, 48, .inr (.inl a0_27_f))), (a0_28, .inl (a0_28_c, 48, .inl a0_28_f)), (a0_29, .inl (a0_29_c, 48, .inl a0_29_f)), (a0_30, .inl (a0_30_c, 48, .inl a0_30_f)), (a0_31, .inl (a0_31_c, 48, .inl a0_31_f))] U.heap ∧ va_K (dC, dI) vwCl [(a0_4_c, .byte), (a0_18_c, .int), (a0_19_c, .int), (a0_20_c, .int), (a0_22_c, .long), (a0_25_c, .long), (a0_27_c, .long), (a0_28_c, .int), (a0_29_c, .int), (a0_30_c, .int), (a0_31_c, .int)] U ∧ va_D (fun _ => True) [(a0, .inr (8, [.int a0_0, .int a0_1, .int a0_2, .int a0_3, .ref a0_4, .int a0_5, .int a0_6, .int a0_7, .int a0_8, .int a0_9, .int a0_10, .long a0_11, .int a0_12, .int a0_13, .int a0_14, .int a0_15, .int a0_16, .int a0_17, .ref a0_18, .ref a0_19, .ref a0_20, .ref a0_21, .ref a0_22, .ref a0_23, .ref a0_24, .ref a0_25, .ref a0_26, .ref a0_27, .ref a0_28, .ref a0_29, .ref a0_30, .ref a0_31, .ref a0_32, .ref a0_33, .ref a0_34, .ref a0_35, .long a0_36, .int a0_37, .ref a0_38, .ref a0_39, .int a0_40, .ref a0_41, .ref a0_42, .ref a0_43])), (a0_4, .inl (a0_4_c, 1000, .inl a0_4_f)), (a0_18, .inl (a0_18_c, 2, .inl a0_18_f)), (a0_19, .inl (a0_19_c, 2, .inl a0_19_f)), (a0_20, .inl (a0_20_c, 2, .inl a0_20_f)), (a0_22, .inl (a0_22_c, 16, .inr (.inl a0_22_f))), (a0_25, .inl (a0_25_c, 8, .inr (.inl a0_25_f))), (a0_27, .inl (a0_27_c, 48, .inr (.inl a0_27_f))), (a0_28, .inl (a0_28_c, 48, .inl a0_28_f)), (a0_29, .inl (a0_29_c, 48, .inl a0_29_f)), (a0_30, .inl (a0_30_c, 48, .inl a0_30_f)), (a0_31, .inl (a0_31_c, 48, .inl a0_31_f))] ∧ Ev g (va_A [(a0, .inr (8, [.int a0_0, .int a0_1, .int a0_2, .int a0_3, .ref a0_4, .int a0_5, .int a0_6, .int a0_7, .int a0_8, .int a0_9, .int a0_10, .long a0_11, .int a0_12, .int a0_13, .int a0_14, .int a0_15, .int a0_16, .int a0_17, .ref a0_18, .ref a0_19, .ref a0_20, .ref a0_21, .ref a0_22, .ref a0_23, .ref a0_24, .ref a0_25, .ref a0_26, .ref a0_27, .ref a0_28, .ref a0_29, .ref a0_30, .ref a0_31, .ref a0_32, .ref a0_33, .ref a0_34, .ref a0_35, .long a0_36, .int a0_37, .ref a0_38, .ref a0_39, .int a0_40, .ref a0_41, .ref a0_42, .ref a0_43])), (a0_4, .inl (a0_4_c, 1000, .inl a0_4_f)), (a0_18, .inl (a0_18_c, 2, .inl a0_18_f)), (a0_19, .inl (a0_19_c, 2, .inl a0_19_f)), (a0_20, .inl (a0_20_c, 2, .inl a0_20_f)), (a0_22, .inl (a0_22_c, 16, .inr (.inl a0_22_f))), (a0_25, .inl (a0_25_c, 8, .inr (.inl a0_25_f))), (a0_27, .inl (a0_27_c, 48, .inr (.inl a0_27_f))), (a0_28, .inl (a0_28_c, 48, .inl a0_28_f)), (a0_29, .inl (a0_29_c, 48, .inl a0_29_f)), (a0_30, .inl (a0_30_c, 48, .inl a0_30_f)), (a0_31, .inl (a0_31_c, 48, .inl a0_31_f))] sz) U)) (va_Qi (fun (r : Int32) (u : Int32) => u = r) (fun (u : Int32) (t : State) => ∃ (za0_7 : Int32) (za0_8 : Int32) (za0_9 : Int32) (za0_10 : Int32) (za0_11 : Int64) (za0_12 : Int32) (za0_13 : Int32) (za0_14 : Int32) (za0_15 : Int32) (za0_16 : Int32) (za0_36 : Int64) (za0_37 : Int32) (za0_20_f : Nat → Int32) (za0_27_f : Nat → Int64) (za0_28_f : Nat → Int32) (za0_29_f : Nat → Int32) (za0_30_f : Nat → Int32) (za0_31_f : Nat → Int32), (0 ≤ za0_7.toInt ∧ za0_7.toInt ≤ 1000) ∧ (0 ≤ za0_8.toInt ∧ za0_8.toInt ≤ 1000) ∧ ((-1) ≤ za0_37.toInt ∧ za0_37.toInt ≤ 23) ∧ vr 0 24 za0_20_f ∧ (u = 0 ∨ u = 1) ∧ (u.toInt = 1 → (za0_20_f a0_17.toNatClampNeg).toInt = (a0_20_f a0_17.toNatClampNeg).toInt + 1) ∧ (KP 1 a0_20_f za0_20_f) ∧ (PTOk za0_28_f (za0_20_f a0_17.toNatClampNeg).toInt) ∧ va_P (dC, dI) vwCl [(a0, .inr (8, [.int a0_0, .int a0_1, .int a0_2, .int a0_3, .ref a0_4, .int a0_5, .int a0_6, .int za0_7, .int za0_8, .int za0_9, .int za0_10, .long za0_11, .int za0_12, .int za0_13, .int za0_14, .int za0_15, .int za0_16, .int a0_17, .ref a0_18, .ref a0_19, .ref a0_20, .ref a0_21, .ref a0_22, .ref a0_23, .ref a0_24, .ref a0_25, .ref a0_26, .ref a0_27, .ref a0_28, .ref a0_29, .ref a0_30, .ref a0_31, .ref a0_32, .ref a0_33, .ref a0_34, .ref a0_35, .long za0_36, .int za0_37, .ref a0_38, .ref a0_39, .int a0_40, .ref a0_41, .ref a0_42, .ref a0_43])), (a0_4, .inl (a0_4_c, 1000, .inl a0_4_f)), (a0_18, .inl (a0_18_c, 2, .inl a0_18_f)), (a0_19, .inl (a0_19_c, 2, .inl a0_19_f)), (a0_20, .inl (a0_20_c, 2, .inl za0_20_f)), (a0_22, .inl (a0_22_c, 16, .inr (.inl a0_22_f))), (a0_25, .inl (a0_25_c, 8, .inr (.inl a0_25_f))), (a0_27, .inl (a0_27_c, 48, .inr (.inl za0_27_f))), (a0_28, .inl (a0_28_c, 48, .inl za0_28_f)), (a0_29, .inl (a0_29_c, 48, .inl za0_29_f)), (a0_30, .inl (a0_30_c, 48, .inl za0_30_f)), (a0_31, .inl (a0_31_c, 48, .inl za0_31_f))] t.heap ∧ va_K (dC, dI) vwCl [] t ∧ va_D (va_A [(a0, .inr (8, [.int a0_0, .int a0_1, .int a0_2, .int a0_3, .ref a0_4, .int a0_5, .int a0_6, .int a0_7, .int a0_8, .int a0_9, .int a0_10, .long a0_11, .int a0_12, .int a0_13, .int a0_14, .int a0_15, .int a0_16, .int a0_17, .ref a0_18, .ref a0_19, .ref a0_20, .ref a0_21, .ref a0_22, .ref a0_23, .ref a0_24, .ref a0_25, .ref a0_26, .ref a0_27, .ref a0_28, .ref a0_29, .ref a0_30, .ref a0_31, .ref a0_32, .ref a0_33, .ref a0_34, .ref a0_35, .long a0_36, .int a0_37, .ref a0_38, .ref a0_39, .int a0_40, .ref a0_41, .ref a0_42, .ref a0_43])), (a0_4, .inl (a0_4_c, 1000, .inl a0_4_f)), (a0_18, .inl (a0_18_c, 2, .inl a0_18_f)), (a0_19, .inl (a0_19_c, 2, .inl a0_19_f)), (a0_20, .inl (a0_20_c, 2, .inl a0_20_f)), (a0_22, .inl (a0_22_c, 16, .inr (.inl a0_22_f))), (a0_25, .inl (a0_25_c, 8, .inr (.inl a0_25_f))), (a0_27, .inl (a0_27_c, 48, .inr (.inl a0_27_f))), (a0_28, .inl (a0_28_c, 48, .inl a0_28_f)), (a0_29, .inl (a0_29_c, 48, .inl a0_29_f)), (a0_30, .inl (a0_30_c, 48, .inl a0_30_f)), (a0_31, .inl (a0_31_c, 48, .inl a0_31_f))] sz) [(a0, .inr (8, [.int a0_0, .int a0_1, .int a0_2, .int a0_3, .ref a0_4, .int a0_5, .int a0_6, .int za0_7, .int za0_8, .int za0_9, .int za0_10, .long za0_11, .int za0_12, .int za0_13, .int za0_14, .int za0_15, .int za0_16, .int a0_17, .ref a0_18, .ref a0_19, .ref a0_20, .ref a0_21, .ref a0_22, .ref a0_23, .ref a0_24, .ref a0_25, .ref a0_26, .ref a0_27, .ref a0_28, .ref a0_29, .ref a0_30, .ref a0_31, .ref a0_32, .ref a0_33, .ref a0_34, .ref a0_35, .long za0_36, .int za0_37, .ref a0_38, .ref a0_39, .int a0_40, .ref a0_41, .ref a0_42, .ref a0_43])), (a0_4, .inl (a0_4_c, 1000, .inl a0_4_f)), (a0_18, .inl (a0_18_c, 2, .inl a0_18_f)), (a0_19, .inl (a0_19_c, 2, .inl a0_19_f)), (a0_20, .inl (a0_20_c, 2, .inl za0_20_f)), (a0_22, .inl (a0_22_c, 16, .inr (.inl a0_22_f))), (a0_25, .inl (a0_25_c, 8, .inr (.inl a0_25_f))), (a0_27, .inl (a0_27_c, 48, .inr (.inl za0_27_f))), (a0_28, .inl (a0_28_c, 48, .inl za0_28_f)), (a0_29, .inl (a0_29_c, 48, .inl za0_29_f)), (a0_30, .inl (a0_30_c, 48, .inl za0_30_f)), (a0_31, .inl (a0_31_c, 48, .inl za0_31_f))]) (va_A [(a0, .inr (8, [.int a0_0, .int a0_1, .int a0_2, .int a0_3, .ref a0_4, .int a0_5, .int a0_6, .int a0_7, .int a0_8, .int a0_9, .int a0_10, .long a0_11, .int a0_12, .int a0_13, .int a0_14, .int a0_15, .int a0_16, .int a0_17, .ref a0_18, .ref a0_19, .ref a0_20, .ref a0_21, .ref a0_22, .ref a0_23, .ref a0_24, .ref a0_25, .ref a0_26, .ref a0_27, .ref a0_28, .ref a0_29, .ref a0_30, .ref a0_31, .ref a0_32, .ref a0_33, .ref a0_34, .ref a0_35, .long a0_36, .int a0_37, .ref a0_38, .ref a0_39, .int a0_40, .ref a0_41, .ref a0_42, .ref a0_43])), (a0_4, .inl (a0_4_c, 1000, .inl a0_4_f)), (a0_18, .inl (a0_18_c, 2, .inl a0_18_f)), (a0_19, .inl (a0_19_c, 2, .inl a0_19_f)), (a0_20, .inl (a0_20_c, 2, .inl a0_20_f)), (a0_22, .inl (a0_22_c, 16, .inr (.inl a0_22_f))), (a0_25, .inl (a0_25_c, 8, .inr (.inl a0_25_f))), (a0_27, .inl (a0_27_c, 48, .inr (.inl a0_27_f))), (a0_28, .inl (a0_28_c, 48, .inl a0_28_f)), (a0_29, .inl (a0_29_c, 48, .inl a0_29_f)), (a0_30, .inl (a0_30_c, 48, .inl a0_30_f)), (a0_31, .inl (a0_31_c, 48, .inl a0_31_f))] sz)) 0 0 (va_A [(a0, .inr (8, [.int a0_0, .int a0_1, .int a0_2, .int a0_3, .ref a0_4, .int a0_5, .int a0_6, .int a0_7, .int a0_8, .int a0_9, .int a0_10, .long a0_11, .int a0_12, .int a0_13, .int a0_14, .int a0_15, .int a0_16, .int a0_17, .ref a0_18, .ref a0_19, .ref a0_20, .ref a0_21, .ref a0_22, .ref a0_23, .ref a0_24, .ref a0_25, .ref a0_26, .ref a0_27, .ref a0_28, .ref a0_29, .ref a0_30, .ref a0_31, .ref a0_32, .ref a0_33, .ref a0_34, .ref a0_35, .long a0_36, .int a0_37, .ref a0_38, .ref a0_39, .int a0_40, .ref a0_41, .ref a0_42, .ref a0_43])), (a0_4, .inl (a0_4_c, 1000, .inl a0_4_f)), (a0_18, .inl (a0_18_c, 2, .inl a0_18_f)), (a0_19, .inl (a0_19_c, 2, .inl a0_19_f)), (a0_20, .inl (a0_20_c, 2, .inl a0_20_f)), (a0_22, .inl (a0_22_c, 16, .inr (.inl a0_22_f))), (a0_25, .inl (a0_25_c, 8, .inr (.inl a0_25_f))), (a0_27, .inl (a0_27_c, 48, .inr (.inl a0_27_f))), (a0_28, .inl (a0_28_c, 48, .inl a0_28_f)), (a0_29, .inl (a0_29_c, 48, .inl a0_29_f)), (a0_30, .inl (a0_30_c, 48, .inl a0_30_f)), (a0_31, .inl (a0_31_c, 48, .inl a0_31_f))] sz) := by
  refine Met.ofW (cc := cX9_pieceLine) (maxL := 4) (ret := (some .boolean)) (by decide) rfl ?_
  intro p e s m args below meth c s₁ B hml hv
  obtain ⟨rfl, hsz, hP, hK, hD0, hE⟩ := hv
  have hx := B.exec
  have hb := B.bytes
  have hr := B.returns
  have hts0 := atoms_spec (ws := (.code yX9_pieceLine cX9_pieceLine 4 (some .boolean) :: TBL)) B.pre
  have hts := fun (w : Cond) (h : w ∈ TBL) => hts0 w (List.mem_cons_of_mem _ h)
  have hown : s.vm.findClass RX9 = some m.cls := findClass_of_methodNamed B.named
  have hlocks := B.notSynchronized
  have hN := hE.1
  subst hsz
  have hD := hD0.self (sz := s.heap.size)
  generalize hAe : va_A [(a0, .inr (8, [.int a0_0, .int a0_1, .int a0_2, .int a0_3, .ref a0_4, .int a0_5, .int a0_6, .int a0_7, .int a0_8, .int a0_9, .int a0_10, .long a0_11, .int a0_12, .int a0_13, .int a0_14, .int a0_15, .int a0_16, .int a0_17, .ref a0_18, .ref a0_19, .ref a0_20, .ref a0_21, .ref a0_22, .ref a0_23, .ref a0_24, .ref a0_25, .ref a0_26, .ref a0_27, .ref a0_28, .ref a0_29, .ref a0_30, .ref a0_31, .ref a0_32, .ref a0_33, .ref a0_34, .ref a0_35, .long a0_36, .int a0_37, .ref a0_38, .ref a0_39, .int a0_40, .ref a0_41, .ref a0_42, .ref a0_43])), (a0_4, .inl (a0_4_c, 1000, .inl a0_4_f)), (a0_18, .inl (a0_18_c, 2, .inl a0_18_f)), (a0_19, .inl (a0_19_c, 2, .inl a0_19_f)), (a0_20, .inl (a0_20_c, 2, .inl a0_20_f)), (a0_22, .inl (a0_22_c, 16, .inr (.inl a0_22_f))), (a0_25, .inl (a0_25_c, 8, .inr (.inl a0_25_f))), (a0_27, .inl (a0_27_c, 48, .inr (.inl a0_27_f))), (a0_28, .inl (a0_28_c, 48, .inl a0_28_f)), (a0_29, .inl (a0_29_c, 48, .inl a0_29_f)), (a0_30, .inl (a0_30_c, 48, .inl a0_30_f)), (a0_31, .inl (a0_31_c, 48, .inl a0_31_f))] s.heap.size = A at hD hE ⊢
  have hA : ∀ q : Nat, s.heap.size ≤ q → A q := fun q h => by rw [← hAe]; exact Or.inr h
  have hS : va_S A s.heap s.heap [] := va_S.rf
  replace hP : va_P (dC, dI) vwCl [(a0, .inr (8, [.int a0_0, .int a0_1, .int a0_2, .int a0_3, .ref a0_4, .int a0_5, .int a0_6, .int a0_7, .int a0_8, .int a0_9, .int a0_10, .long a0_11, .int a0_12, .int a0_13, .int a0_14, .int a0_15, .int a0_16, .int a0_17, .ref a0_18, .ref a0_19, .ref a0_20, .ref a0_21, .ref a0_22, .ref a0_23, .ref a0_24, .ref a0_25, .ref a0_26, .ref a0_27, .ref a0_28, .ref a0_29, .ref a0_30, .ref a0_31, .ref a0_32, .ref a0_33, .ref a0_34, .ref a0_35, .long a0_36, .int a0_37, .ref a0_38, .ref a0_39, .int a0_40, .ref a0_41, .ref a0_42, .ref a0_43])), (a0_4, .inl (a0_4_c, 1000, .inl a0_4_f)), (a0_18, .inl (a0_18_c, 2, .inl a0_18_f)), (a0_19, .inl (a0_19_c, 2, .inl a0_19_f)), (a0_20, .inl (a0_20_c, 2, .inl a0_20_f)), (a0_22, .inl (a0_22_c, 16, .inr (.inl a0_22_f))), (a0_25, .inl (a0_25_c, 8, .inr (.inl a0_25_f))), (a0_27, .inl (a0_27_c, 48, .inr (.inl a0_27_f))), (a0_28, .inl (a0_28_c, 48, .inl a0_28_f)), (a0_29, .inl (a0_29_c, 48, .inl a0_29_f)), (a0_30, .inl (a0_30_c, 48, .inl a0_30_f)), (a0_31, .inl (a0_31_c, 48, .inl a0_31_f))] s.heap := hP
  have hl := lv_entry ([.ref a0]) (n := 4) (Nat.le_of_ble_eq_true rfl)
  rw [lg_entry_eq]
  generalize (lg_sl ([.ref a0]) ++ List.replicate (4 - (lg_sl ([.ref a0])).length) Slot.unset).toArray = ls at hl ⊢
  have hl : lv_has ls 4 [(0, .ref a0)] := hl
  have b_a0_0 := i32b a0_0
  have b_a0_1 := i32b a0_1
  have b_a0_2 := i32b a0_2
  have b_a0_3 := i32b a0_3
  have b_a0_9 := i32b a0_9
  have b_a0_10 := i32b a0_10
  have b_a0_12 := i32b a0_12
  have b_a0_13 := i32b a0_13
  have b_a0_14 := i32b a0_14
  have b_a0_15 := i32b a0_15
  have b_a0_16 := i32b a0_16
  have hpl20 := vr_at h_a0_20_f (k := a0_17.toNatClampNeg) rfl
  refine lv_aload_n hx hb dX9_pieceLine_0 rfl (lv_at hl 0 rfl) ?_
  have hPc := (rgP12_335202d hP)
  have hKc := (rgK11_7d74d5c hK)
  have hDc := (rgD12_2bba977 hD)
  have hFc := freeW hDc hS hA
  refine va_calli (va_runV (As := []) (rest := []) ⟨hx, hb, hml, hown, hts⟩ (k_X9_newName l dC dI g s.heap.size (a0) (a0_0) (a0_1) (a0_2) (a0_3) (a0_4) (a0_5) (a0_6) (a0_7) (a0_8) (a0_9) (a0_10) (a0_11) (a0_12) (a0_13) (a0_14) (a0_15) (a0_16) (a0_17) (a0_18) (a0_19) (a0_20) (a0_21) (a0_22) (a0_23) (a0_24) (a0_25) (a0_26) (a0_27) (a0_28) (a0_29) (a0_30) (a0_31) (a0_32) (a0_33) (a0_34) (a0_35) (a0_36) (a0_37) (a0_38) (a0_39) (a0_40) (a0_41) (a0_42) (a0_43) (a0_4_c) (a0_4_f) (a0_18_c) (a0_18_f) (a0_19_c) (a0_19_f) (a0_20_c) (a0_20_f) (a0_22_c) (a0_22_f) (a0_25_c) (a0_25_f) (a0_27_c) (a0_27_f) (by omega) (by omega) (by omega) (by omega) (by omega) (by omega) (by omega) h_a0_18_f h_a0_19_f h_a0_20_f) (cwV 0 hts (gwV qw_555 qw_556 qw_557 qw_386 qw_554) rfl rfl rfl (by decide +kernel) ⟨Nat.le_of_ble_eq_true rfl, Nat.le_of_ble_eq_true rfl⟩) ⟨fun a U g9 mk q => ⟨q.1, q.2.1, q.2.2.1, va_K.moved (u := U) (U := U.calling g9 mk a) (Vm.Alike.refl U.vm) q.2.2.2.1, q.2.2.2.2.1, Ev.bl q.2.2.2.2.2⟩, va_recv hK hP (ci := 8) (q0 := 0) rfl rgL12_062fd34, fun U hU hW => ⟨rfl, by rw [hU], atB hU hPc, va_K.moved hW.alike hKc, hDc.weaken (fun _ _ _ _ => trivial), hE.go hS hFc hU hW⟩⟩ rfl rfl hl.1 rfl (lv_room (Nat.le_of_ble_eq_true rfl)) dX9_pieceLine_1 ⟨Nat.le_of_ble_eq_true rfl, Nat.le_of_ble_eq_true rfl⟩) hS (fun q _ h => hFc q h) hFc (fun r2 u1 t H1 locs ht hvm h_u1 hB hz1 hk1 hS => ?_)
  obtain ⟨za0_7_3, za0_8_4, za0_9_5, za0_10_6, za0_11_7, za0_12_8, za0_13_9, za0_36_10, hF11, hF12, hF13, hP1, hK1, hD1⟩ := hB
  have hK1 := va_K.moved hvm.symm hK1
  have hJ9 := rgJ12_2385b4d hP hD hk1 hFc (atH ht hP1) hD1
  clear hP hD hPc hKc hDc hFc hP1 hD1 hk1 hz1
  obtain ⟨hP, hD⟩ := hJ9
  clear hK1
  generalize H1 = H at hP hS ⊢
  refine W.widen (k := 0) (n := 0) (Nat.le_of_ble_eq_true rfl) (Nat.le_of_ble_eq_true rfl) ?_
  have h_r2 := congrArg Int32.toInt h_u1
  have hz_r2 : r2 = 0 ∨ r2 = 1 := h_u1 ▸ hF13
  have b_r2 := z01 hz_r2
  refine lv_if_ne (tgt := 9) hx hb dX9_pieceLine_4 (by decide) (fun c4_14 => ?_) (fun c4_14 => ?_)
  · have c4_14 : ¬ (r2.toInt = 0) := mt (cv_eq rfl (by decide)).mpr c4_14
    refine lv_aload_n hx hb dX9_pieceLine_9 rfl (lv_at hl 0 rfl) ?_
    refine va_get (D := (dC, dI)) (ci := 8) (v := .long za0_36_10) (C := RX9) (T := TX9) (N := 44) hx hb hts inlX9 hown hK hP 0 rgL12_062fd34 rfl 36 (by decide) (hts (.fieldLink RX9 271 "ClosedUntilModel" "nameHere" "J") qw_498) (fun _ h9 => h9) rfl dX9_pieceLine_10 ?_
    refine lv_lstore_n (lv' := [(1, .long za0_36_10), (0, .ref a0)]) hx hb dX9_pieceLine_13 rfl hl (by decide) rfl (fun ls hl => ?_)
    refine lv_bipush (v := 24) hx hb dX9_pieceLine_14 (by decide) ?_
    refine lv_aload_n hx hb dX9_pieceLine_16 rfl (lv_at hl 1 rfl) ?_
    refine va_get (D := (dC, dI)) (ci := 8) (v := .int a0_17) (C := RX9) (T := TX9) (N := 44) hx hb hts inlX9 hown hK hP 0 rgL12_062fd34 rfl 17 (by decide) (hts (.fieldLink RX9 256 "ClosedUntilModel" "bench" "I") qw_435) (fun _ h9 => h9) rfl dX9_pieceLine_17 ?_
    refine lv_imul hx hb dX9_pieceLine_20 ?_
    refine lv_topi (fun x15 e_x15 => ?_)
    try have e_x15 := ti_mul e_x15 (show (24 : Int32).toInt = 24 by decide) rfl (by omega)
    refine lv_aload_n hx hb dX9_pieceLine_21 rfl (lv_at hl 1 rfl) ?_
    refine va_get (D := (dC, dI)) (ci := 8) (v := .ref a0_20) (C := RX9) (T := TX9) (N := 44) hx hb hts inlX9 hown hK hP 0 rgL12_062fd34 rfl 20 (by decide) (hts (.fieldLink RX9 20 "ClosedUntilModel" "pieces" "[I") qw_439) (fun _ h9 => h9) rfl dX9_pieceLine_22 ?_
    refine lv_aload_n hx hb dX9_pieceLine_25 rfl (lv_at hl 1 rfl) ?_
    refine va_get (D := (dC, dI)) (ci := 8) (v := .int a0_17) (C := RX9) (T := TX9) (N := 44) hx hb hts inlX9 hown hK hP 0 rgL12_062fd34 rfl 17 (by decide) (hts (.fieldLink RX9 256 "ClosedUntilModel" "bench" "I") qw_435) (fun _ h9 => h9) rfl dX9_pieceLine_26 ?_
    refine va_iald hx hb hK hP 4 3 rgL12_12520d7 rgT11_4f72b73 (vinI (by omega) (by omega)) dX9_pieceLine_29 ?_
    refine lv_topi (fun x16 e_x16 => ?_)
    have q_x16 := congrArg Int32.toInt e_x16
    have b_x16 : 0 ≤ x16.toInt ∧ x16.toInt ≤ 24 := vr_at (lo := 0) (hi := 24) (f := a0_20_f) h_a0_20_f e_x16
    refine lv_iadd hx hb dX9_pieceLine_30 ?_
    refine lv_topi (fun x17 e_x17 => ?_)
    try have e_x17 := ti_add e_x17 rfl rfl (by omega)
    refine lv_istore_n (lv' := [(3, .int x17), (1, .long za0_36_10), (0, .ref a0)]) hx hb dX9_pieceLine_31 rfl hl (by decide) rfl (fun ls hl => ?_)
    refine lv_aload_n hx hb dX9_pieceLine_32 rfl (lv_at hl 2 rfl) ?_
    refine va_get (D := (dC, dI)) (ci := 8) (v := .ref a0_28) (C := RX9) (T := TX9) (N := 44) hx hb hts inlX9 hown hK hP 0 rgL12_062fd34 rfl 28 (by decide) (hts (.fieldLink RX9 45 "ClosedUntilModel" "parentTold" "[I") qw_567) (fun _ h9 => h9) rfl dX9_pieceLine_33 ?_
    refine lv_iload_n hx hb dX9_pieceLine_36 rfl (lv_at hl 0 rfl) ?_
    refine lv_iconst (v := (-1)) hx hb dX9_pieceLine_37 (by decide) ?_
    refine va_iast hx hb hK hP hD hS 8 7 rgL12_a923e29 rgT11_33e0f70 (vinI (by omega) (by omega)) dX9_pieceLine_38 (fun H locs hP9 hD9 hS9 => ?_)
    obtain ⟨y18, e_y18⟩ : ∃ y, (upd a0_28_f x17.toNatClampNeg ((-1))) = y := ⟨_, rfl⟩
    clear hP hD hS
    obtain ⟨hP, hD⟩ := rgS12_8f96eaa (e := (a0_28, .inl (a0_28_c, 48, .inl y18))) hP9 hD9 (congrArg (fun z9 => (((a0_28, .inl (a0_28_c, 48, .inl z9)) : Nat × va_E))) e_y18)
    have hS := hS9; clear hP9 hD9 hS9
    have hpt1 := PTOk.keep hpt e_y18 (by omega) (by omega)
    have hv1 : (y18 x17.toNatClampNeg).toInt = -1 ∨ (0 ≤ (y18 x17.toNatClampNeg).toInt ∧ (y18 x17.toNatClampNeg).toInt < (a0_20_f a0_17.toNatClampNeg).toInt) := Or.inl (by rw [upd_eq e_y18]; decide)
    refine lv_aload_n hx hb dX9_pieceLine_39 rfl (lv_at hl 2 rfl) ?_
    refine va_get (D := (dC, dI)) (ci := 8) (v := .ref a0_30) (C := RX9) (T := TX9) (N := 44) hx hb hts inlX9 hown hK hP 0 rgL12_062fd34 rfl 30 (by decide) (hts (.fieldLink RX9 51 "ClosedUntilModel" "ofPeople" "[I") qw_500) (fun _ h9 => h9) rfl dX9_pieceLine_40 ?_
    refine lv_iload_n hx hb dX9_pieceLine_43 rfl (lv_at hl 0 rfl) ?_
    refine lv_iconst (v := 0) hx hb dX9_pieceLine_44 (by decide) ?_
    refine va_iast hx hb hK hP hD hS 10 9 rgL12_b9b776c rgT11_da469ea (vinI (by omega) (by omega)) dX9_pieceLine_45 (fun H locs hP9 hD9 hS9 => ?_)
    obtain ⟨y19, e_y19⟩ : ∃ y, (upd a0_30_f x17.toNatClampNeg (0)) = y := ⟨_, rfl⟩
    clear hP hD hS
    obtain ⟨hP, hD⟩ := rgS12_5913c08 (e := (a0_30, .inl (a0_30_c, 48, .inl y19))) hP9 hD9 (congrArg (fun z9 => (((a0_30, .inl (a0_30_c, 48, .inl z9)) : Nat × va_E))) e_y19)
    have hS := hS9; clear hP9 hD9 hS9
    refine lv_aload_n hx hb dX9_pieceLine_46 rfl (lv_at hl 2 rfl) ?_
    refine va_get (D := (dC, dI)) (ci := 8) (v := .ref a0_31) (C := RX9) (T := TX9) (N := 44) hx hb hts inlX9 hown hK hP 0 rgL12_062fd34 rfl 31 (by decide) (hts (.fieldLink RX9 54 "ClosedUntilModel" "ofDeposit" "[I") qw_509) (fun _ h9 => h9) rfl dX9_pieceLine_47 ?_
    refine lv_iload_n hx hb dX9_pieceLine_50 rfl (lv_at hl 0 rfl) ?_
    refine lv_iconst (v := (-1)) hx hb dX9_pieceLine_51 (by decide) ?_
    refine va_iast hx hb hK hP hD hS 11 10 rgL12_827ade5 rgT11_0e4f932 (vinI (by omega) (by omega)) dX9_pieceLine_52 (fun H locs hP9 hD9 hS9 => ?_)
    obtain ⟨y20, e_y20⟩ : ∃ y, (upd a0_31_f x17.toNatClampNeg ((-1))) = y := ⟨_, rfl⟩
    clear hP hD hS
    obtain ⟨hP, hD⟩ := rgS12_18878dc (e := (a0_31, .inl (a0_31_c, 48, .inl y20))) hP9 hD9 (congrArg (fun z9 => (((a0_31, .inl (a0_31_c, 48, .inl z9)) : Nat × va_E))) e_y20)
    have hS := hS9; clear hP9 hD9 hS9
    refine lv_aload_n hx hb dX9_pieceLine_53 rfl (lv_at hl 2 rfl) ?_
    refine va_ldcS hx hb hown (show vk_R RX9 219 "in" (g.2.2.2.2.2.1 5) s from hE.2.2.2.2.2.2.2.2.2.2.2.2.2.2.2.2 5 (by decide)) dX9_pieceLine_54 ?_
    have hPc := (rgP12_bf1ec98 hP)
    have hKc := (rgK11_5a6413e hK)
    have hDc := (rgD12_4f57cf8 hD)
    have hFc := freeW hDc hS hA
    refine va_calli (va_runV (As := [.ref (g.2.2.2.2.2.1 5)]) (rest := []) ⟨hx, hb, hml, hown, hts⟩ (k_X9_takes l dC dI g H.size (a0) (5) (a0_0) (a0_1) (a0_2) (a0_3) (a0_4) (a0_5) (a0_6) (za0_7_3) (za0_8_4) (za0_9_5) (za0_10_6) (za0_11_7) (za0_12_8) (za0_13_9) (a0_14) (a0_15) (a0_16) (a0_17) (a0_18) (a0_19) (a0_20) (a0_21) (a0_22) (a0_23) (a0_24) (a0_25) (a0_26) (a0_27) (a0_28) (a0_29) (a0_30) (a0_31) (a0_32) (a0_33) (a0_34) (a0_35) (za0_36_10) (a0_37) (a0_38) (a0_39) (a0_40) (a0_41) (a0_42) (a0_43) (a0_4_c) (a0_4_f) (by omega) (by omega) (by omega) (by omega) (by omega) (by omega) (by omega) (by first | assumption | decide)) (cwV 1 hts (gwV qw_560 qw_561 qw_562 qw_386 qw_559) rfl rfl rfl (by decide +kernel) ⟨Nat.le_of_ble_eq_true rfl, Nat.le_of_ble_eq_true rfl⟩) ⟨fun a U g9 mk q => ⟨q.1, q.2.1, q.2.2.1, va_K.moved (u := U) (U := U.calling g9 mk a) (Vm.Alike.refl U.vm) q.2.2.2.1, q.2.2.2.2.1, Ev.bl q.2.2.2.2.2⟩, va_recv hK hP (ci := 8) (q0 := 0) rfl rgL12_062fd34, fun U hU hW => ⟨rfl, by rw [hU], atB hU hPc, va_K.moved hW.alike hKc, hDc.weaken (fun _ _ _ _ => trivial), hE.go hS hFc hU hW⟩⟩ rfl rfl hl.1 rfl (lv_room (Nat.le_of_ble_eq_true rfl)) dX9_pieceLine_56 ⟨Nat.le_of_ble_eq_true rfl, Nat.le_of_ble_eq_true rfl⟩) hS (fun q _ h => hFc q h) hFc (fun r22 u21 t H1 locs ht hvm h_u21 hB hz1 hk1 hS => ?_)
    obtain ⟨za0_7_23, za0_8_24, za0_9_25, za0_10_26, za0_11_27, hF28, hF29, hF30, hP1, hK1, hD1⟩ := hB
    have hK1 := va_K.moved hvm.symm hK1
    have hJ9 := rgJ12_4e82a22 hP hD hk1 hFc (atH ht hP1) hD1
    clear hP hD hPc hKc hDc hFc hP1 hD1 hk1 hz1
    obtain ⟨hP, hD⟩ := hJ9
    clear hK1
    generalize H1 = H at hP hS ⊢
    refine W.widen (k := 0) (n := 0) (Nat.le_of_ble_eq_true rfl) (Nat.le_of_ble_eq_true rfl) ?_
    have h_r22 := congrArg Int32.toInt h_u21
    have hz_r22 : r22 = 0 ∨ r22 = 1 := h_u21 ▸ hF30
    have b_r22 := z01 hz_r22
    refine lv_if_eq (tgt := 82) hx hb dX9_pieceLine_59 (by decide) (fun c59_31 => ?_) (fun c59_31 => ?_)
    · have c59_31 : r22.toInt = 0 := (cv_eq rfl (by decide)).mp c59_31
      refine lv_aload_n hx hb dX9_pieceLine_82 rfl (lv_at hl 2 rfl) ?_
      have hPc := (rgP12_bf1ec98 hP)
      have hKc := (rgK11_5a6413e hK)
      have hDc := (rgD12_4f57cf8 hD)
      have hFc := freeW hDc hS hA
      refine va_calli (va_runV (As := []) (rest := []) ⟨hx, hb, hml, hown, hts⟩ (k_X9_takesDate l dC dI g H.size (a0) (a0_0) (a0_1) (a0_2) (a0_3) (a0_4) (a0_5) (a0_6) (za0_7_23) (za0_8_24) (za0_9_25) (za0_10_26) (za0_11_27) (za0_12_8) (za0_13_9) (a0_14) (a0_15) (a0_16) (a0_17) (a0_18) (a0_19) (a0_20) (a0_21) (a0_22) (a0_23) (a0_24) (a0_25) (a0_26) (a0_27) (a0_28) (a0_29) (a0_30) (a0_31) (a0_32) (a0_33) (a0_34) (a0_35) (za0_36_10) (a0_37) (a0_38) (a0_39) (a0_40) (a0_41) (a0_42) (a0_43) (a0_4_c) (a0_4_f) (by omega) (by omega) (by omega) (by omega) (by omega) (by omega) (by omega)) (cwV 0 hts (gwV qw_564 qw_565 qw_566 qw_386 qw_563) rfl rfl rfl (by decide +kernel) ⟨Nat.le_of_ble_eq_true rfl, Nat.le_of_ble_eq_true rfl⟩) ⟨fun a U g9 mk q => ⟨q.1, q.2.1, q.2.2.1, va_K.moved (u := U) (U := U.calling g9 mk a) (Vm.Alike.refl U.vm) q.2.2.2.1, q.2.2.2.2.1, Ev.bl q.2.2.2.2.2⟩, va_recv hK hP (ci := 8) (q0 := 0) rfl rgL12_062fd34, fun U hU hW => ⟨rfl, by rw [hU], atB hU hPc, va_K.moved hW.alike hKc, hDc.weaken (fun _ _ _ _ => trivial), hE.go hS hFc hU hW⟩⟩ rfl rfl hl.1 rfl (lv_room (Nat.le_of_ble_eq_true rfl)) dX9_pieceLine_83 ⟨Nat.le_of_ble_eq_true rfl, Nat.le_of_ble_eq_true rfl⟩) hS (fun q _ h => hFc q h) hFc (fun r33 u32 t H1 locs ht hvm h_u32 hB hz1 hk1 hS => ?_)
      obtain ⟨za0_7_34, za0_8_35, za0_9_36, za0_10_37, za0_11_38, za0_12_39, za0_13_40, za0_14_41, za0_15_42, za0_16_43, hF44, hF45, hF46, hP1, hK1, hD1⟩ := hB
      have hK1 := va_K.moved hvm.symm hK1
      have hJ9 := rgJ12_4e82a22 hP hD hk1 hFc (atH ht hP1) hD1
      clear hP hD hPc hKc hDc hFc hP1 hD1 hk1 hz1
      obtain ⟨hP, hD⟩ := hJ9
      clear hK1
      generalize H1 = H at hP hS ⊢
      refine W.widen (k := 0) (n := 0) (Nat.le_of_ble_eq_true rfl) (Nat.le_of_ble_eq_true rfl) ?_
      have h_r33 := congrArg Int32.toInt h_u32
      have hz_r33 : r33 = 0 ∨ r33 = 1 := h_u32 ▸ hF46
      have b_r33 := z01 hz_r33
      refine lv_if_ne (tgt := 91) hx hb dX9_pieceLine_86 (by decide) (fun c86_47 => ?_) (fun c86_47 => ?_)
      · have c86_47 : ¬ (r33.toInt = 0) := mt (cv_eq rfl (by decide)).mpr c86_47
        refine lv_aload_n hx hb dX9_pieceLine_91 rfl (lv_at hl 2 rfl) ?_
        refine va_get (D := (dC, dI)) (ci := 8) (v := .ref a0_29) (C := RX9) (T := TX9) (N := 44) hx hb hts inlX9 hown hK hP 0 rgL12_062fd34 rfl 29 (by decide) (hts (.fieldLink RX9 48 "ClosedUntilModel" "lastDay" "[I") qw_515) (fun _ h9 => h9) rfl dX9_pieceLine_92 ?_
        refine lv_iload_n hx hb dX9_pieceLine_95 rfl (lv_at hl 0 rfl) ?_
        refine lv_aload_n hx hb dX9_pieceLine_96 rfl (lv_at hl 2 rfl) ?_
        refine va_get (D := (dC, dI)) (ci := 8) (v := .int za0_15_42) (C := RX9) (T := TX9) (N := 44) hx hb hts inlX9 hown hK hP 0 rgL12_062fd34 rfl 15 (by decide) (hts (.fieldLink RX9 253 "ClosedUntilModel" "dateHere" "I") qw_481) (fun _ h9 => h9) rfl dX9_pieceLine_97 ?_
        refine va_iast hx hb hK hP hD hS 9 8 rgL12_93f4a03 rgT11_c2c91f9 (vinI (by omega) (by omega)) dX9_pieceLine_100 (fun H locs hP9 hD9 hS9 => ?_)
        obtain ⟨y48, e_y48⟩ : ∃ y, (upd a0_29_f x17.toNatClampNeg za0_15_42) = y := ⟨_, rfl⟩
        clear hP hD hS
        obtain ⟨hP, hD⟩ := rgS12_a37ab15 (e := (a0_29, .inl (a0_29_c, 48, .inl y48))) hP9 hD9 (congrArg (fun z9 => (((a0_29, .inl (a0_29_c, 48, .inl z9)) : Nat × va_E))) e_y48)
        have hS := hS9; clear hP9 hD9 hS9
        refine lv_aload_n hx hb dX9_pieceLine_101 rfl (lv_at hl 2 rfl) ?_
        refine lv_iload_n hx hb dX9_pieceLine_102 rfl (lv_at hl 0 rfl) ?_
        have hPc := (rgP12_8e0773e hP)
        have hKc := (rgK11_38a35ce hK)
        have hDc := (rgD12_da36770 hD)
        have hFc := freeW hDc hS hA
        refine va_calli (va_runV (As := [.int x17]) (rest := []) ⟨hx, hb, hml, hown, hts⟩ (k_X9_takesOf l dC dI g H.size (a0) (x17) (a0_0) (a0_1) (a0_2) (a0_3) (a0_4) (a0_5) (a0_6) (za0_7_34) (za0_8_35) (za0_9_36) (za0_10_37) (za0_11_38) (za0_12_39) (za0_13_40) (za0_14_41) (za0_15_42) (za0_16_43) (a0_17) (a0_18) (a0_19) (a0_20) (a0_21) (a0_22) (a0_23) (a0_24) (a0_25) (a0_26) (a0_27) (a0_28) (a0_29) (a0_30) (a0_31) (a0_32) (a0_33) (a0_34) (a0_35) (za0_36_10) (a0_37) (a0_38) (a0_39) (a0_40) (a0_41) (a0_42) (a0_43) (a0_4_c) (a0_4_f) (a0_18_c) (a0_18_f) (a0_22_c) (a0_22_f) (a0_30_c) (y19) (by omega) (by omega) (by omega) (by omega) (by omega) (by omega) (by omega) h_a0_18_f (by omega)) (cwV 1 hts (gwV qw_569 qw_570 qw_571 qw_386 qw_568) rfl rfl rfl (by decide +kernel) ⟨Nat.le_of_ble_eq_true rfl, Nat.le_of_ble_eq_true rfl⟩) ⟨fun a U g9 mk q => ⟨q.1, q.2.1, q.2.2.1, va_K.moved (u := U) (U := U.calling g9 mk a) (Vm.Alike.refl U.vm) q.2.2.2.1, q.2.2.2.2.1, Ev.bl q.2.2.2.2.2⟩, va_recv hK hP (ci := 8) (q0 := 0) rfl rgL12_062fd34, fun U hU hW => ⟨rfl, by rw [hU], atB hU hPc, va_K.moved hW.alike hKc, hDc.weaken (fun _ _ _ _ => trivial), hE.go hS hFc hU hW⟩⟩ rfl rfl hl.1 rfl (lv_room (Nat.le_of_ble_eq_true rfl)) dX9_pieceLine_103 ⟨Nat.le_of_ble_eq_true rfl, Nat.le_of_ble_eq_true rfl⟩) hS (fun q _ h => hFc q h) hFc (fun r50 u49 t H1 locs ht hvm h_u49 hB hz1 hk1 hS => ?_)
        obtain ⟨za0_7_51, za0_8_52, za0_9_53, za0_10_54, za0_11_55, za0_12_56, za0_13_57, za0_30_f_58, hF59, hF60, hF61, hP1, hK1, hD1⟩ := hB
        have hK1 := va_K.moved hvm.symm hK1
        have hJ9 := rgJ12_c19c94a hP hD hk1 hFc (atH ht hP1) hD1
        clear hP hD hPc hKc hDc hFc hP1 hD1 hk1 hz1
        obtain ⟨hP, hD⟩ := hJ9
        clear hK1
        generalize H1 = H at hP hS ⊢
        refine W.widen (k := 0) (n := 0) (Nat.le_of_ble_eq_true rfl) (Nat.le_of_ble_eq_true rfl) ?_
        have h_r50 := congrArg Int32.toInt h_u49
        have hz_r50 : r50 = 0 ∨ r50 = 1 := h_u49 ▸ hF61
        have b_r50 := z01 hz_r50
        refine lv_if_ne (tgt := 111) hx hb dX9_pieceLine_106 (by decide) (fun c106_62 => ?_) (fun c106_62 => ?_)
        · have c106_62 : ¬ (r50.toInt = 0) := mt (cv_eq rfl (by decide)).mpr c106_62
          refine lv_aload_n hx hb dX9_pieceLine_111 rfl (lv_at hl 2 rfl) ?_
          refine va_ldcS hx hb hown (show vk_R RX9 223 "from" (g.2.2.2.2.2.1 7) s from hE.2.2.2.2.2.2.2.2.2.2.2.2.2.2.2.2 7 (by decide)) dX9_pieceLine_112 ?_
          have hPc := (rgP12_bf1ec98 hP)
          have hKc := (rgK11_5a6413e hK)
          have hDc := (rgD12_4f57cf8 hD)
          have hFc := freeW hDc hS hA
          refine va_calli (va_runV (As := [.ref (g.2.2.2.2.2.1 7)]) (rest := []) ⟨hx, hb, hml, hown, hts⟩ (k_X9_takes l dC dI g H.size (a0) (7) (a0_0) (a0_1) (a0_2) (a0_3) (a0_4) (a0_5) (a0_6) (za0_7_51) (za0_8_52) (za0_9_53) (za0_10_54) (za0_11_55) (za0_12_56) (za0_13_57) (za0_14_41) (za0_15_42) (za0_16_43) (a0_17) (a0_18) (a0_19) (a0_20) (a0_21) (a0_22) (a0_23) (a0_24) (a0_25) (a0_26) (a0_27) (a0_28) (a0_29) (a0_30) (a0_31) (a0_32) (a0_33) (a0_34) (a0_35) (za0_36_10) (a0_37) (a0_38) (a0_39) (a0_40) (a0_41) (a0_42) (a0_43) (a0_4_c) (a0_4_f) (by omega) (by omega) (by omega) (by omega) (by omega) (by omega) (by omega) (by first | assumption | decide)) (cwV 1 hts (gwV qw_560 qw_561 qw_562 qw_386 qw_559) rfl rfl rfl (by decide +kernel) ⟨Nat.le_of_ble_eq_true rfl, Nat.le_of_ble_eq_true rfl⟩) ⟨fun a U g9 mk q => ⟨q.1, q.2.1, q.2.2.1, va_K.moved (u := U) (U := U.calling g9 mk a) (Vm.Alike.refl U.vm) q.2.2.2.1, q.2.2.2.2.1, Ev.bl q.2.2.2.2.2⟩, va_recv hK hP (ci := 8) (q0 := 0) rfl rgL12_062fd34, fun U hU hW => ⟨rfl, by rw [hU], atB hU hPc, va_K.moved hW.alike hKc, hDc.weaken (fun _ _ _ _ => trivial), hE.go hS hFc hU hW⟩⟩ rfl rfl hl.1 rfl (lv_room (Nat.le_of_ble_eq_true rfl)) dX9_pieceLine_114 ⟨Nat.le_of_ble_eq_true rfl, Nat.le_of_ble_eq_true rfl⟩) hS (fun q _ h => hFc q h) hFc (fun r64 u63 t H1 locs ht hvm h_u63 hB hz1 hk1 hS => ?_)
          obtain ⟨za0_7_65, za0_8_66, za0_9_67, za0_10_68, za0_11_69, hF70, hF71, hF72, hP1, hK1, hD1⟩ := hB
          have hK1 := va_K.moved hvm.symm hK1
          have hJ9 := rgJ12_4e82a22 hP hD hk1 hFc (atH ht hP1) hD1
          clear hP hD hPc hKc hDc hFc hP1 hD1 hk1 hz1
          obtain ⟨hP, hD⟩ := hJ9
          clear hK1
          generalize H1 = H at hP hS ⊢
          refine W.widen (k := 0) (n := 0) (Nat.le_of_ble_eq_true rfl) (Nat.le_of_ble_eq_true rfl) ?_
          have h_r64 := congrArg Int32.toInt h_u63
          have hz_r64 : r64 = 0 ∨ r64 = 1 := h_u63 ▸ hF72
          have b_r64 := z01 hz_r64
          refine lv_if_eq (tgt := 140) hx hb dX9_pieceLine_117 (by decide) (fun c117_73 => ?_) (fun c117_73 => ?_)
          · have c117_73 : r64.toInt = 0 := (cv_eq rfl (by decide)).mp c117_73
            refine lv_aload_n hx hb dX9_pieceLine_140 rfl (lv_at hl 2 rfl) ?_
            refine va_get (D := (dC, dI)) (ci := 8) (v := .ref a0_27) (C := RX9) (T := TX9) (N := 44) hx hb hts inlX9 hown hK hP 0 rgL12_062fd34 rfl 27 (by decide) (hts (.fieldLink RX9 42 "ClosedUntilModel" "pieceName" "[J") qw_440) (fun _ h9 => h9) rfl dX9_pieceLine_141 ?_
            refine lv_iload_n hx hb dX9_pieceLine_144 rfl (lv_at hl 0 rfl) ?_
            refine lv_lload_n hx hb dX9_pieceLine_145 rfl (lv_at hl 1 rfl) ?_
            refine va_last hx hb hK hP hD hS 7 6 rgL12_c7fa67d rgT11_f77e765 (vinI (by omega) (by omega)) dX9_pieceLine_146 (fun H locs hP9 hD9 hS9 => ?_)
            obtain ⟨y74, e_y74⟩ : ∃ y, (vp_updL a0_27_f x17.toNatClampNeg za0_36_10) = y := ⟨_, rfl⟩
            clear hP hD hS
            obtain ⟨hP, hD⟩ := rgS12_5a82636 (e := (a0_27, .inl (a0_27_c, 48, .inr (.inl y74)))) hP9 hD9 (congrArg (fun z9 => (((a0_27, .inl (a0_27_c, 48, .inr (.inl z9))) : Nat × va_E))) e_y74)
            have hS := hS9; clear hP9 hD9 hS9
            refine lv_aload_n hx hb dX9_pieceLine_147 rfl (lv_at hl 2 rfl) ?_
            refine va_get (D := (dC, dI)) (ci := 8) (v := .ref a0_20) (C := RX9) (T := TX9) (N := 44) hx hb hts inlX9 hown hK hP 0 rgL12_062fd34 rfl 20 (by decide) (hts (.fieldLink RX9 20 "ClosedUntilModel" "pieces" "[I") qw_439) (fun _ h9 => h9) rfl dX9_pieceLine_148 ?_
            refine lv_aload_n hx hb dX9_pieceLine_151 rfl (lv_at hl 2 rfl) ?_
            refine va_get (D := (dC, dI)) (ci := 8) (v := .int a0_17) (C := RX9) (T := TX9) (N := 44) hx hb hts inlX9 hown hK hP 0 rgL12_062fd34 rfl 17 (by decide) (hts (.fieldLink RX9 256 "ClosedUntilModel" "bench" "I") qw_435) (fun _ h9 => h9) rfl dX9_pieceLine_152 ?_
            refine lv_dup2_11 hx hb dX9_pieceLine_155 rfl rfl ?_
            refine va_iald hx hb hK hP 4 3 rgL12_12520d7 rgT11_4f72b73 (vinI (by omega) (by omega)) dX9_pieceLine_156 ?_
            refine lv_topi (fun x75 e_x75 => ?_)
            have q_x75 := congrArg Int32.toInt e_x75
            have b_x75 : 0 ≤ x75.toInt ∧ x75.toInt ≤ 24 := vr_at (lo := 0) (hi := 24) (f := a0_20_f) h_a0_20_f e_x75
            refine lv_iconst (v := 1) hx hb dX9_pieceLine_157 (by decide) ?_
            refine lv_iadd hx hb dX9_pieceLine_158 ?_
            refine lv_topi (fun x76 e_x76 => ?_)
            try have e_x76 := ti_add e_x76 rfl (show (1 : Int32).toInt = 1 by decide) (by omega)
            refine va_iast hx hb hK hP hD hS 4 3 rgL12_12520d7 rgT11_4f72b73 (vinI (by omega) (by omega)) dX9_pieceLine_159 (fun H locs hP9 hD9 hS9 => ?_)
            obtain ⟨y77, e_y77⟩ : ∃ y, (upd a0_20_f a0_17.toNatClampNeg x76) = y := ⟨_, rfl⟩
            clear hP hD hS
            obtain ⟨hP, hD⟩ := rgS12_b6cd9a0 (e := (a0_20, .inl (a0_20_c, 2, .inl y77))) hP9 hD9 (congrArg (fun z9 => (((a0_20, .inl (a0_20_c, 2, .inl z9)) : Nat × va_E))) e_y77)
            have hS := hS9; clear hP9 hD9 hS9
            have b_y77 : vr 0 24 y77 := vr_upd e_y77 h_a0_20_f (by omega)
            refine lv_iconst (v := 1) hx hb dX9_pieceLine_160 (by decide) ?_
            have qc1 : (1 : Int32).toInt = 1 := by decide
            refine W.widen (k := 0) (n := 0) (Nat.le_of_ble_eq_true rfl) (Nat.le_of_ble_eq_true rfl) ?_
            have hP9 := hP
            have hD9 := hD
            have hK9 := (rgK11_ef93369 hK)
            have hf9_0 : (0 ≤ za0_7_65.toInt ∧ za0_7_65.toInt ≤ 1000) := by omega
            have hf9_1 : (0 ≤ za0_8_66.toInt ∧ za0_8_66.toInt ≤ 1000) := by omega
            have hf9_2 : ((-1) ≤ a0_37.toInt ∧ a0_37.toInt ≤ 23) := by omega
            have hf9_3 : vr 0 24 y77 := b_y77
            have hf9_4 : ((1 : Int32) = 0 ∨ (1 : Int32) = 1) := (by decide)
            have hf9_5 : ((1 : Int32).toInt = 1 → (y77 a0_17.toNatClampNeg).toInt = (a0_20_f a0_17.toNatClampNeg).toInt + 1) := fun _ => by rw [upd_eq e_y77]; omega
            have hf9_6 : (KP 1 a0_20_f y77) := KP.upd e_y77 (kI (by omega))
            have hf9_7 : (PTOk y18 (y77 a0_17.toNatClampNeg).toInt) := PTOk.more hpt1 hv1 (by omega) (by rw [upd_eq e_y77]; omega) (by omega)
            exact W.zret (v := 1) hx hb hr rfl (fun t ht hW => ⟨⟨1, 1, rfl, rfl, za0_7_65, za0_8_66, za0_9_67, za0_10_68, za0_11_69, za0_12_56, za0_13_57, za0_14_41, za0_15_42, za0_16_43, za0_36_10, a0_37, y77, y74, y18, y48, za0_30_f_58, y20, hf9_0, hf9_1, hf9_2, hf9_3, hf9_4, hf9_5, hf9_6, hf9_7, atB ht hP9, va_K.moved hW.alike hK9, hD9⟩, hS.F ht⟩) hS.2.2 dX9_pieceLine_161
          · have c117_73 : ¬ (r64.toInt = 0) := mt (cv_eq rfl (by decide)).mpr c117_73
            refine lv_aload_n hx hb dX9_pieceLine_120 rfl (lv_at hl 2 rfl) ?_
            refine lv_iconst (v := 2) hx hb dX9_pieceLine_121 (by decide) ?_
            have qc2 : (2 : Int32).toInt = 2 := by decide
            have hPc := (rgP12_335202d hP)
            have hKc := (rgK11_7d74d5c hK)
            have hDc := (rgD12_2bba977 hD)
            have hFc := freeW hDc hS hA
            refine va_calli (va_runV (As := [.int 2]) (rest := []) ⟨hx, hb, hml, hown, hts⟩ (k_X9_takesTold l dC dI g H.size (a0) (2) (a0_0) (a0_1) (a0_2) (a0_3) (a0_4) (a0_5) (a0_6) (za0_7_65) (za0_8_66) (za0_9_67) (za0_10_68) (za0_11_69) (za0_12_56) (za0_13_57) (za0_14_41) (za0_15_42) (za0_16_43) (a0_17) (a0_18) (a0_19) (a0_20) (a0_21) (a0_22) (a0_23) (a0_24) (a0_25) (a0_26) (a0_27) (a0_28) (a0_29) (a0_30) (a0_31) (a0_32) (a0_33) (a0_34) (a0_35) (za0_36_10) (a0_37) (a0_38) (a0_39) (a0_40) (a0_41) (a0_42) (a0_43) (a0_4_c) (a0_4_f) (a0_18_c) (a0_18_f) (a0_19_c) (a0_19_f) (a0_20_c) (a0_20_f) (a0_22_c) (a0_22_f) (a0_25_c) (a0_25_f) (a0_27_c) (a0_27_f) (by omega) (by omega) (by omega) (by omega) (by omega) (by omega) (by omega) h_a0_18_f h_a0_19_f h_a0_20_f) (cwV 1 hts (gwV qw_573 qw_574 qw_575 qw_386 qw_572) rfl rfl rfl (by decide +kernel) ⟨Nat.le_of_ble_eq_true rfl, Nat.le_of_ble_eq_true rfl⟩) ⟨fun a U g9 mk q => ⟨q.1, q.2.1, q.2.2.1, va_K.moved (u := U) (U := U.calling g9 mk a) (Vm.Alike.refl U.vm) q.2.2.2.1, q.2.2.2.2.1, Ev.bl q.2.2.2.2.2⟩, va_recv hK hP (ci := 8) (q0 := 0) rfl rgL12_062fd34, fun U hU hW => ⟨rfl, by rw [hU], atB hU hPc, va_K.moved hW.alike hKc, hDc.weaken (fun _ _ _ _ => trivial), hE.go hS hFc hU hW⟩⟩ rfl rfl hl.1 rfl (lv_room (Nat.le_of_ble_eq_true rfl)) dX9_pieceLine_122 ⟨Nat.le_of_ble_eq_true rfl, Nat.le_of_ble_eq_true rfl⟩) hS (fun q _ h => hFc q h) hFc (fun r79 u78 t H1 locs ht hvm h_u78 hB hz1 hk1 hS => ?_)
            obtain ⟨za0_7_80, za0_8_81, za0_9_82, za0_10_83, za0_11_84, za0_12_85, za0_13_86, za0_37_87, hF88, hF89, hF90, hF91, hF92, hP1, hK1, hD1⟩ := hB
            have hK1 := va_K.moved hvm.symm hK1
            have hJ9 := rgJ12_2385b4d hP hD hk1 hFc (atH ht hP1) hD1
            clear hP hD hPc hKc hDc hFc hP1 hD1 hk1 hz1
            obtain ⟨hP, hD⟩ := hJ9
            clear hK1
            generalize H1 = H at hP hS ⊢
            refine W.widen (k := 0) (n := 0) (Nat.le_of_ble_eq_true rfl) (Nat.le_of_ble_eq_true rfl) ?_
            have h_r79 := congrArg Int32.toInt h_u78
            have hz_r79 : r79 = 0 ∨ r79 = 1 := h_u78 ▸ hF91
            have b_r79 := z01 hz_r79
            refine lv_if_ne (tgt := 130) hx hb dX9_pieceLine_125 (by decide) (fun c125_93 => ?_) (fun c125_93 => ?_)
            · have c125_93 : ¬ (r79.toInt = 0) := mt (cv_eq rfl (by decide)).mpr c125_93
              refine lv_aload_n hx hb dX9_pieceLine_130 rfl (lv_at hl 2 rfl) ?_
              refine va_get (D := (dC, dI)) (ci := 8) (v := .ref a0_31) (C := RX9) (T := TX9) (N := 44) hx hb hts inlX9 hown hK hP 0 rgL12_062fd34 rfl 31 (by decide) (hts (.fieldLink RX9 54 "ClosedUntilModel" "ofDeposit" "[I") qw_509) (fun _ h9 => h9) rfl dX9_pieceLine_131 ?_
              refine lv_iload_n hx hb dX9_pieceLine_134 rfl (lv_at hl 0 rfl) ?_
              refine lv_aload_n hx hb dX9_pieceLine_135 rfl (lv_at hl 2 rfl) ?_
              refine va_get (D := (dC, dI)) (ci := 8) (v := .int za0_37_87) (C := RX9) (T := TX9) (N := 44) hx hb hts inlX9 hown hK hP 0 rgL12_062fd34 rfl 37 (by decide) (hts (.fieldLink RX9 274 "ClosedUntilModel" "foundHere" "I") qw_499) (fun _ h9 => h9) rfl dX9_pieceLine_136 ?_
              refine va_iast hx hb hK hP hD hS 11 10 rgL12_827ade5 rgT11_0e4f932 (vinI (by omega) (by omega)) dX9_pieceLine_139 (fun H locs hP9 hD9 hS9 => ?_)
              obtain ⟨y94, e_y94⟩ : ∃ y, (upd y20 x17.toNatClampNeg za0_37_87) = y := ⟨_, rfl⟩
              clear hP hD hS
              obtain ⟨hP, hD⟩ := rgS12_18878dc (e := (a0_31, .inl (a0_31_c, 48, .inl y94))) hP9 hD9 (congrArg (fun z9 => (((a0_31, .inl (a0_31_c, 48, .inl z9)) : Nat × va_E))) e_y94)
              have hS := hS9; clear hP9 hD9 hS9
              refine lv_aload_n hx hb dX9_pieceLine_140 rfl (lv_at hl 2 rfl) ?_
              refine va_get (D := (dC, dI)) (ci := 8) (v := .ref a0_27) (C := RX9) (T := TX9) (N := 44) hx hb hts inlX9 hown hK hP 0 rgL12_062fd34 rfl 27 (by decide) (hts (.fieldLink RX9 42 "ClosedUntilModel" "pieceName" "[J") qw_440) (fun _ h9 => h9) rfl dX9_pieceLine_141 ?_
              refine lv_iload_n hx hb dX9_pieceLine_144 rfl (lv_at hl 0 rfl) ?_
              refine lv_lload_n hx hb dX9_pieceLine_145 rfl (lv_at hl 1 rfl) ?_
              refine va_last hx hb hK hP hD hS 7 6 rgL12_c7fa67d rgT11_f77e765 (vinI (by omega) (by omega)) dX9_pieceLine_146 (fun H locs hP9 hD9 hS9 => ?_)
              obtain ⟨y95, e_y95⟩ : ∃ y, (vp_updL a0_27_f x17.toNatClampNeg za0_36_10) = y := ⟨_, rfl⟩
              clear hP hD hS
              obtain ⟨hP, hD⟩ := rgS12_5a82636 (e := (a0_27, .inl (a0_27_c, 48, .inr (.inl y95)))) hP9 hD9 (congrArg (fun z9 => (((a0_27, .inl (a0_27_c, 48, .inr (.inl z9))) : Nat × va_E))) e_y95)
              have hS := hS9; clear hP9 hD9 hS9
              refine lv_aload_n hx hb dX9_pieceLine_147 rfl (lv_at hl 2 rfl) ?_
              refine va_get (D := (dC, dI)) (ci := 8) (v := .ref a0_20) (C := RX9) (T := TX9) (N := 44) hx hb hts inlX9 hown hK hP 0 rgL12_062fd34 rfl 20 (by decide) (hts (.fieldLink RX9 20 "ClosedUntilModel" "pieces" "[I") qw_439) (fun _ h9 => h9) rfl dX9_pieceLine_148 ?_
              refine lv_aload_n hx hb dX9_pieceLine_151 rfl (lv_at hl 2 rfl) ?_
              refine va_get (D := (dC, dI)) (ci := 8) (v := .int a0_17) (C := RX9) (T := TX9) (N := 44) hx hb hts inlX9 hown hK hP 0 rgL12_062fd34 rfl 17 (by decide) (hts (.fieldLink RX9 256 "ClosedUntilModel" "bench" "I") qw_435) (fun _ h9 => h9) rfl dX9_pieceLine_152 ?_
              refine lv_dup2_11 hx hb dX9_pieceLine_155 rfl rfl ?_
              refine va_iald hx hb hK hP 4 3 rgL12_12520d7 rgT11_4f72b73 (vinI (by omega) (by omega)) dX9_pieceLine_156 ?_
              refine lv_topi (fun x96 e_x96 => ?_)
              have q_x96 := congrArg Int32.toInt e_x96
              have b_x96 : 0 ≤ x96.toInt ∧ x96.toInt ≤ 24 := vr_at (lo := 0) (hi := 24) (f := a0_20_f) h_a0_20_f e_x96
              refine lv_iconst (v := 1) hx hb dX9_pieceLine_157 (by decide) ?_
              refine lv_iadd hx hb dX9_pieceLine_158 ?_
              refine lv_topi (fun x97 e_x97 => ?_)
              try have e_x97 := ti_add e_x97 rfl (show (1 : Int32).toInt = 1 by decide) (by omega)
              refine va_iast hx hb hK hP hD hS 4 3 rgL12_12520d7 rgT11_4f72b73 (vinI (by omega) (by omega)) dX9_pieceLine_159 (fun H locs hP9 hD9 hS9 => ?_)
              obtain ⟨y98, e_y98⟩ : ∃ y, (upd a0_20_f a0_17.toNatClampNeg x97) = y := ⟨_, rfl⟩
              clear hP hD hS
              obtain ⟨hP, hD⟩ := rgS12_b6cd9a0 (e := (a0_20, .inl (a0_20_c, 2, .inl y98))) hP9 hD9 (congrArg (fun z9 => (((a0_20, .inl (a0_20_c, 2, .inl z9)) : Nat × va_E))) e_y98)
              have hS := hS9; clear hP9 hD9 hS9
              have b_y98 : vr 0 24 y98 := vr_upd e_y98 h_a0_20_f (by omega)
              refine lv_iconst (v := 1) hx hb dX9_pieceLine_160 (by decide) ?_
              have qc1 : (1 : Int32).toInt = 1 := by decide
              refine W.widen (k := 0) (n := 0) (Nat.le_of_ble_eq_true rfl) (Nat.le_of_ble_eq_true rfl) ?_
              have hP9 := hP
              have hD9 := hD
              have hK9 := (rgK11_ef93369 hK)
              have hf9_0 : (0 ≤ za0_7_80.toInt ∧ za0_7_80.toInt ≤ 1000) := by omega
              have hf9_1 : (0 ≤ za0_8_81.toInt ∧ za0_8_81.toInt ≤ 1000) := by omega
              have hf9_2 : ((-1) ≤ za0_37_87.toInt ∧ za0_37_87.toInt ≤ 23) := by omega
              have hf9_3 : vr 0 24 y98 := b_y98
              have hf9_4 : ((1 : Int32) = 0 ∨ (1 : Int32) = 1) := (by decide)
              have hf9_5 : ((1 : Int32).toInt = 1 → (y98 a0_17.toNatClampNeg).toInt = (a0_20_f a0_17.toNatClampNeg).toInt + 1) := fun _ => by rw [upd_eq e_y98]; omega
              have hf9_6 : (KP 1 a0_20_f y98) := KP.upd e_y98 (kI (by omega))
              have hf9_7 : (PTOk y18 (y98 a0_17.toNatClampNeg).toInt) := PTOk.more hpt1 hv1 (by omega) (by rw [upd_eq e_y98]; omega) (by omega)
              exact W.zret (v := 1) hx hb hr rfl (fun t ht hW => ⟨⟨1, 1, rfl, rfl, za0_7_80, za0_8_81, za0_9_82, za0_10_83, za0_11_84, za0_12_85, za0_13_86, za0_14_41, za0_15_42, za0_16_43, za0_36_10, za0_37_87, y98, y95, y18, y48, za0_30_f_58, y94, hf9_0, hf9_1, hf9_2, hf9_3, hf9_4, hf9_5, hf9_6, hf9_7, atB ht hP9, va_K.moved hW.alike hK9, hD9⟩, hS.F ht⟩) hS.2.2 dX9_pieceLine_161
            · have c125_93 : r79.toInt = 0 := (cv_eq rfl (by decide)).mp c125_93
              refine lv_iconst (v := 0) hx hb dX9_pieceLine_128 (by decide) ?_
              have qc0 : (0 : Int32).toInt = 0 := by decide
              refine W.widen (k := 0) (n := 0) (Nat.le_of_ble_eq_true rfl) (Nat.le_of_ble_eq_true rfl) ?_
              have hP9 := hP
              have hD9 := hD
              have hK9 := (rgK11_ef93369 hK)
              have hf9_0 : (0 ≤ za0_7_80.toInt ∧ za0_7_80.toInt ≤ 1000) := by omega
              have hf9_1 : (0 ≤ za0_8_81.toInt ∧ za0_8_81.toInt ≤ 1000) := by omega
              have hf9_2 : ((-1) ≤ za0_37_87.toInt ∧ za0_37_87.toInt ≤ 23) := by omega
              have hf9_3 : vr 0 24 a0_20_f := h_a0_20_f
              have hf9_4 : ((0 : Int32) = 0 ∨ (0 : Int32) = 1) := (by decide)
              have hf9_5 : ((0 : Int32).toInt = 1 → (a0_20_f a0_17.toNatClampNeg).toInt = (a0_20_f a0_17.toNatClampNeg).toInt + 1) := fun q => absurd q (by decide)
              have hf9_6 : (KP 1 a0_20_f a0_20_f) := KP.rf
              have hf9_7 : (PTOk y18 (a0_20_f a0_17.toNatClampNeg).toInt) := hpt1
              exact W.zret (v := 0) hx hb hr rfl (fun t ht hW => ⟨⟨0, 0, rfl, rfl, za0_7_80, za0_8_81, za0_9_82, za0_10_83, za0_11_84, za0_12_85, za0_13_86, za0_14_41, za0_15_42, za0_16_43, za0_36_10, za0_37_87, a0_20_f, a0_27_f, y18, y48, za0_30_f_58, y20, hf9_0, hf9_1, hf9_2, hf9_3, hf9_4, hf9_5, hf9_6, hf9_7, atB ht hP9, va_K.moved hW.alike hK9, hD9⟩, hS.F ht⟩) hS.2.2 dX9_pieceLine_129
        · have c106_62 : r50.toInt = 0 := (cv_eq rfl (by decide)).mp c106_62
          refine lv_iconst (v := 0) hx hb dX9_pieceLine_109 (by decide) ?_
          have qc0 : (0 : Int32).toInt = 0 := by decide
          refine W.widen (k := 0) (n := 0) (Nat.le_of_ble_eq_true rfl) (Nat.le_of_ble_eq_true rfl) ?_
          have hP9 := hP
          have hD9 := hD
          have hK9 := (rgK11_ef93369 hK)
          have hf9_0 : (0 ≤ za0_7_51.toInt ∧ za0_7_51.toInt ≤ 1000) := by omega
          have hf9_1 : (0 ≤ za0_8_52.toInt ∧ za0_8_52.toInt ≤ 1000) := by omega
          have hf9_2 : ((-1) ≤ a0_37.toInt ∧ a0_37.toInt ≤ 23) := by omega
          have hf9_3 : vr 0 24 a0_20_f := h_a0_20_f
          have hf9_4 : ((0 : Int32) = 0 ∨ (0 : Int32) = 1) := (by decide)
          have hf9_5 : ((0 : Int32).toInt = 1 → (a0_20_f a0_17.toNatClampNeg).toInt = (a0_20_f a0_17.toNatClampNeg).toInt + 1) := fun q => absurd q (by decide)
          have hf9_6 : (KP 1 a0_20_f a0_20_f) := KP.rf
          have hf9_7 : (PTOk y18 (a0_20_f a0_17.toNatClampNeg).toInt) := hpt1
          exact W.zret (v := 0) hx hb hr rfl (fun t ht hW => ⟨⟨0, 0, rfl, rfl, za0_7_51, za0_8_52, za0_9_53, za0_10_54, za0_11_55, za0_12_56, za0_13_57, za0_14_41, za0_15_42, za0_16_43, za0_36_10, a0_37, a0_20_f, a0_27_f, y18, y48, za0_30_f_58, y20, hf9_0, hf9_1, hf9_2, hf9_3, hf9_4, hf9_5, hf9_6, hf9_7, atB ht hP9, va_K.moved hW.alike hK9, hD9⟩, hS.F ht⟩) hS.2.2 dX9_pieceLine_110
      · have c86_47 : r33.toInt = 0 := (cv_eq rfl (by decide)).mp c86_47
        refine lv_iconst (v := 0) hx hb dX9_pieceLine_89 (by decide) ?_
        have qc0 : (0 : Int32).toInt = 0 := by decide
        refine W.widen (k := 0) (n := 0) (Nat.le_of_ble_eq_true rfl) (Nat.le_of_ble_eq_true rfl) ?_
        have hP9 := hP
        have hD9 := hD
        have hK9 := (rgK11_ef93369 hK)
        have hf9_0 : (0 ≤ za0_7_34.toInt ∧ za0_7_34.toInt ≤ 1000) := by omega
        have hf9_1 : (0 ≤ za0_8_35.toInt ∧ za0_8_35.toInt ≤ 1000) := by omega
        have hf9_2 : ((-1) ≤ a0_37.toInt ∧ a0_37.toInt ≤ 23) := by omega
        have hf9_3 : vr 0 24 a0_20_f := h_a0_20_f
        have hf9_4 : ((0 : Int32) = 0 ∨ (0 : Int32) = 1) := (by decide)
        have hf9_5 : ((0 : Int32).toInt = 1 → (a0_20_f a0_17.toNatClampNeg).toInt = (a0_20_f a0_17.toNatClampNeg).toInt + 1) := fun q => absurd q (by decide)
        have hf9_6 : (KP 1 a0_20_f a0_20_f) := KP.rf
        have hf9_7 : (PTOk y18 (a0_20_f a0_17.toNatClampNeg).toInt) := hpt1
        exact W.zret (v := 0) hx hb hr rfl (fun t ht hW => ⟨⟨0, 0, rfl, rfl, za0_7_34, za0_8_35, za0_9_36, za0_10_37, za0_11_38, za0_12_39, za0_13_40, za0_14_41, za0_15_42, za0_16_43, za0_36_10, a0_37, a0_20_f, a0_27_f, y18, a0_29_f, y19, y20, hf9_0, hf9_1, hf9_2, hf9_3, hf9_4, hf9_5, hf9_6, hf9_7, atB ht hP9, va_K.moved hW.alike hK9, hD9⟩, hS.F ht⟩) hS.2.2 dX9_pieceLine_90
    · have c59_31 : ¬ (r22.toInt = 0) := mt (cv_eq rfl (by decide)).mpr c59_31
      refine lv_aload_n hx hb dX9_pieceLine_62 rfl (lv_at hl 2 rfl) ?_
      refine lv_iconst (v := 0) hx hb dX9_pieceLine_63 (by decide) ?_
      have qc0 : (0 : Int32).toInt = 0 := by decide
      have hPc := (rgP12_335202d hP)
      have hKc := (rgK11_7d74d5c hK)
      have hDc := (rgD12_2bba977 hD)
      have hFc := freeW hDc hS hA
      refine va_calli (va_runV (As := [.int 0]) (rest := []) ⟨hx, hb, hml, hown, hts⟩ (k_X9_takesTold l dC dI g H.size (a0) (0) (a0_0) (a0_1) (a0_2) (a0_3) (a0_4) (a0_5) (a0_6) (za0_7_23) (za0_8_24) (za0_9_25) (za0_10_26) (za0_11_27) (za0_12_8) (za0_13_9) (a0_14) (a0_15) (a0_16) (a0_17) (a0_18) (a0_19) (a0_20) (a0_21) (a0_22) (a0_23) (a0_24) (a0_25) (a0_26) (a0_27) (a0_28) (a0_29) (a0_30) (a0_31) (a0_32) (a0_33) (a0_34) (a0_35) (za0_36_10) (a0_37) (a0_38) (a0_39) (a0_40) (a0_41) (a0_42) (a0_43) (a0_4_c) (a0_4_f) (a0_18_c) (a0_18_f) (a0_19_c) (a0_19_f) (a0_20_c) (a0_20_f) (a0_22_c) (a0_22_f) (a0_25_c) (a0_25_f) (a0_27_c) (a0_27_f) (by omega) (by omega) (by omega) (by omega) (by omega) (by omega) (by omega) h_a0_18_f h_a0_19_f h_a0_20_f) (cwV 1 hts (gwV qw_573 qw_574 qw_575 qw_386 qw_572) rfl rfl rfl (by decide +kernel) ⟨Nat.le_of_ble_eq_true rfl, Nat.le_of_ble_eq_true rfl⟩) ⟨fun a U g9 mk q => ⟨q.1, q.2.1, q.2.2.1, va_K.moved (u := U) (U := U.calling g9 mk a) (Vm.Alike.refl U.vm) q.2.2.2.1, q.2.2.2.2.1, Ev.bl q.2.2.2.2.2⟩, va_recv hK hP (ci := 8) (q0 := 0) rfl rgL12_062fd34, fun U hU hW => ⟨rfl, by rw [hU], atB hU hPc, va_K.moved hW.alike hKc, hDc.weaken (fun _ _ _ _ => trivial), hE.go hS hFc hU hW⟩⟩ rfl rfl hl.1 rfl (lv_room (Nat.le_of_ble_eq_true rfl)) dX9_pieceLine_64 ⟨Nat.le_of_ble_eq_true rfl, Nat.le_of_ble_eq_true rfl⟩) hS (fun q _ h => hFc q h) hFc (fun r100 u99 t H1 locs ht hvm h_u99 hB hz1 hk1 hS => ?_)
      obtain ⟨za0_7_101, za0_8_102, za0_9_103, za0_10_104, za0_11_105, za0_12_106, za0_13_107, za0_37_108, hF109, hF110, hF111, hF112, hF113, hP1, hK1, hD1⟩ := hB
      have hK1 := va_K.moved hvm.symm hK1
      have hJ9 := rgJ12_2385b4d hP hD hk1 hFc (atH ht hP1) hD1
      clear hP hD hPc hKc hDc hFc hP1 hD1 hk1 hz1
      obtain ⟨hP, hD⟩ := hJ9
      clear hK1
      generalize H1 = H at hP hS ⊢
      refine W.widen (k := 0) (n := 0) (Nat.le_of_ble_eq_true rfl) (Nat.le_of_ble_eq_true rfl) ?_
      have h_r100 := congrArg Int32.toInt h_u99
      have hz_r100 : r100 = 0 ∨ r100 = 1 := h_u99 ▸ hF112
      have b_r100 := z01 hz_r100
      refine lv_if_ne (tgt := 72) hx hb dX9_pieceLine_67 (by decide) (fun c67_114 => ?_) (fun c67_114 => ?_)
      · have c67_114 : ¬ (r100.toInt = 0) := mt (cv_eq rfl (by decide)).mpr c67_114
        refine lv_aload_n hx hb dX9_pieceLine_72 rfl (lv_at hl 2 rfl) ?_
        refine va_get (D := (dC, dI)) (ci := 8) (v := .ref a0_28) (C := RX9) (T := TX9) (N := 44) hx hb hts inlX9 hown hK hP 0 rgL12_062fd34 rfl 28 (by decide) (hts (.fieldLink RX9 45 "ClosedUntilModel" "parentTold" "[I") qw_567) (fun _ h9 => h9) rfl dX9_pieceLine_73 ?_
        refine lv_iload_n hx hb dX9_pieceLine_76 rfl (lv_at hl 0 rfl) ?_
        refine lv_aload_n hx hb dX9_pieceLine_77 rfl (lv_at hl 2 rfl) ?_
        refine va_get (D := (dC, dI)) (ci := 8) (v := .int za0_37_108) (C := RX9) (T := TX9) (N := 44) hx hb hts inlX9 hown hK hP 0 rgL12_062fd34 rfl 37 (by decide) (hts (.fieldLink RX9 274 "ClosedUntilModel" "foundHere" "I") qw_499) (fun _ h9 => h9) rfl dX9_pieceLine_78 ?_
        refine va_iast hx hb hK hP hD hS 8 7 rgL12_a923e29 rgT11_33e0f70 (vinI (by omega) (by omega)) dX9_pieceLine_81 (fun H locs hP9 hD9 hS9 => ?_)
        obtain ⟨y115, e_y115⟩ : ∃ y, (upd y18 x17.toNatClampNeg za0_37_108) = y := ⟨_, rfl⟩
        clear hP hD hS
        obtain ⟨hP, hD⟩ := rgS12_8f96eaa (e := (a0_28, .inl (a0_28_c, 48, .inl y115))) hP9 hD9 (congrArg (fun z9 => (((a0_28, .inl (a0_28_c, 48, .inl z9)) : Nat × va_E))) e_y115)
        have hS := hS9; clear hP9 hD9 hS9
        have hpt1 := PTOk.keep hpt1 e_y115 (by omega) (by omega)
        have hv1 : (y115 x17.toNatClampNeg).toInt = -1 ∨ (0 ≤ (y115 x17.toNatClampNeg).toInt ∧ (y115 x17.toNatClampNeg).toInt < (a0_20_f a0_17.toNatClampNeg).toInt) := Or.inr (by rw [upd_eq e_y115]; omega)
        refine lv_aload_n hx hb dX9_pieceLine_82 rfl (lv_at hl 2 rfl) ?_
        have hPc := (rgP12_bf1ec98 hP)
        have hKc := (rgK11_5a6413e hK)
        have hDc := (rgD12_4f57cf8 hD)
        have hFc := freeW hDc hS hA
        refine va_calli (va_runV (As := []) (rest := []) ⟨hx, hb, hml, hown, hts⟩ (k_X9_takesDate l dC dI g H.size (a0) (a0_0) (a0_1) (a0_2) (a0_3) (a0_4) (a0_5) (a0_6) (za0_7_101) (za0_8_102) (za0_9_103) (za0_10_104) (za0_11_105) (za0_12_106) (za0_13_107) (a0_14) (a0_15) (a0_16) (a0_17) (a0_18) (a0_19) (a0_20) (a0_21) (a0_22) (a0_23) (a0_24) (a0_25) (a0_26) (a0_27) (a0_28) (a0_29) (a0_30) (a0_31) (a0_32) (a0_33) (a0_34) (a0_35) (za0_36_10) (za0_37_108) (a0_38) (a0_39) (a0_40) (a0_41) (a0_42) (a0_43) (a0_4_c) (a0_4_f) (by omega) (by omega) (by omega) (by omega) (by omega) (by omega) (by omega)) (cwV 0 hts (gwV qw_564 qw_565 qw_566 qw_386 qw_563) rfl rfl rfl (by decide +kernel) ⟨Nat.le_of_ble_eq_true rfl, Nat.le_of_ble_eq_true rfl⟩) ⟨fun a U g9 mk q => ⟨q.1, q.2.1, q.2.2.1, va_K.moved (u := U) (U := U.calling g9 mk a) (Vm.Alike.refl U.vm) q.2.2.2.1, q.2.2.2.2.1, Ev.bl q.2.2.2.2.2⟩, va_recv hK hP (ci := 8) (q0 := 0) rfl rgL12_062fd34, fun U hU hW => ⟨rfl, by rw [hU], atB hU hPc, va_K.moved hW.alike hKc, hDc.weaken (fun _ _ _ _ => trivial), hE.go hS hFc hU hW⟩⟩ rfl rfl hl.1 rfl (lv_room (Nat.le_of_ble_eq_true rfl)) dX9_pieceLine_83 ⟨Nat.le_of_ble_eq_true rfl, Nat.le_of_ble_eq_true rfl⟩) hS (fun q _ h => hFc q h) hFc (fun r117 u116 t H1 locs ht hvm h_u116 hB hz1 hk1 hS => ?_)
        obtain ⟨za0_7_118, za0_8_119, za0_9_120, za0_10_121, za0_11_122, za0_12_123, za0_13_124, za0_14_125, za0_15_126, za0_16_127, hF128, hF129, hF130, hP1, hK1, hD1⟩ := hB
        have hK1 := va_K.moved hvm.symm hK1
        have hJ9 := rgJ12_4e82a22 hP hD hk1 hFc (atH ht hP1) hD1
        clear hP hD hPc hKc hDc hFc hP1 hD1 hk1 hz1
        obtain ⟨hP, hD⟩ := hJ9
        clear hK1
        generalize H1 = H at hP hS ⊢
        refine W.widen (k := 0) (n := 0) (Nat.le_of_ble_eq_true rfl) (Nat.le_of_ble_eq_true rfl) ?_
        have h_r117 := congrArg Int32.toInt h_u116
        have hz_r117 : r117 = 0 ∨ r117 = 1 := h_u116 ▸ hF130
        have b_r117 := z01 hz_r117
        refine lv_if_ne (tgt := 91) hx hb dX9_pieceLine_86 (by decide) (fun c86_131 => ?_) (fun c86_131 => ?_)
        · have c86_131 : ¬ (r117.toInt = 0) := mt (cv_eq rfl (by decide)).mpr c86_131
          refine lv_aload_n hx hb dX9_pieceLine_91 rfl (lv_at hl 2 rfl) ?_
          refine va_get (D := (dC, dI)) (ci := 8) (v := .ref a0_29) (C := RX9) (T := TX9) (N := 44) hx hb hts inlX9 hown hK hP 0 rgL12_062fd34 rfl 29 (by decide) (hts (.fieldLink RX9 48 "ClosedUntilModel" "lastDay" "[I") qw_515) (fun _ h9 => h9) rfl dX9_pieceLine_92 ?_
          refine lv_iload_n hx hb dX9_pieceLine_95 rfl (lv_at hl 0 rfl) ?_
          refine lv_aload_n hx hb dX9_pieceLine_96 rfl (lv_at hl 2 rfl) ?_
          refine va_get (D := (dC, dI)) (ci := 8) (v := .int za0_15_126) (C := RX9) (T := TX9) (N := 44) hx hb hts inlX9 hown hK hP 0 rgL12_062fd34 rfl 15 (by decide) (hts (.fieldLink RX9 253 "ClosedUntilModel" "dateHere" "I") qw_481) (fun _ h9 => h9) rfl dX9_pieceLine_97 ?_
          refine va_iast hx hb hK hP hD hS 9 8 rgL12_93f4a03 rgT11_c2c91f9 (vinI (by omega) (by omega)) dX9_pieceLine_100 (fun H locs hP9 hD9 hS9 => ?_)
          obtain ⟨y132, e_y132⟩ : ∃ y, (upd a0_29_f x17.toNatClampNeg za0_15_126) = y := ⟨_, rfl⟩
          clear hP hD hS
          obtain ⟨hP, hD⟩ := rgS12_a37ab15 (e := (a0_29, .inl (a0_29_c, 48, .inl y132))) hP9 hD9 (congrArg (fun z9 => (((a0_29, .inl (a0_29_c, 48, .inl z9)) : Nat × va_E))) e_y132)
          have hS := hS9; clear hP9 hD9 hS9
          refine lv_aload_n hx hb dX9_pieceLine_101 rfl (lv_at hl 2 rfl) ?_
          refine lv_iload_n hx hb dX9_pieceLine_102 rfl (lv_at hl 0 rfl) ?_
          have hPc := (rgP12_8e0773e hP)
          have hKc := (rgK11_38a35ce hK)
          have hDc := (rgD12_da36770 hD)
          have hFc := freeW hDc hS hA
          refine va_calli (va_runV (As := [.int x17]) (rest := []) ⟨hx, hb, hml, hown, hts⟩ (k_X9_takesOf l dC dI g H.size (a0) (x17) (a0_0) (a0_1) (a0_2) (a0_3) (a0_4) (a0_5) (a0_6) (za0_7_118) (za0_8_119) (za0_9_120) (za0_10_121) (za0_11_122) (za0_12_123) (za0_13_124) (za0_14_125) (za0_15_126) (za0_16_127) (a0_17) (a0_18) (a0_19) (a0_20) (a0_21) (a0_22) (a0_23) (a0_24) (a0_25) (a0_26) (a0_27) (a0_28) (a0_29) (a0_30) (a0_31) (a0_32) (a0_33) (a0_34) (a0_35) (za0_36_10) (za0_37_108) (a0_38) (a0_39) (a0_40) (a0_41) (a0_42) (a0_43) (a0_4_c) (a0_4_f) (a0_18_c) (a0_18_f) (a0_22_c) (a0_22_f) (a0_30_c) (y19) (by omega) (by omega) (by omega) (by omega) (by omega) (by omega) (by omega) h_a0_18_f (by omega)) (cwV 1 hts (gwV qw_569 qw_570 qw_571 qw_386 qw_568) rfl rfl rfl (by decide +kernel) ⟨Nat.le_of_ble_eq_true rfl, Nat.le_of_ble_eq_true rfl⟩) ⟨fun a U g9 mk q => ⟨q.1, q.2.1, q.2.2.1, va_K.moved (u := U) (U := U.calling g9 mk a) (Vm.Alike.refl U.vm) q.2.2.2.1, q.2.2.2.2.1, Ev.bl q.2.2.2.2.2⟩, va_recv hK hP (ci := 8) (q0 := 0) rfl rgL12_062fd34, fun U hU hW => ⟨rfl, by rw [hU], atB hU hPc, va_K.moved hW.alike hKc, hDc.weaken (fun _ _ _ _ => trivial), hE.go hS hFc hU hW⟩⟩ rfl rfl hl.1 rfl (lv_room (Nat.le_of_ble_eq_true rfl)) dX9_pieceLine_103 ⟨Nat.le_of_ble_eq_true rfl, Nat.le_of_ble_eq_true rfl⟩) hS (fun q _ h => hFc q h) hFc (fun r134 u133 t H1 locs ht hvm h_u133 hB hz1 hk1 hS => ?_)
          obtain ⟨za0_7_135, za0_8_136, za0_9_137, za0_10_138, za0_11_139, za0_12_140, za0_13_141, za0_30_f_142, hF143, hF144, hF145, hP1, hK1, hD1⟩ := hB
          have hK1 := va_K.moved hvm.symm hK1
          have hJ9 := rgJ12_c19c94a hP hD hk1 hFc (atH ht hP1) hD1
          clear hP hD hPc hKc hDc hFc hP1 hD1 hk1 hz1
          obtain ⟨hP, hD⟩ := hJ9
          clear hK1
          generalize H1 = H at hP hS ⊢
          refine W.widen (k := 0) (n := 0) (Nat.le_of_ble_eq_true rfl) (Nat.le_of_ble_eq_true rfl) ?_
          have h_r134 := congrArg Int32.toInt h_u133
          have hz_r134 : r134 = 0 ∨ r134 = 1 := h_u133 ▸ hF145
          have b_r134 := z01 hz_r134
          refine lv_if_ne (tgt := 111) hx hb dX9_pieceLine_106 (by decide) (fun c106_146 => ?_) (fun c106_146 => ?_)
          · have c106_146 : ¬ (r134.toInt = 0) := mt (cv_eq rfl (by decide)).mpr c106_146
            refine lv_aload_n hx hb dX9_pieceLine_111 rfl (lv_at hl 2 rfl) ?_
            refine va_ldcS hx hb hown (show vk_R RX9 223 "from" (g.2.2.2.2.2.1 7) s from hE.2.2.2.2.2.2.2.2.2.2.2.2.2.2.2.2 7 (by decide)) dX9_pieceLine_112 ?_
            have hPc := (rgP12_bf1ec98 hP)
            have hKc := (rgK11_5a6413e hK)
            have hDc := (rgD12_4f57cf8 hD)
            have hFc := freeW hDc hS hA
            refine va_calli (va_runV (As := [.ref (g.2.2.2.2.2.1 7)]) (rest := []) ⟨hx, hb, hml, hown, hts⟩ (k_X9_takes l dC dI g H.size (a0) (7) (a0_0) (a0_1) (a0_2) (a0_3) (a0_4) (a0_5) (a0_6) (za0_7_135) (za0_8_136) (za0_9_137) (za0_10_138) (za0_11_139) (za0_12_140) (za0_13_141) (za0_14_125) (za0_15_126) (za0_16_127) (a0_17) (a0_18) (a0_19) (a0_20) (a0_21) (a0_22) (a0_23) (a0_24) (a0_25) (a0_26) (a0_27) (a0_28) (a0_29) (a0_30) (a0_31) (a0_32) (a0_33) (a0_34) (a0_35) (za0_36_10) (za0_37_108) (a0_38) (a0_39) (a0_40) (a0_41) (a0_42) (a0_43) (a0_4_c) (a0_4_f) (by omega) (by omega) (by omega) (by omega) (by omega) (by omega) (by omega) (by first | assumption | decide)) (cwV 1 hts (gwV qw_560 qw_561 qw_562 qw_386 qw_559) rfl rfl rfl (by decide +kernel) ⟨Nat.le_of_ble_eq_true rfl, Nat.le_of_ble_eq_true rfl⟩) ⟨fun a U g9 mk q => ⟨q.1, q.2.1, q.2.2.1, va_K.moved (u := U) (U := U.calling g9 mk a) (Vm.Alike.refl U.vm) q.2.2.2.1, q.2.2.2.2.1, Ev.bl q.2.2.2.2.2⟩, va_recv hK hP (ci := 8) (q0 := 0) rfl rgL12_062fd34, fun U hU hW => ⟨rfl, by rw [hU], atB hU hPc, va_K.moved hW.alike hKc, hDc.weaken (fun _ _ _ _ => trivial), hE.go hS hFc hU hW⟩⟩ rfl rfl hl.1 rfl (lv_room (Nat.le_of_ble_eq_true rfl)) dX9_pieceLine_114 ⟨Nat.le_of_ble_eq_true rfl, Nat.le_of_ble_eq_true rfl⟩) hS (fun q _ h => hFc q h) hFc (fun r148 u147 t H1 locs ht hvm h_u147 hB hz1 hk1 hS => ?_)
            obtain ⟨za0_7_149, za0_8_150, za0_9_151, za0_10_152, za0_11_153, hF154, hF155, hF156, hP1, hK1, hD1⟩ := hB
            have hK1 := va_K.moved hvm.symm hK1
            have hJ9 := rgJ12_4e82a22 hP hD hk1 hFc (atH ht hP1) hD1
            clear hP hD hPc hKc hDc hFc hP1 hD1 hk1 hz1
            obtain ⟨hP, hD⟩ := hJ9
            clear hK1
            generalize H1 = H at hP hS ⊢
            refine W.widen (k := 0) (n := 0) (Nat.le_of_ble_eq_true rfl) (Nat.le_of_ble_eq_true rfl) ?_
            have h_r148 := congrArg Int32.toInt h_u147
            have hz_r148 : r148 = 0 ∨ r148 = 1 := h_u147 ▸ hF156
            have b_r148 := z01 hz_r148
            refine lv_if_eq (tgt := 140) hx hb dX9_pieceLine_117 (by decide) (fun c117_157 => ?_) (fun c117_157 => ?_)
            · have c117_157 : r148.toInt = 0 := (cv_eq rfl (by decide)).mp c117_157
              refine lv_aload_n hx hb dX9_pieceLine_140 rfl (lv_at hl 2 rfl) ?_
              refine va_get (D := (dC, dI)) (ci := 8) (v := .ref a0_27) (C := RX9) (T := TX9) (N := 44) hx hb hts inlX9 hown hK hP 0 rgL12_062fd34 rfl 27 (by decide) (hts (.fieldLink RX9 42 "ClosedUntilModel" "pieceName" "[J") qw_440) (fun _ h9 => h9) rfl dX9_pieceLine_141 ?_
              refine lv_iload_n hx hb dX9_pieceLine_144 rfl (lv_at hl 0 rfl) ?_
              refine lv_lload_n hx hb dX9_pieceLine_145 rfl (lv_at hl 1 rfl) ?_
              refine va_last hx hb hK hP hD hS 7 6 rgL12_c7fa67d rgT11_f77e765 (vinI (by omega) (by omega)) dX9_pieceLine_146 (fun H locs hP9 hD9 hS9 => ?_)
              obtain ⟨y158, e_y158⟩ : ∃ y, (vp_updL a0_27_f x17.toNatClampNeg za0_36_10) = y := ⟨_, rfl⟩
              clear hP hD hS
              obtain ⟨hP, hD⟩ := rgS12_5a82636 (e := (a0_27, .inl (a0_27_c, 48, .inr (.inl y158)))) hP9 hD9 (congrArg (fun z9 => (((a0_27, .inl (a0_27_c, 48, .inr (.inl z9))) : Nat × va_E))) e_y158)
              have hS := hS9; clear hP9 hD9 hS9
              refine lv_aload_n hx hb dX9_pieceLine_147 rfl (lv_at hl 2 rfl) ?_
              refine va_get (D := (dC, dI)) (ci := 8) (v := .ref a0_20) (C := RX9) (T := TX9) (N := 44) hx hb hts inlX9 hown hK hP 0 rgL12_062fd34 rfl 20 (by decide) (hts (.fieldLink RX9 20 "ClosedUntilModel" "pieces" "[I") qw_439) (fun _ h9 => h9) rfl dX9_pieceLine_148 ?_
              refine lv_aload_n hx hb dX9_pieceLine_151 rfl (lv_at hl 2 rfl) ?_
              refine va_get (D := (dC, dI)) (ci := 8) (v := .int a0_17) (C := RX9) (T := TX9) (N := 44) hx hb hts inlX9 hown hK hP 0 rgL12_062fd34 rfl 17 (by decide) (hts (.fieldLink RX9 256 "ClosedUntilModel" "bench" "I") qw_435) (fun _ h9 => h9) rfl dX9_pieceLine_152 ?_
              refine lv_dup2_11 hx hb dX9_pieceLine_155 rfl rfl ?_
              refine va_iald hx hb hK hP 4 3 rgL12_12520d7 rgT11_4f72b73 (vinI (by omega) (by omega)) dX9_pieceLine_156 ?_
              refine lv_topi (fun x159 e_x159 => ?_)
              have q_x159 := congrArg Int32.toInt e_x159
              have b_x159 : 0 ≤ x159.toInt ∧ x159.toInt ≤ 24 := vr_at (lo := 0) (hi := 24) (f := a0_20_f) h_a0_20_f e_x159
              refine lv_iconst (v := 1) hx hb dX9_pieceLine_157 (by decide) ?_
              refine lv_iadd hx hb dX9_pieceLine_158 ?_
              refine lv_topi (fun x160 e_x160 => ?_)
              try have e_x160 := ti_add e_x160 rfl (show (1 : Int32).toInt = 1 by decide) (by omega)
              refine va_iast hx hb hK hP hD hS 4 3 rgL12_12520d7 rgT11_4f72b73 (vinI (by omega) (by omega)) dX9_pieceLine_159 (fun H locs hP9 hD9 hS9 => ?_)
              obtain ⟨y161, e_y161⟩ : ∃ y, (upd a0_20_f a0_17.toNatClampNeg x160) = y := ⟨_, rfl⟩
              clear hP hD hS
              obtain ⟨hP, hD⟩ := rgS12_b6cd9a0 (e := (a0_20, .inl (a0_20_c, 2, .inl y161))) hP9 hD9 (congrArg (fun z9 => (((a0_20, .inl (a0_20_c, 2, .inl z9)) : Nat × va_E))) e_y161)
              have hS := hS9; clear hP9 hD9 hS9
              have b_y161 : vr 0 24 y161 := vr_upd e_y161 h_a0_20_f (by omega)
              refine lv_iconst (v := 1) hx hb dX9_pieceLine_160 (by decide) ?_
              have qc1 : (1 : Int32).toInt = 1 := by decide
              refine W.widen (k := 0) (n := 0) (Nat.le_of_ble_eq_true rfl) (Nat.le_of_ble_eq_true rfl) ?_
              have hP9 := hP
              have hD9 := hD
              have hK9 := (rgK11_ef93369 hK)
              have hf9_0 : (0 ≤ za0_7_149.toInt ∧ za0_7_149.toInt ≤ 1000) := by omega
              have hf9_1 : (0 ≤ za0_8_150.toInt ∧ za0_8_150.toInt ≤ 1000) := by omega
              have hf9_2 : ((-1) ≤ za0_37_108.toInt ∧ za0_37_108.toInt ≤ 23) := by omega
              have hf9_3 : vr 0 24 y161 := b_y161
              have hf9_4 : ((1 : Int32) = 0 ∨ (1 : Int32) = 1) := (by decide)
              have hf9_5 : ((1 : Int32).toInt = 1 → (y161 a0_17.toNatClampNeg).toInt = (a0_20_f a0_17.toNatClampNeg).toInt + 1) := fun _ => by rw [upd_eq e_y161]; omega
              have hf9_6 : (KP 1 a0_20_f y161) := KP.upd e_y161 (kI (by omega))
              have hf9_7 : (PTOk y115 (y161 a0_17.toNatClampNeg).toInt) := PTOk.more hpt1 hv1 (by omega) (by rw [upd_eq e_y161]; omega) (by omega)
              exact W.zret (v := 1) hx hb hr rfl (fun t ht hW => ⟨⟨1, 1, rfl, rfl, za0_7_149, za0_8_150, za0_9_151, za0_10_152, za0_11_153, za0_12_140, za0_13_141, za0_14_125, za0_15_126, za0_16_127, za0_36_10, za0_37_108, y161, y158, y115, y132, za0_30_f_142, y20, hf9_0, hf9_1, hf9_2, hf9_3, hf9_4, hf9_5, hf9_6, hf9_7, atB ht hP9, va_K.moved hW.alike hK9, hD9⟩, hS.F ht⟩) hS.2.2 dX9_pieceLine_161
            · have c117_157 : ¬ (r148.toInt = 0) := mt (cv_eq rfl (by decide)).mpr c117_157
              refine lv_aload_n hx hb dX9_pieceLine_120 rfl (lv_at hl 2 rfl) ?_
              refine lv_iconst (v := 2) hx hb dX9_pieceLine_121 (by decide) ?_
              have qc2 : (2 : Int32).toInt = 2 := by decide
              have hPc := (rgP12_335202d hP)
              have hKc := (rgK11_7d74d5c hK)
              have hDc := (rgD12_2bba977 hD)
              have hFc := freeW hDc hS hA
              refine va_calli (va_runV (As := [.int 2]) (rest := []) ⟨hx, hb, hml, hown, hts⟩ (k_X9_takesTold l dC dI g H.size (a0) (2) (a0_0) (a0_1) (a0_2) (a0_3) (a0_4) (a0_5) (a0_6) (za0_7_149) (za0_8_150) (za0_9_151) (za0_10_152) (za0_11_153) (za0_12_140) (za0_13_141) (za0_14_125) (za0_15_126) (za0_16_127) (a0_17) (a0_18) (a0_19) (a0_20) (a0_21) (a0_22) (a0_23) (a0_24) (a0_25) (a0_26) (a0_27) (a0_28) (a0_29) (a0_30) (a0_31) (a0_32) (a0_33) (a0_34) (a0_35) (za0_36_10) (za0_37_108) (a0_38) (a0_39) (a0_40) (a0_41) (a0_42) (a0_43) (a0_4_c) (a0_4_f) (a0_18_c) (a0_18_f) (a0_19_c) (a0_19_f) (a0_20_c) (a0_20_f) (a0_22_c) (a0_22_f) (a0_25_c) (a0_25_f) (a0_27_c) (a0_27_f) (by omega) (by omega) (by omega) (by omega) (by omega) (by omega) (by omega) h_a0_18_f h_a0_19_f h_a0_20_f) (cwV 1 hts (gwV qw_573 qw_574 qw_575 qw_386 qw_572) rfl rfl rfl (by decide +kernel) ⟨Nat.le_of_ble_eq_true rfl, Nat.le_of_ble_eq_true rfl⟩) ⟨fun a U g9 mk q => ⟨q.1, q.2.1, q.2.2.1, va_K.moved (u := U) (U := U.calling g9 mk a) (Vm.Alike.refl U.vm) q.2.2.2.1, q.2.2.2.2.1, Ev.bl q.2.2.2.2.2⟩, va_recv hK hP (ci := 8) (q0 := 0) rfl rgL12_062fd34, fun U hU hW => ⟨rfl, by rw [hU], atB hU hPc, va_K.moved hW.alike hKc, hDc.weaken (fun _ _ _ _ => trivial), hE.go hS hFc hU hW⟩⟩ rfl rfl hl.1 rfl (lv_room (Nat.le_of_ble_eq_true rfl)) dX9_pieceLine_122 ⟨Nat.le_of_ble_eq_true rfl, Nat.le_of_ble_eq_true rfl⟩) hS (fun q _ h => hFc q h) hFc (fun r163 u162 t H1 locs ht hvm h_u162 hB hz1 hk1 hS => ?_)
              obtain ⟨za0_7_164, za0_8_165, za0_9_166, za0_10_167, za0_11_168, za0_12_169, za0_13_170, za0_37_171, hF172, hF173, hF174, hF175, hF176, hP1, hK1, hD1⟩ := hB
              have hK1 := va_K.moved hvm.symm hK1
              have hJ9 := rgJ12_2385b4d hP hD hk1 hFc (atH ht hP1) hD1
              clear hP hD hPc hKc hDc hFc hP1 hD1 hk1 hz1
              obtain ⟨hP, hD⟩ := hJ9
              clear hK1
              generalize H1 = H at hP hS ⊢
              refine W.widen (k := 0) (n := 0) (Nat.le_of_ble_eq_true rfl) (Nat.le_of_ble_eq_true rfl) ?_
              have h_r163 := congrArg Int32.toInt h_u162
              have hz_r163 : r163 = 0 ∨ r163 = 1 := h_u162 ▸ hF175
              have b_r163 := z01 hz_r163
              refine lv_if_ne (tgt := 130) hx hb dX9_pieceLine_125 (by decide) (fun c125_177 => ?_) (fun c125_177 => ?_)
              · have c125_177 : ¬ (r163.toInt = 0) := mt (cv_eq rfl (by decide)).mpr c125_177
                refine lv_aload_n hx hb dX9_pieceLine_130 rfl (lv_at hl 2 rfl) ?_
                refine va_get (D := (dC, dI)) (ci := 8) (v := .ref a0_31) (C := RX9) (T := TX9) (N := 44) hx hb hts inlX9 hown hK hP 0 rgL12_062fd34 rfl 31 (by decide) (hts (.fieldLink RX9 54 "ClosedUntilModel" "ofDeposit" "[I") qw_509) (fun _ h9 => h9) rfl dX9_pieceLine_131 ?_
                refine lv_iload_n hx hb dX9_pieceLine_134 rfl (lv_at hl 0 rfl) ?_
                refine lv_aload_n hx hb dX9_pieceLine_135 rfl (lv_at hl 2 rfl) ?_
                refine va_get (D := (dC, dI)) (ci := 8) (v := .int za0_37_171) (C := RX9) (T := TX9) (N := 44) hx hb hts inlX9 hown hK hP 0 rgL12_062fd34 rfl 37 (by decide) (hts (.fieldLink RX9 274 "ClosedUntilModel" "foundHere" "I") qw_499) (fun _ h9 => h9) rfl dX9_pieceLine_136 ?_
                refine va_iast hx hb hK hP hD hS 11 10 rgL12_827ade5 rgT11_0e4f932 (vinI (by omega) (by omega)) dX9_pieceLine_139 (fun H locs hP9 hD9 hS9 => ?_)
                obtain ⟨y178, e_y178⟩ : ∃ y, (upd y20 x17.toNatClampNeg za0_37_171) = y := ⟨_, rfl⟩
                clear hP hD hS
                obtain ⟨hP, hD⟩ := rgS12_18878dc (e := (a0_31, .inl (a0_31_c, 48, .inl y178))) hP9 hD9 (congrArg (fun z9 => (((a0_31, .inl (a0_31_c, 48, .inl z9)) : Nat × va_E))) e_y178)
                have hS := hS9; clear hP9 hD9 hS9
                refine lv_aload_n hx hb dX9_pieceLine_140 rfl (lv_at hl 2 rfl) ?_
                refine va_get (D := (dC, dI)) (ci := 8) (v := .ref a0_27) (C := RX9) (T := TX9) (N := 44) hx hb hts inlX9 hown hK hP 0 rgL12_062fd34 rfl 27 (by decide) (hts (.fieldLink RX9 42 "ClosedUntilModel" "pieceName" "[J") qw_440) (fun _ h9 => h9) rfl dX9_pieceLine_141 ?_
                refine lv_iload_n hx hb dX9_pieceLine_144 rfl (lv_at hl 0 rfl) ?_
                refine lv_lload_n hx hb dX9_pieceLine_145 rfl (lv_at hl 1 rfl) ?_
                refine va_last hx hb hK hP hD hS 7 6 rgL12_c7fa67d rgT11_f77e765 (vinI (by omega) (by omega)) dX9_pieceLine_146 (fun H locs hP9 hD9 hS9 => ?_)
                obtain ⟨y179, e_y179⟩ : ∃ y, (vp_updL a0_27_f x17.toNatClampNeg za0_36_10) = y := ⟨_, rfl⟩
                clear hP hD hS
                obtain ⟨hP, hD⟩ := rgS12_5a82636 (e := (a0_27, .inl (a0_27_c, 48, .inr (.inl y179)))) hP9 hD9 (congrArg (fun z9 => (((a0_27, .inl (a0_27_c, 48, .inr (.inl z9))) : Nat × va_E))) e_y179)
                have hS := hS9; clear hP9 hD9 hS9
                refine lv_aload_n hx hb dX9_pieceLine_147 rfl (lv_at hl 2 rfl) ?_
                refine va_get (D := (dC, dI)) (ci := 8) (v := .ref a0_20) (C := RX9) (T := TX9) (N := 44) hx hb hts inlX9 hown hK hP 0 rgL12_062fd34 rfl 20 (by decide) (hts (.fieldLink RX9 20 "ClosedUntilModel" "pieces" "[I") qw_439) (fun _ h9 => h9) rfl dX9_pieceLine_148 ?_
                refine lv_aload_n hx hb dX9_pieceLine_151 rfl (lv_at hl 2 rfl) ?_
                refine va_get (D := (dC, dI)) (ci := 8) (v := .int a0_17) (C := RX9) (T := TX9) (N := 44) hx hb hts inlX9 hown hK hP 0 rgL12_062fd34 rfl 17 (by decide) (hts (.fieldLink RX9 256 "ClosedUntilModel" "bench" "I") qw_435) (fun _ h9 => h9) rfl dX9_pieceLine_152 ?_
                refine lv_dup2_11 hx hb dX9_pieceLine_155 rfl rfl ?_
                refine va_iald hx hb hK hP 4 3 rgL12_12520d7 rgT11_4f72b73 (vinI (by omega) (by omega)) dX9_pieceLine_156 ?_
                refine lv_topi (fun x180 e_x180 => ?_)
                have q_x180 := congrArg Int32.toInt e_x180
                have b_x180 : 0 ≤ x180.toInt ∧ x180.toInt ≤ 24 := vr_at (lo := 0) (hi := 24) (f := a0_20_f) h_a0_20_f e_x180
                refine lv_iconst (v := 1) hx hb dX9_pieceLine_157 (by decide) ?_
                refine lv_iadd hx hb dX9_pieceLine_158 ?_
                refine lv_topi (fun x181 e_x181 => ?_)
                try have e_x181 := ti_add e_x181 rfl (show (1 : Int32).toInt = 1 by decide) (by omega)
                refine va_iast hx hb hK hP hD hS 4 3 rgL12_12520d7 rgT11_4f72b73 (vinI (by omega) (by omega)) dX9_pieceLine_159 (fun H locs hP9 hD9 hS9 => ?_)
                obtain ⟨y182, e_y182⟩ : ∃ y, (upd a0_20_f a0_17.toNatClampNeg x181) = y := ⟨_, rfl⟩
                clear hP hD hS
                obtain ⟨hP, hD⟩ := rgS12_b6cd9a0 (e := (a0_20, .inl (a0_20_c, 2, .inl y182))) hP9 hD9 (congrArg (fun z9 => (((a0_20, .inl (a0_20_c, 2, .inl z9)) : Nat × va_E))) e_y182)
                have hS := hS9; clear hP9 hD9 hS9
                have b_y182 : vr 0 24 y182 := vr_upd e_y182 h_a0_20_f (by omega)
                refine lv_iconst (v := 1) hx hb dX9_pieceLine_160 (by decide) ?_
                have qc1 : (1 : Int32).toInt = 1 := by decide
                refine W.widen (k := 0) (n := 0) (Nat.le_of_ble_eq_true rfl) (Nat.le_of_ble_eq_true rfl) ?_
                have hP9 := hP
                have hD9 := hD
                have hK9 := (rgK11_ef93369 hK)
                have hf9_0 : (0 ≤ za0_7_164.toInt ∧ za0_7_164.toInt ≤ 1000) := by omega
                have hf9_1 : (0 ≤ za0_8_165.toInt ∧ za0_8_165.toInt ≤ 1000) := by omega
                have hf9_2 : ((-1) ≤ za0_37_171.toInt ∧ za0_37_171.toInt ≤ 23) := by omega
                have hf9_3 : vr 0 24 y182 := b_y182
                have hf9_4 : ((1 : Int32) = 0 ∨ (1 : Int32) = 1) := (by decide)
                have hf9_5 : ((1 : Int32).toInt = 1 → (y182 a0_17.toNatClampNeg).toInt = (a0_20_f a0_17.toNatClampNeg).toInt + 1) := fun _ => by rw [upd_eq e_y182]; omega
                have hf9_6 : (KP 1 a0_20_f y182) := KP.upd e_y182 (kI (by omega))
                have hf9_7 : (PTOk y115 (y182 a0_17.toNatClampNeg).toInt) := PTOk.more hpt1 hv1 (by omega) (by rw [upd_eq e_y182]; omega) (by omega)
                exact W.zret (v := 1) hx hb hr rfl (fun t ht hW => ⟨⟨1, 1, rfl, rfl, za0_7_164, za0_8_165, za0_9_166, za0_10_167, za0_11_168, za0_12_169, za0_13_170, za0_14_125, za0_15_126, za0_16_127, za0_36_10, za0_37_171, y182, y179, y115, y132, za0_30_f_142, y178, hf9_0, hf9_1, hf9_2, hf9_3, hf9_4, hf9_5, hf9_6, hf9_7, atB ht hP9, va_K.moved hW.alike hK9, hD9⟩, hS.F ht⟩) hS.2.2 dX9_pieceLine_161
              · have c125_177 : r163.toInt = 0 := (cv_eq rfl (by decide)).mp c125_177
                refine lv_iconst (v := 0) hx hb dX9_pieceLine_128 (by decide) ?_
                have qc0 : (0 : Int32).toInt = 0 := by decide
                refine W.widen (k := 0) (n := 0) (Nat.le_of_ble_eq_true rfl) (Nat.le_of_ble_eq_true rfl) ?_
                have hP9 := hP
                have hD9 := hD
                have hK9 := (rgK11_ef93369 hK)
                have hf9_0 : (0 ≤ za0_7_164.toInt ∧ za0_7_164.toInt ≤ 1000) := by omega
                have hf9_1 : (0 ≤ za0_8_165.toInt ∧ za0_8_165.toInt ≤ 1000) := by omega
                have hf9_2 : ((-1) ≤ za0_37_171.toInt ∧ za0_37_171.toInt ≤ 23) := by omega
                have hf9_3 : vr 0 24 a0_20_f := h_a0_20_f
                have hf9_4 : ((0 : Int32) = 0 ∨ (0 : Int32) = 1) := (by decide)
                have hf9_5 : ((0 : Int32).toInt = 1 → (a0_20_f a0_17.toNatClampNeg).toInt = (a0_20_f a0_17.toNatClampNeg).toInt + 1) := fun q => absurd q (by decide)
                have hf9_6 : (KP 1 a0_20_f a0_20_f) := KP.rf
                have hf9_7 : (PTOk y115 (a0_20_f a0_17.toNatClampNeg).toInt) := hpt1
                exact W.zret (v := 0) hx hb hr rfl (fun t ht hW => ⟨⟨0, 0, rfl, rfl, za0_7_164, za0_8_165, za0_9_166, za0_10_167, za0_11_168, za0_12_169, za0_13_170, za0_14_125, za0_15_126, za0_16_127, za0_36_10, za0_37_171, a0_20_f, a0_27_f, y115, y132, za0_30_f_142, y20, hf9_0, hf9_1, hf9_2, hf9_3, hf9_4, hf9_5, hf9_6, hf9_7, atB ht hP9, va_K.moved hW.alike hK9, hD9⟩, hS.F ht⟩) hS.2.2 dX9_pieceLine_129
          · have c106_146 : r134.toInt = 0 := (cv_eq rfl (by decide)).mp c106_146
            refine lv_iconst (v := 0) hx hb dX9_pieceLine_109 (by decide) ?_
            have qc0 : (0 : Int32).toInt = 0 := by decide
            refine W.widen (k := 0) (n := 0) (Nat.le_of_ble_eq_true rfl) (Nat.le_of_ble_eq_true rfl) ?_
            have hP9 := hP
            have hD9 := hD
            have hK9 := (rgK11_ef93369 hK)
            have hf9_0 : (0 ≤ za0_7_135.toInt ∧ za0_7_135.toInt ≤ 1000) := by omega
            have hf9_1 : (0 ≤ za0_8_136.toInt ∧ za0_8_136.toInt ≤ 1000) := by omega
            have hf9_2 : ((-1) ≤ za0_37_108.toInt ∧ za0_37_108.toInt ≤ 23) := by omega
            have hf9_3 : vr 0 24 a0_20_f := h_a0_20_f
            have hf9_4 : ((0 : Int32) = 0 ∨ (0 : Int32) = 1) := (by decide)
            have hf9_5 : ((0 : Int32).toInt = 1 → (a0_20_f a0_17.toNatClampNeg).toInt = (a0_20_f a0_17.toNatClampNeg).toInt + 1) := fun q => absurd q (by decide)
            have hf9_6 : (KP 1 a0_20_f a0_20_f) := KP.rf
            have hf9_7 : (PTOk y115 (a0_20_f a0_17.toNatClampNeg).toInt) := hpt1
            exact W.zret (v := 0) hx hb hr rfl (fun t ht hW => ⟨⟨0, 0, rfl, rfl, za0_7_135, za0_8_136, za0_9_137, za0_10_138, za0_11_139, za0_12_140, za0_13_141, za0_14_125, za0_15_126, za0_16_127, za0_36_10, za0_37_108, a0_20_f, a0_27_f, y115, y132, za0_30_f_142, y20, hf9_0, hf9_1, hf9_2, hf9_3, hf9_4, hf9_5, hf9_6, hf9_7, atB ht hP9, va_K.moved hW.alike hK9, hD9⟩, hS.F ht⟩) hS.2.2 dX9_pieceLine_110
        · have c86_131 : r117.toInt = 0 := (cv_eq rfl (by decide)).mp c86_131
          refine lv_iconst (v := 0) hx hb dX9_pieceLine_89 (by decide) ?_
          have qc0 : (0 : Int32).toInt = 0 := by decide
          refine W.widen (k := 0) (n := 0) (Nat.le_of_ble_eq_true rfl) (Nat.le_of_ble_eq_true rfl) ?_
          have hP9 := hP
          have hD9 := hD
          have hK9 := (rgK11_ef93369 hK)
          have hf9_0 : (0 ≤ za0_7_118.toInt ∧ za0_7_118.toInt ≤ 1000) := by omega
          have hf9_1 : (0 ≤ za0_8_119.toInt ∧ za0_8_119.toInt ≤ 1000) := by omega
          have hf9_2 : ((-1) ≤ za0_37_108.toInt ∧ za0_37_108.toInt ≤ 23) := by omega
          have hf9_3 : vr 0 24 a0_20_f := h_a0_20_f
          have hf9_4 : ((0 : Int32) = 0 ∨ (0 : Int32) = 1) := (by decide)
          have hf9_5 : ((0 : Int32).toInt = 1 → (a0_20_f a0_17.toNatClampNeg).toInt = (a0_20_f a0_17.toNatClampNeg).toInt + 1) := fun q => absurd q (by decide)
          have hf9_6 : (KP 1 a0_20_f a0_20_f) := KP.rf
          have hf9_7 : (PTOk y115 (a0_20_f a0_17.toNatClampNeg).toInt) := hpt1
          exact W.zret (v := 0) hx hb hr rfl (fun t ht hW => ⟨⟨0, 0, rfl, rfl, za0_7_118, za0_8_119, za0_9_120, za0_10_121, za0_11_122, za0_12_123, za0_13_124, za0_14_125, za0_15_126, za0_16_127, za0_36_10, za0_37_108, a0_20_f, a0_27_f, y115, a0_29_f, y19, y20, hf9_0, hf9_1, hf9_2, hf9_3, hf9_4, hf9_5, hf9_6, hf9_7, atB ht hP9, va_K.moved hW.alike hK9, hD9⟩, hS.F ht⟩) hS.2.2 dX9_pieceLine_90
      · have c67_114 : r100.toInt = 0 := (cv_eq rfl (by decide)).mp c67_114
        refine lv_iconst (v := 0) hx hb dX9_pieceLine_70 (by decide) ?_
        have qc0 : (0 : Int32).toInt = 0 := by decide
        refine W.widen (k := 0) (n := 0) (Nat.le_of_ble_eq_true rfl) (Nat.le_of_ble_eq_true rfl) ?_
        have hP9 := hP
        have hD9 := hD
        have hK9 := (rgK11_ef93369 hK)
        have hf9_0 : (0 ≤ za0_7_101.toInt ∧ za0_7_101.toInt ≤ 1000) := by omega
        have hf9_1 : (0 ≤ za0_8_102.toInt ∧ za0_8_102.toInt ≤ 1000) := by omega
        have hf9_2 : ((-1) ≤ za0_37_108.toInt ∧ za0_37_108.toInt ≤ 23) := by omega
        have hf9_3 : vr 0 24 a0_20_f := h_a0_20_f
        have hf9_4 : ((0 : Int32) = 0 ∨ (0 : Int32) = 1) := (by decide)
        have hf9_5 : ((0 : Int32).toInt = 1 → (a0_20_f a0_17.toNatClampNeg).toInt = (a0_20_f a0_17.toNatClampNeg).toInt + 1) := fun q => absurd q (by decide)
        have hf9_6 : (KP 1 a0_20_f a0_20_f) := KP.rf
        have hf9_7 : (PTOk y18 (a0_20_f a0_17.toNatClampNeg).toInt) := hpt1
        exact W.zret (v := 0) hx hb hr rfl (fun t ht hW => ⟨⟨0, 0, rfl, rfl, za0_7_101, za0_8_102, za0_9_103, za0_10_104, za0_11_105, za0_12_106, za0_13_107, a0_14, a0_15, a0_16, za0_36_10, za0_37_108, a0_20_f, a0_27_f, y18, a0_29_f, y19, y20, hf9_0, hf9_1, hf9_2, hf9_3, hf9_4, hf9_5, hf9_6, hf9_7, atB ht hP9, va_K.moved hW.alike hK9, hD9⟩, hS.F ht⟩) hS.2.2 dX9_pieceLine_71
  · have c4_14 : r2.toInt = 0 := (cv_eq rfl (by decide)).mp c4_14
    refine lv_iconst (v := 0) hx hb dX9_pieceLine_7 (by decide) ?_
    have qc0 : (0 : Int32).toInt = 0 := by decide
    refine W.widen (k := 0) (n := 0) (Nat.le_of_ble_eq_true rfl) (Nat.le_of_ble_eq_true rfl) ?_
    have hP9 := hP
    have hD9 := hD
    have hK9 := (rgK11_ef93369 hK)
    have hf9_0 : (0 ≤ za0_7_3.toInt ∧ za0_7_3.toInt ≤ 1000) := by omega
    have hf9_1 : (0 ≤ za0_8_4.toInt ∧ za0_8_4.toInt ≤ 1000) := by omega
    have hf9_2 : ((-1) ≤ a0_37.toInt ∧ a0_37.toInt ≤ 23) := by omega
    have hf9_3 : vr 0 24 a0_20_f := h_a0_20_f
    have hf9_4 : ((0 : Int32) = 0 ∨ (0 : Int32) = 1) := (by decide)
    have hf9_5 : ((0 : Int32).toInt = 1 → (a0_20_f a0_17.toNatClampNeg).toInt = (a0_20_f a0_17.toNatClampNeg).toInt + 1) := fun q => absurd q (by decide)
    have hf9_6 : (KP 1 a0_20_f a0_20_f) := KP.rf
    have hf9_7 : (PTOk a0_28_f (a0_20_f a0_17.toNatClampNeg).toInt) := hpt
    exact W.zret (v := 0) hx hb hr rfl (fun t ht hW => ⟨⟨0, 0, rfl, rfl, za0_7_3, za0_8_4, za0_9_5, za0_10_6, za0_11_7, za0_12_8, za0_13_9, a0_14, a0_15, a0_16, za0_36_10, a0_37, a0_20_f, a0_27_f, a0_28_f, a0_29_f, a0_30_f, a0_31_f, hf9_0, hf9_1, hf9_2, hf9_3, hf9_4, hf9_5, hf9_6, hf9_7, atB ht hP9, va_K.moved hW.alike hK9, hD9⟩, hS.F ht⟩) hS.2.2 dX9_pieceLine_8
set_option maxHeartbeats 4000000 in
set_option maxRecDepth 100000 in
theorem k_X9_closeLine (l : Launch) (dC : Nat → ClassId) (dI : Nat → Nat → Nat) (g : Gv) (sz : Nat) (a0 : Nat) (a0_0 : Int32) (a0_1 : Int32) (a0_2 : Int32) (a0_3 : Int32) (a0_4 : Nat) (a0_5 : Int32) (a0_6 : Int32) (a0_7 : Int32) (a0_8 : Int32) (a0_9 : Int32) (a0_10 : Int32) (a0_11 : Int64) (a0_12 : Int32) (a0_13 : Int32) (a0_14 : Int32) (a0_15 : Int32) (a0_16 : Int32) (a0_17 : Int32) (a0_18 : Nat) (a0_19 : Nat) (a0_20 : Nat) (a0_21 : Nat) (a0_22 : Nat) (a0_23 : Nat) (a0_24 : Nat) (a0_25 : Nat) (a0_26 : Nat) (a0_27 : Nat) (a0_28 : Nat) (a0_29 : Nat) (a0_30 : Nat) (a0_31 : Nat) (a0_32 : Nat) (a0_33 : Nat) (a0_34 : Nat) (a0_35 : Nat) (a0_36 : Int64) (a0_37 : Int32) (a0_38 : Nat) (a0_39 : Nat) (a0_40 : Int32) (a0_41 : Nat) (a0_42 : Nat) (a0_43 : Nat) (a0_4_c : ClassId) (a0_4_f : Nat → Int32) (a0_18_c : ClassId) (a0_18_f : Nat → Int32) (a0_19_c : ClassId) (a0_19_f : Nat → Int32) (a0_20_c : ClassId) (a0_20_f : Nat → Int32) (a0_21_c : ClassId) (a0_21_f : Nat → Int32) (a0_22_c : ClassId) (a0_22_f : Nat → Int64) (a0_25_c : ClassId) (a0_25_f : Nat → Int64) (a0_27_c : ClassId) (a0_27_f : Nat → Int64) (a0_32_c : ClassId) (a0_32_f : Nat → Int32) (a0_33_c : ClassId) (a0_33_f : Nat → Int32) (a0_34_c : ClassId) (a0_34_f : Nat → Int32) (a0_35_c : ClassId) (a0_35_f : Nat → Int32) (h_a0_5 : 0 ≤ a0_5.toInt ∧ a0_5.toInt ≤ 1000) (h_a0_6 : 0 ≤ a0_6.toInt ∧ a0_6.toInt ≤ 1000) (h_a0_7 : 0 ≤ a0_7.toInt ∧ a0_7.toInt ≤ 1000) (h_a0_8 : 0 ≤ a0_8.toInt ∧ a0_8.toInt ≤ 1000) (h_a0_17 : 0 ≤ a0_17.toInt ∧ a0_17.toInt ≤ 1) (h_a0_37 : (-1) ≤ a0_37.toInt ∧ a0_37.toInt ≤ 23) (h_a0_40 : 0 ≤ a0_40.toInt ∧ a0_40.toInt ≤ 12) (h_a0_18_f : vr 0 8 a0_18_f) (h_a0_19_f : vr 0 4 a0_19_f) (h_a0_20_f : vr 0 24 a0_20_f) (h_a0_21_f : vr 0 12 a0_21_f) (hbn : a0_17.toInt = 1) (hcan : (a0_21_f a0_17.toNatClampNeg).toInt < 12) (hwo : WOk a0_32_f a0_33_f 12 (a0_21_f a0_17.toNatClampNeg).toInt) : Met l yX9_closeLine (.code yX9_closeLine cX9_closeLine 3 (some .boolean) :: TBL) ({ frames := 9, cells := 0, slots := 0, locals := 265 }) (va_Pc [.ref a0] (fun U => U.heap.size = sz ∧ va_P (dC, dI) vwCl [(a0, .inr (8, [.int a0_0, .int a0_1, .int a0_2, .int a0_3, .ref a0_4, .int a0_5, .int a0_6, .int a0_7, .int a0_8, .int a0_9, .int a0_10, .long a0_11, .int a0_12, .int a0_13, .int a0_14, .int a0_15, .int a0_16, .int a0_17, .ref a0_18, .ref a0_19, .ref a0_20, .ref a0_21, .ref a0_22, .ref a0_23, .ref a0_24, .ref a0_25, .ref a0_26, .ref a0_27, .ref a0_28, .ref a0_29, .ref a0_30, .ref a0_31, .ref a0_32, .ref a0_33, .ref a0_34, .ref a0_35, .long a0_36, .int a0_37, .ref a0_38, .ref a0_39, .int a0_40, .ref a0_41, .ref a0_42, .ref a0_43])), (a0_4, .inl (a0_4_c, 1000, .inl a0_4_f)), (a0_18, .inl (a0_18_c, 2, .inl a0_18_f)), (a0_19, .inl (a0_19_c, 2, .inl a0_19_f)), (a0_20, .inl (a0_20_c, 2, .inl a0_20_f)), (a0_21, .inl (a0_21_c, 2, .inl a0_21_f)), (a0_22, .inl (a0_22_c, 16, .inr (.inl a0_22_f))), (a0_25, .inl (a0_25_c, 8, .inr (.inl a0_25_f))), (a0_27, .inl (a0_27_c, 48, .inr (.inl a0_27_f))), (a0_32, .inl (a0_32_c, 24, .inl a0_32_f)), (a0_33, .inl (a0_33_c, 24, .inl a0_33_f)), (a0_34, .inl (a0_34_c, 72, .inl a0_34_f)), (a0_35, .inl (a0_35_c, 24, .inl a0_35_f))] U.heap ∧ va_K (dC, dI) vwCl [(a0_4_c, .byte), (a0_18_c, .int), (a0_19_c, .int), (a0_20_c, .int), (a0_21_c, .int), (a0_22_c, .long), (a0_25_c, .long), (a0_27_c, .long), (a0_32_c, .int), (a0_33_c, .int), (a0_34_c, .int), (a0_35_c, .boolean)] U ∧ va_D (fun _ => True) [(a0, .inr (8, [.int a0_0, .int a0_1, .int a0_2, .int a0_3, .ref a0_4, .int a0_5, .int a0_6, .int a0_7, .int a0_8, .int a0_9, .int a0_10, .long a0_11, .int a0_12, .int a0_13, .int a0_14, .int a0_15, .int a0_16, .int a0_17, .ref a0_18, .ref a0_19, .ref a0_20, .ref a0_21, .ref a0_22, .ref a0_23, .ref a0_24, .ref a0_25, .ref a0_26, .ref a0_27, .ref a0_28, .ref a0_29, .ref a0_30, .ref a0_31, .ref a0_32, .ref a0_33, .ref a0_34, .ref a0_35, .long a0_36, .int a0_37, .ref a0_38, .ref a0_39, .int a0_40, .ref a0_41, .ref a0_42, .ref a0_43])), (a0_4, .inl (a0_4_c, 1000, .inl a0_4_f)), (a0_18, .inl (a0_18_c, 2, .inl a0_18_f)), (a0_19, .inl (a0_19_c, 2, .inl a0_19_f)), (a0_20, .inl (a0_20_c, 2, .inl a0_20_f)), (a0_21, .inl (a0_21_c, 2, .inl a0_21_f)), (a0_22, .inl (a0_22_c, 16, .inr (.inl a0_22_f))), (a0_25, .inl (a0_25_c, 8, .inr (.inl a0_25_f))), (a0_27, .inl (a0_27_c, 48, .inr (.inl a0_27_f))), (a0_32, .inl (a0_32_c, 24, .inl a0_32_f)), (a0_33, .inl (a0_33_c, 24, .inl a0_33_f)), (a0_34, .inl (a0_34_c, 72, .inl a0_34_f)), (a0_35, .inl (a0_35_c, 24, .inl a0_35_f))] ∧ Ev g (va_A [(a0, .inr (8, [.int a0_0, .int a0_1, .int a0_2, .int a0_3, .ref a0_4, .int a0_5, .int a0_6, .int a0_7, .int a0_8, .int a0_9, .int a0_10, .long a0_11, .int a0_12, .int a0_13, .int a0_14, .int a0_15, .int a0_16, .int a0_17, .ref a0_18, .ref a0_19, .ref a0_20, .ref a0_21, .ref a0_22, .ref a0_23, .ref a0_24, .ref a0_25, .ref a0_26, .ref a0_27, .ref a0_28, .ref a0_29, .ref a0_30, .ref a0_31, .ref a0_32, .ref a0_33, .ref a0_34, .ref a0_35, .long a0_36, .int a0_37, .ref a0_38, .ref a0_39, .int a0_40, .ref a0_41, .ref a0_42, .ref a0_43])), (a0_4, .inl (a0_4_c, 1000, .inl a0_4_f)), (a0_18, .inl (a0_18_c, 2, .inl a0_18_f)), (a0_19, .inl (a0_19_c, 2, .inl a0_19_f)), (a0_20, .inl (a0_20_c, 2, .inl a0_20_f)), (a0_21, .inl (a0_21_c, 2, .inl a0_21_f)), (a0_22, .inl (a0_22_c, 16, .inr (.inl a0_22_f))), (a0_25, .inl (a0_25_c, 8, .inr (.inl a0_25_f))), (a0_27, .inl (a0_27_c, 48, .inr (.inl a0_27_f))), (a0_32, .inl (a0_32_c, 24, .inl a0_32_f)), (a0_33, .inl (a0_33_c, 24, .inl a0_33_f)), (a0_34, .inl (a0_34_c, 72, .inl a0_34_f)), (a0_35, .inl (a0_35_c, 24, .inl a0_35_f))] sz) U)) (va_Qi (fun (r : Int32) (u : Int32) => u = r) (fun (u : Int32) (t : State) => ∃ (za0_7 : Int32) (za0_8 : Int32) (za0_9 : Int32) (za0_10 : Int32) (za0_11 : Int64) (za0_12 : Int32) (za0_13 : Int32) (za0_14 : Int32) (za0_15 : Int32) (za0_16 : Int32) (za0_37 : Int32) (za0_21_f : Nat → Int32) (za0_32_f : Nat → Int32) (za0_33_f : Nat → Int32) (za0_34_f : Nat → Int32) (za0_35_f : Nat → Int32), (0 ≤ za0_7.toInt ∧ za0_7.toInt ≤ 1000) ∧ (0 ≤ za0_8.toInt ∧ za0_8.toInt ≤ 1000) ∧ ((-1) ≤ za0_37.toInt ∧ za0_37.toInt ≤ 23) ∧ vr 0 12 za0_21_f ∧ (u = 0 ∨ u = 1) ∧ (u.toInt = 1 → (za0_21_f a0_17.toNatClampNeg).toInt = (a0_21_f a0_17.toNatClampNeg).toInt + 1) ∧ (KP 1 a0_21_f za0_21_f) ∧ (KP 12 a0_32_f za0_32_f) ∧ (KP 12 a0_33_f za0_33_f) ∧ (WOk za0_32_f za0_33_f 12 (za0_21_f a0_17.toNatClampNeg).toInt) ∧ va_P (dC, dI) vwCl [(a0, .inr (8, [.int a0_0, .int a0_1, .int a0_2, .int a0_3, .ref a0_4, .int a0_5, .int a0_6, .int za0_7, .int za0_8, .int za0_9, .int za0_10, .long za0_11, .int za0_12, .int za0_13, .int za0_14, .int za0_15, .int za0_16, .int a0_17, .ref a0_18, .ref a0_19, .ref a0_20, .ref a0_21, .ref a0_22, .ref a0_23, .ref a0_24, .ref a0_25, .ref a0_26, .ref a0_27, .ref a0_28, .ref a0_29, .ref a0_30, .ref a0_31, .ref a0_32, .ref a0_33, .ref a0_34, .ref a0_35, .long a0_36, .int za0_37, .ref a0_38, .ref a0_39, .int a0_40, .ref a0_41, .ref a0_42, .ref a0_43])), (a0_4, .inl (a0_4_c, 1000, .inl a0_4_f)), (a0_18, .inl (a0_18_c, 2, .inl a0_18_f)), (a0_19, .inl (a0_19_c, 2, .inl a0_19_f)), (a0_20, .inl (a0_20_c, 2, .inl a0_20_f)), (a0_21, .inl (a0_21_c, 2, .inl za0_21_f)), (a0_22, .inl (a0_22_c, 16, .inr (.inl a0_22_f))), (a0_25, .inl (a0_25_c, 8, .inr (.inl a0_25_f))), (a0_27, .inl (a0_27_c, 48, .inr (.inl a0_27_f))), (a0_32, .inl (a0_32_c, 24, .inl za0_32_f)), (a0_33, .inl (a0_33_c, 24, .inl za0_33_f)), (a0_34, .inl (a0_34_c, 72, .inl za0_34_f)), (a0_35, .inl (a0_35_c, 24, .inl za0_35_f))] t.heap ∧ va_K (dC, dI) vwCl [] t ∧ va_D (va_A [(a0, .inr (8, [.int a0_0, .int a0_1, .int a0_2, .int a0_3, .ref a0_4, .int a0_5, .int a0_6, .int a0_7, .int a0_8, .int a0_9, .int a0_10, .long a0_11, .int a0_12, .int a0_13, .int a0_14, .int a0_15, .int a0_16, .int a0_17, .ref a0_18, .ref a0_19, .ref a0_20, .ref a0_21, .ref a0_22, .ref a0_23, .ref a0_24, .ref a0_25, .ref a0_26, .ref a0_27, .ref a0_28, .ref a0_29, .ref a0_30, .ref a0_31, .ref a0_32, .ref a0_33, .ref a0_34, .ref a0_35, .long a0_36, .int a0_37, .ref a0_38, .ref a0_39, .int a0_40, .ref a0_41, .ref a0_42, .ref a0_43])), (a0_4, .inl (a0_4_c, 1000, .inl a0_4_f)), (a0_18, .inl (a0_18_c, 2, .inl a0_18_f)), (a0_19, .inl (a0_19_c, 2, .inl a0_19_f)), (a0_20, .inl (a0_20_c, 2, .inl a0_20_f)), (a0_21, .inl (a0_21_c, 2, .inl a0_21_f)), (a0_22, .inl (a0_22_c, 16, .inr (.inl a0_22_f))), (a0_25, .inl (a0_25_c, 8, .inr (.inl a0_25_f))), (a0_27, .inl (a0_27_c, 48, .inr (.inl a0_27_f))), (a0_32, .inl (a0_32_c, 24, .inl a0_32_f)), (a0_33, .inl (a0_33_c, 24, .inl a0_33_f)), (a0_34, .inl (a0_34_c, 72, .inl a0_34_f)), (a0_35, .inl (a0_35_c, 24, .inl a0_35_f))] sz) [(a0, .inr (8, [.int a0_0, .int a0_1, .int a0_2, .int a0_3, .ref a0_4, .int a0_5, .int a0_6, .int za0_7, .int za0_8, .int za0_9, .int za0_10, .long za0_11, .int za0_12, .int za0_13, .int za0_14, .int za0_15, .int za0_16, .int a0_17, .ref a0_18, .ref a0_19, .ref a0_20, .ref a0_21, .ref a0_22, .ref a0_23, .ref a0_24, .ref a0_25, .ref a0_26, .ref a0_27, .ref a0_28, .ref a0_29, .ref a0_30, .ref a0_31, .ref a0_32, .ref a0_33, .ref a0_34, .ref a0_35, .long a0_36, .int za0_37, .ref a0_38, .ref a0_39, .int a0_40, .ref a0_41, .ref a0_42, .ref a0_43])), (a0_4, .inl (a0_4_c, 1000, .inl a0_4_f)), (a0_18, .inl (a0_18_c, 2, .inl a0_18_f)), (a0_19, .inl (a0_19_c, 2, .inl a0_19_f)), (a0_20, .inl (a0_20_c, 2, .inl a0_20_f)), (a0_21, .inl (a0_21_c, 2, .inl za0_21_f)), (a0_22, .inl (a0_22_c, 16, .inr (.inl a0_22_f))), (a0_25, .inl (a0_25_c, 8, .inr (.inl a0_25_f))), (a0_27, .inl (a0_27_c, 48, .inr (.inl a0_27_f))), (a0_32, .inl (a0_32_c, 24, .inl za0_32_f)), (a0_33, .inl (a0_33_c, 24, .inl za0_33_f)), (a0_34, .inl (a0_34_c, 72, .inl za0_34_f)), (a0_35, .inl (a0_35_c, 24, .inl za0_35_f))]) (va_A [(a0, .inr (8, [.int a0_0, .int a0_1, .int a0_2, .int a0_3, .ref a0_4, .int a0_5, .int a0_6, .int a0_7, .int a0_8, .int a0_9, .int a0_10, .long a0_11, .int a0_12, .int a0_13, .int a0_14, .int a0_15, .int a0_16, .int a0_17, .ref a0_18, .ref a0_19, .ref a0_20, .ref a0_21, .ref a0_22, .ref a0_23, .ref a0_24, .ref a0_25, .ref a0_26, .ref a0_27, .ref a0_28, .ref a0_29, .ref a0_30, .ref a0_31, .ref a0_32, .ref a0_33, .ref a0_34, .ref a0_35, .long a0_36, .int a0_37, .ref a0_38, .ref a0_39, .int a0_40, .ref a0_41, .ref a0_42, .ref a0_43])), (a0_4, .inl (a0_4_c, 1000, .inl a0_4_f)), (a0_18, .inl (a0_18_c, 2, .inl a0_18_f)), (a0_19, .inl (a0_19_c, 2, .inl a0_19_f)), (a0_20, .inl (a0_20_c, 2, .inl a0_20_f)), (a0_21, .inl (a0_21_c, 2, .inl a0_21_f)), (a0_22, .inl (a0_22_c, 16, .inr (.inl a0_22_f))), (a0_25, .inl (a0_25_c, 8, .inr (.inl a0_25_f))), (a0_27, .inl (a0_27_c, 48, .inr (.inl a0_27_f))), (a0_32, .inl (a0_32_c, 24, .inl a0_32_f)), (a0_33, .inl (a0_33_c, 24, .inl a0_33_f)), (a0_34, .inl (a0_34_c, 72, .inl a0_34_f)), (a0_35, .inl (a0_35_c, 24, .inl a0_35_f))] sz)) 0 0 (va_A [(a0, .inr (8, [.int a0_0, .int a0_1, .int a0_2, .int a0_3, .ref a0_4, .int a0_5, .int a0_6, .int a0_7, .int a0_8, .int a0_9, .int a0_10, .long a0_11, .int a0_12, .int a0_13, .int a0_14, .int a0_15, .int a0_16, .int a0_17, .ref a0_18, .ref a0_19, .ref a0_20, .ref a0_21, .ref a0_22, .ref a0_23, .ref a0_24, .ref a0_25, .ref a0_26, .ref a0_27, .ref a0_28, .ref a0_29, .ref a0_30, .ref a0_31, .ref a0_32, .ref a0_33, .ref a0_34, .ref a0_35, .long a0_36, .int a0_37, .ref a0_38, .ref a0_39, .int a0_40, .ref a0_41, .ref a0_42, .ref a0_43])), (a0_4, .inl (a0_4_c, 1000, .inl a0_4_f)), (a0_18, .inl (a0_18_c, 2, .inl a0_18_f)), (a0_19, .inl (a0_19_c, 2, .inl a0_19_f)), (a0_20, .inl (a0_20_c, 2, .inl a0_20_f)), (a0_21, .inl (a0_21_c, 2, .inl a0_21_f)), (a0_22, .inl (a0_22_c, 16, .inr (.inl a0_22_f))), (a0_25, .inl (a0_25_c, 8, .inr (.inl a0_25_f))), (a0_27, .inl (a0_27_c, 48, .inr (.inl a0_27_f))), (a0_32, .inl (a0_32_c, 24, .inl a0_32_f)), (a0_33, .inl (a0_33_c, 24, .inl a0_33_f)), (a0_34, .inl (a0_34_c, 72, .inl a0_34_f)), (a0_35, .inl (a0_35_c, 24, .inl a0_35_f))] sz) := by
  refine Met.ofW (cc := cX9_closeLine) (maxL := 3) (ret := (some .boolean)) (by decide) rfl ?_
  intro p e s m args below meth c s₁ B hml hv
  obtain ⟨rfl, hsz, hP, hK, hD0, hE⟩ := hv
  have hx := B.exec
  have hb := B.bytes
  have hr := B.returns
  have hts0 := atoms_spec (ws := (.code yX9_closeLine cX9_closeLine 3 (some .boolean) :: TBL)) B.pre
  have hts := fun (w : Cond) (h : w ∈ TBL) => hts0 w (List.mem_cons_of_mem _ h)
  have hown : s.vm.findClass RX9 = some m.cls := findClass_of_methodNamed B.named
  have hlocks := B.notSynchronized
  have hN := hE.1
  subst hsz
  have hD := hD0.self (sz := s.heap.size)
  generalize hAe : va_A [(a0, .inr (8, [.int a0_0, .int a0_1, .int a0_2, .int a0_3, .ref a0_4, .int a0_5, .int a0_6, .int a0_7, .int a0_8, .int a0_9, .int a0_10, .long a0_11, .int a0_12, .int a0_13, .int a0_14, .int a0_15, .int a0_16, .int a0_17, .ref a0_18, .ref a0_19, .ref a0_20, .ref a0_21, .ref a0_22, .ref a0_23, .ref a0_24, .ref a0_25, .ref a0_26, .ref a0_27, .ref a0_28, .ref a0_29, .ref a0_30, .ref a0_31, .ref a0_32, .ref a0_33, .ref a0_34, .ref a0_35, .long a0_36, .int a0_37, .ref a0_38, .ref a0_39, .int a0_40, .ref a0_41, .ref a0_42, .ref a0_43])), (a0_4, .inl (a0_4_c, 1000, .inl a0_4_f)), (a0_18, .inl (a0_18_c, 2, .inl a0_18_f)), (a0_19, .inl (a0_19_c, 2, .inl a0_19_f)), (a0_20, .inl (a0_20_c, 2, .inl a0_20_f)), (a0_21, .inl (a0_21_c, 2, .inl a0_21_f)), (a0_22, .inl (a0_22_c, 16, .inr (.inl a0_22_f))), (a0_25, .inl (a0_25_c, 8, .inr (.inl a0_25_f))), (a0_27, .inl (a0_27_c, 48, .inr (.inl a0_27_f))), (a0_32, .inl (a0_32_c, 24, .inl a0_32_f)), (a0_33, .inl (a0_33_c, 24, .inl a0_33_f)), (a0_34, .inl (a0_34_c, 72, .inl a0_34_f)), (a0_35, .inl (a0_35_c, 24, .inl a0_35_f))] s.heap.size = A at hD hE ⊢
  have hA : ∀ q : Nat, s.heap.size ≤ q → A q := fun q h => by rw [← hAe]; exact Or.inr h
  have hS : va_S A s.heap s.heap [] := va_S.rf
  replace hP : va_P (dC, dI) vwCl [(a0, .inr (8, [.int a0_0, .int a0_1, .int a0_2, .int a0_3, .ref a0_4, .int a0_5, .int a0_6, .int a0_7, .int a0_8, .int a0_9, .int a0_10, .long a0_11, .int a0_12, .int a0_13, .int a0_14, .int a0_15, .int a0_16, .int a0_17, .ref a0_18, .ref a0_19, .ref a0_20, .ref a0_21, .ref a0_22, .ref a0_23, .ref a0_24, .ref a0_25, .ref a0_26, .ref a0_27, .ref a0_28, .ref a0_29, .ref a0_30, .ref a0_31, .ref a0_32, .ref a0_33, .ref a0_34, .ref a0_35, .long a0_36, .int a0_37, .ref a0_38, .ref a0_39, .int a0_40, .ref a0_41, .ref a0_42, .ref a0_43])), (a0_4, .inl (a0_4_c, 1000, .inl a0_4_f)), (a0_18, .inl (a0_18_c, 2, .inl a0_18_f)), (a0_19, .inl (a0_19_c, 2, .inl a0_19_f)), (a0_20, .inl (a0_20_c, 2, .inl a0_20_f)), (a0_21, .inl (a0_21_c, 2, .inl a0_21_f)), (a0_22, .inl (a0_22_c, 16, .inr (.inl a0_22_f))), (a0_25, .inl (a0_25_c, 8, .inr (.inl a0_25_f))), (a0_27, .inl (a0_27_c, 48, .inr (.inl a0_27_f))), (a0_32, .inl (a0_32_c, 24, .inl a0_32_f)), (a0_33, .inl (a0_33_c, 24, .inl a0_33_f)), (a0_34, .inl (a0_34_c, 72, .inl a0_34_f)), (a0_35, .inl (a0_35_c, 24, .inl a0_35_f))] s.heap := hP
  have hl := lv_entry ([.ref a0]) (n := 3) (Nat.le_of_ble_eq_true rfl)
  rw [lg_entry_eq]
  generalize (lg_sl ([.ref a0]) ++ List.replicate (3 - (lg_sl ([.ref a0])).length) Slot.unset).toArray = ls at hl ⊢
  have hl : lv_has ls 3 [(0, .ref a0)] := hl
  have b_a0_0 := i32b a0_0
  have b_a0_1 := i32b a0_1
  have b_a0_2 := i32b a0_2
  have b_a0_3 := i32b a0_3
  have b_a0_9 := i32b a0_9
  have b_a0_10 := i32b a0_10
  have b_a0_12 := i32b a0_12
  have b_a0_13 := i32b a0_13
  have b_a0_14 := i32b a0_14
  have b_a0_15 := i32b a0_15
  have b_a0_16 := i32b a0_16
  have hpl21 := vr_at h_a0_21_f (k := a0_17.toNatClampNeg) rfl
  refine lv_bipush (v := 12) hx hb dX9_closeLine_0 (by decide) ?_
  refine lv_aload_n hx hb dX9_closeLine_2 rfl (lv_at hl 0 rfl) ?_
  refine va_get (D := (dC, dI)) (ci := 8) (v := .int a0_17) (C := RX9) (T := TX9) (N := 44) hx hb hts inlX9 hown hK hP 0 rgL13_890e5ad rfl 17 (by decide) (hts (.fieldLink RX9 256 "ClosedUntilModel" "bench" "I") qw_435) (fun _ h9 => h9) rfl dX9_closeLine_3 ?_
  refine lv_imul hx hb dX9_closeLine_6 ?_
  refine lv_topi (fun x1 e_x1 => ?_)
  try have e_x1 := ti_mul e_x1 (show (12 : Int32).toInt = 12 by decide) rfl (by omega)
  refine lv_aload_n hx hb dX9_closeLine_7 rfl (lv_at hl 0 rfl) ?_
  refine va_get (D := (dC, dI)) (ci := 8) (v := .ref a0_21) (C := RX9) (T := TX9) (N := 44) hx hb hts inlX9 hown hK hP 0 rgL13_890e5ad rfl 21 (by decide) (hts (.fieldLink RX9 23 "ClosedUntilModel" "closures" "[I") qw_501) (fun _ h9 => h9) rfl dX9_closeLine_8 ?_
  refine lv_aload_n hx hb dX9_closeLine_11 rfl (lv_at hl 0 rfl) ?_
  refine va_get (D := (dC, dI)) (ci := 8) (v := .int a0_17) (C := RX9) (T := TX9) (N := 44) hx hb hts inlX9 hown hK hP 0 rgL13_890e5ad rfl 17 (by decide) (hts (.fieldLink RX9 256 "ClosedUntilModel" "bench" "I") qw_435) (fun _ h9 => h9) rfl dX9_closeLine_12 ?_
  refine va_iald hx hb hK hP 5 4 rgL13_e4c0870 rgT12_c3ae75f (vinI (by omega) (by omega)) dX9_closeLine_15 ?_
  refine lv_topi (fun x2 e_x2 => ?_)
  have q_x2 := congrArg Int32.toInt e_x2
  have b_x2 : 0 ≤ x2.toInt ∧ x2.toInt ≤ 12 := vr_at (lo := 0) (hi := 12) (f := a0_21_f) h_a0_21_f e_x2
  refine lv_iadd hx hb dX9_closeLine_16 ?_
  refine lv_topi (fun x3 e_x3 => ?_)
  try have e_x3 := ti_add e_x3 rfl rfl (by omega)
  refine lv_istore_n (lv' := [(1, .int x3), (0, .ref a0)]) hx hb dX9_closeLine_17 rfl hl (by decide) rfl (fun ls hl => ?_)
  refine lv_aload_n hx hb dX9_closeLine_18 rfl (lv_at hl 1 rfl) ?_
  refine va_get (D := (dC, dI)) (ci := 8) (v := .ref a0_32) (C := RX9) (T := TX9) (N := 44) hx hb hts inlX9 hown hK hP 0 rgL13_890e5ad rfl 32 (by decide) (hts (.fieldLink RX9 57 "ClosedUntilModel" "sort" "[I") qw_507) (fun _ h9 => h9) rfl dX9_closeLine_19 ?_
  refine lv_iload_n hx hb dX9_closeLine_22 rfl (lv_at hl 0 rfl) ?_
  refine lv_aload_n hx hb dX9_closeLine_23 rfl (lv_at hl 1 rfl) ?_
  refine va_ldcS hx hb hown (show vk_R RX9 226 "content" (g.2.2.2.2.2.1 9) s from hE.2.2.2.2.2.2.2.2.2.2.2.2.2.2.2.2 9 (by decide)) dX9_closeLine_24 ?_
  have hPc := (rgP13_c385d03 hP)
  have hKc := (rgK12_8728a0f hK)
  refine vp_callSi ((va_runV (As := [.ref (g.2.2.2.2.2.1 9)]) (rest := [.int x3, .ref a0_32]) ⟨hx, hb, hml, hown, hts⟩ (k_X9_is l dC dI g (a0) (9) (a0_0) (a0_1) (a0_2) (a0_3) (a0_4) (a0_5) (a0_6) (a0_7) (a0_8) (a0_9) (a0_10) (a0_11) (a0_12) (a0_13) (a0_14) (a0_15) (a0_16) (a0_17) (a0_18) (a0_19) (a0_20) (a0_21) (a0_22) (a0_23) (a0_24) (a0_25) (a0_26) (a0_27) (a0_28) (a0_29) (a0_30) (a0_31) (a0_32) (a0_33) (a0_34) (a0_35) (a0_36) (a0_37) (a0_38) (a0_39) (a0_40) (a0_41) (a0_42) (a0_43) (by omega) (by omega) (by omega) (by omega) (by omega) (by omega) (by omega) (by first | assumption | decide)) (cwV 1 hts (gwV qw_427 qw_428 qw_429 qw_386 qw_426) rfl rfl rfl (by decide +kernel) ⟨Nat.le_of_ble_eq_true rfl, Nat.le_of_ble_eq_true rfl⟩) ⟨fun a U g9 mk q => ⟨q.1, q.2.1, va_K.moved (u := U) (U := U.calling g9 mk a) (Vm.Alike.refl U.vm) q.2.2.1, Ev.bl q.2.2.2⟩, va_recv hK hP (ci := 8) (q0 := 0) rfl rgL13_890e5ad, fun U hU hW => ⟨rfl, atB hU hPc, va_K.moved hW.alike hKc, hE.go hS (fun _ h => h.elim) hU hW⟩⟩ rfl rfl hl.1 rfl (lv_room (Nat.le_of_ble_eq_true rfl)) dX9_closeLine_26 ⟨Nat.le_of_ble_eq_true rfl, Nat.le_of_ble_eq_true rfl⟩)).run (fun r4 h_r4 => ?_)
  have h_r4 : (r4 = 0 ∨ r4 = 1) := h_r4
  have b_r4 := z01 (show r4 = 0 ∨ r4 = 1 from h_r4)
  refine lv_if_eq (tgt := 36) hx hb dX9_closeLine_29 (by decide) (fun c29_5 => ?_) (fun c29_5 => ?_)
  · have c29_5 : r4.toInt = 0 := (cv_eq rfl (by decide)).mp c29_5
    refine lv_aload_n hx hb dX9_closeLine_36 rfl (lv_at hl 1 rfl) ?_
    refine va_ldcS hx hb hown (show vk_R RX9 205 "person" (g.2.2.2.2.2.1 0) s from hE.2.2.2.2.2.2.2.2.2.2.2.2.2.2.2.2 0 (by decide)) dX9_closeLine_37 ?_
    have hPc := (rgP13_c385d03 hP)
    have hKc := (rgK12_8728a0f hK)
    refine vp_callSi ((va_runV (As := [.ref (g.2.2.2.2.2.1 0)]) (rest := [.int x3, .ref a0_32]) ⟨hx, hb, hml, hown, hts⟩ (k_X9_is l dC dI g (a0) (0) (a0_0) (a0_1) (a0_2) (a0_3) (a0_4) (a0_5) (a0_6) (a0_7) (a0_8) (a0_9) (a0_10) (a0_11) (a0_12) (a0_13) (a0_14) (a0_15) (a0_16) (a0_17) (a0_18) (a0_19) (a0_20) (a0_21) (a0_22) (a0_23) (a0_24) (a0_25) (a0_26) (a0_27) (a0_28) (a0_29) (a0_30) (a0_31) (a0_32) (a0_33) (a0_34) (a0_35) (a0_36) (a0_37) (a0_38) (a0_39) (a0_40) (a0_41) (a0_42) (a0_43) (by omega) (by omega) (by omega) (by omega) (by omega) (by omega) (by omega) (by first | assumption | decide)) (cwV 1 hts (gwV qw_427 qw_428 qw_429 qw_386 qw_426) rfl rfl rfl (by decide +kernel) ⟨Nat.le_of_ble_eq_true rfl, Nat.le_of_ble_eq_true rfl⟩) ⟨fun a U g9 mk q => ⟨q.1, q.2.1, va_K.moved (u := U) (U := U.calling g9 mk a) (Vm.Alike.refl U.vm) q.2.2.1, Ev.bl q.2.2.2⟩, va_recv hK hP (ci := 8) (q0 := 0) rfl rgL13_890e5ad, fun U hU hW => ⟨rfl, atB hU hPc, va_K.moved hW.alike hKc, hE.go hS (fun _ h => h.elim) hU hW⟩⟩ rfl rfl hl.1 rfl (lv_room (Nat.le_of_ble_eq_true rfl)) dX9_closeLine_39 ⟨Nat.le_of_ble_eq_true rfl, Nat.le_of_ble_eq_true rfl⟩)).run (fun r6 h_r6 => ?_)
    have h_r6 : (r6 = 0 ∨ r6 = 1) := h_r6
    have b_r6 := z01 (show r6 = 0 ∨ r6 = 1 from h_r6)
    refine lv_if_eq (tgt := 49) hx hb dX9_closeLine_42 (by decide) (fun c42_7 => ?_) (fun c42_7 => ?_)
    · have c42_7 : r6.toInt = 0 := (cv_eq rfl (by decide)).mp c42_7
      refine lv_aload_n hx hb dX9_closeLine_49 rfl (lv_at hl 1 rfl) ?_
      refine va_ldcS hx hb hown (show vk_R RX9 215 "deposit" (g.2.2.2.2.2.1 3) s from hE.2.2.2.2.2.2.2.2.2.2.2.2.2.2.2.2 3 (by decide)) dX9_closeLine_50 ?_
      have hPc := (rgP13_c385d03 hP)
      have hKc := (rgK12_8728a0f hK)
      refine vp_callSi ((va_runV (As := [.ref (g.2.2.2.2.2.1 3)]) (rest := [.int x3, .ref a0_32]) ⟨hx, hb, hml, hown, hts⟩ (k_X9_is l dC dI g (a0) (3) (a0_0) (a0_1) (a0_2) (a0_3) (a0_4) (a0_5) (a0_6) (a0_7) (a0_8) (a0_9) (a0_10) (a0_11) (a0_12) (a0_13) (a0_14) (a0_15) (a0_16) (a0_17) (a0_18) (a0_19) (a0_20) (a0_21) (a0_22) (a0_23) (a0_24) (a0_25) (a0_26) (a0_27) (a0_28) (a0_29) (a0_30) (a0_31) (a0_32) (a0_33) (a0_34) (a0_35) (a0_36) (a0_37) (a0_38) (a0_39) (a0_40) (a0_41) (a0_42) (a0_43) (by omega) (by omega) (by omega) (by omega) (by omega) (by omega) (by omega) (by first | assumption | decide)) (cwV 1 hts (gwV qw_427 qw_428 qw_429 qw_386 qw_426) rfl rfl rfl (by decide +kernel) ⟨Nat.le_of_ble_eq_true rfl, Nat.le_of_ble_eq_true rfl⟩) ⟨fun a U g9 mk q => ⟨q.1, q.2.1, va_K.moved (u := U) (U := U.calling g9 mk a) (Vm.Alike.refl U.vm) q.2.2.1, Ev.bl q.2.2.2⟩, va_recv hK hP (ci := 8) (q0 := 0) rfl rgL13_890e5ad, fun U hU hW => ⟨rfl, atB hU hPc, va_K.moved hW.alike hKc, hE.go hS (fun _ h => h.elim) hU hW⟩⟩ rfl rfl hl.1 rfl (lv_room (Nat.le_of_ble_eq_true rfl)) dX9_closeLine_52 ⟨Nat.le_of_ble_eq_true rfl, Nat.le_of_ble_eq_true rfl⟩)).run (fun r8 h_r8 => ?_)
      have h_r8 : (r8 = 0 ∨ r8 = 1) := h_r8
      have b_r8 := z01 (show r8 = 0 ∨ r8 = 1 from h_r8)
      refine lv_if_eq (tgt := 62) hx hb dX9_closeLine_55 (by decide) (fun c55_9 => ?_) (fun c55_9 => ?_)
      · have c55_9 : r8.toInt = 0 := (cv_eq rfl (by decide)).mp c55_9
        refine lv_iconst (v := 3) hx hb dX9_closeLine_62 (by decide) ?_
        refine va_iast hx hb hK hP hD hS 9 8 rgL13_1206a9c rgT12_51c22ba (vinI (by omega) (by omega)) dX9_closeLine_63 (fun H locs hP9 hD9 hS9 => ?_)
        obtain ⟨y10, e_y10⟩ : ∃ y, (upd a0_32_f x3.toNatClampNeg (3)) = y := ⟨_, rfl⟩
        clear hP hD hS
        obtain ⟨hP, hD⟩ := rgS13_b3ba14e (e := (a0_32, .inl (a0_32_c, 24, .inl y10))) hP9 hD9 (congrArg (fun z9 => (((a0_32, .inl (a0_32_c, 24, .inl z9)) : Nat × va_E))) e_y10)
        have hS := hS9; clear hP9 hD9 hS9
        have hwo1 := WOk.keepA hwo e_y10 (by omega) (by omega)
        have hs1 : y10 x3.toNatClampNeg = 3 := upd_eq e_y10
        have qcs1 : (3 : Int32).toInt = 3 := by decide
        refine lv_aload_n hx hb dX9_closeLine_64 rfl (lv_at hl 1 rfl) ?_
        refine lv_aload_n hx hb dX9_closeLine_65 rfl (lv_at hl 1 rfl) ?_
        refine va_get (D := (dC, dI)) (ci := 8) (v := .ref a0_32) (C := RX9) (T := TX9) (N := 44) hx hb hts inlX9 hown hK hP 0 rgL13_890e5ad rfl 32 (by decide) (hts (.fieldLink RX9 57 "ClosedUntilModel" "sort" "[I") qw_507) (fun _ h9 => h9) rfl dX9_closeLine_66 ?_
        refine lv_iload_n hx hb dX9_closeLine_69 rfl (lv_at hl 0 rfl) ?_
        refine va_iald hx hb hK hP 9 8 rgL13_1206a9c rgT12_51c22ba (vinI (by omega) (by omega)) dX9_closeLine_70 ?_
        refine cst (v := 3) (upd_eq e_y10) ?_
        refine lv_iconst (v := 3) hx hb dX9_closeLine_71 (by decide) ?_
        refine lv_icmp_ne (tgt := 84) hx hb dX9_closeLine_72 (by decide) (fun c72_11 => by exfalso; exact absurd c72_11 (by decide)) (fun c72_11 => ?_)
        refine lv_aload_n hx hb dX9_closeLine_75 rfl (lv_at hl 1 rfl) ?_
        refine va_ldcS hx hb hown (show vk_R RX9 228 "until" (g.2.2.2.2.2.1 10) s from hE.2.2.2.2.2.2.2.2.2.2.2.2.2.2.2.2 10 (by decide)) dX9_closeLine_76 ?_
        have hPc := (rgP13_c385d03 hP)
        have hKc := (rgK12_8728a0f hK)
        refine vp_callSi ((va_runV (As := [.ref (g.2.2.2.2.2.1 10)]) (rest := [.ref a0]) ⟨hx, hb, hml, hown, hts⟩ (k_X9_is l dC dI g (a0) (10) (a0_0) (a0_1) (a0_2) (a0_3) (a0_4) (a0_5) (a0_6) (a0_7) (a0_8) (a0_9) (a0_10) (a0_11) (a0_12) (a0_13) (a0_14) (a0_15) (a0_16) (a0_17) (a0_18) (a0_19) (a0_20) (a0_21) (a0_22) (a0_23) (a0_24) (a0_25) (a0_26) (a0_27) (a0_28) (a0_29) (a0_30) (a0_31) (a0_32) (a0_33) (a0_34) (a0_35) (a0_36) (a0_37) (a0_38) (a0_39) (a0_40) (a0_41) (a0_42) (a0_43) (by omega) (by omega) (by omega) (by omega) (by omega) (by omega) (by omega) (by first | assumption | decide)) (cwV 1 hts (gwV qw_427 qw_428 qw_429 qw_386 qw_426) rfl rfl rfl (by decide +kernel) ⟨Nat.le_of_ble_eq_true rfl, Nat.le_of_ble_eq_true rfl⟩) ⟨fun a U g9 mk q => ⟨q.1, q.2.1, va_K.moved (u := U) (U := U.calling g9 mk a) (Vm.Alike.refl U.vm) q.2.2.1, Ev.bl q.2.2.2⟩, va_recv hK hP (ci := 8) (q0 := 0) rfl rgL13_890e5ad, fun U hU hW => ⟨rfl, atB hU hPc, va_K.moved hW.alike hKc, hE.go hS (fun _ h => h.elim) hU hW⟩⟩ rfl rfl hl.1 rfl (lv_room (Nat.le_of_ble_eq_true rfl)) dX9_closeLine_78 ⟨Nat.le_of_ble_eq_true rfl, Nat.le_of_ble_eq_true rfl⟩)).run (fun r12 h_r12 => ?_)
        have h_r12 : (r12 = 0 ∨ r12 = 1) := h_r12
        have b_r12 := z01 (show r12 = 0 ∨ r12 = 1 from h_r12)
        refine lv_if_eq (tgt := 88) hx hb dX9_closeLine_81 (by decide) (fun c81_13 => ?_) (fun c81_13 => ?_)
        · have c81_13 : r12.toInt = 0 := (cv_eq rfl (by decide)).mp c81_13
          refine lv_iconst (v := 0) hx hb dX9_closeLine_88 (by decide) ?_
          refine lv_iconst (v := 1) hx hb dX9_closeLine_89 (by decide) ?_
          have qc0 : (0 : Int32).toInt = 0 := by decide
          have qc1 : (1 : Int32).toInt = 1 := by decide
          have hPc := (rgP13_c385d03 hP)
          have hKc := (rgK12_8728a0f hK)
          have hDc := (rgD13_9e851cf hD)
          have hFc := freeW hDc hS hA
          refine va_calli (va_runV (As := [.int 0, .int 1]) (rest := []) ⟨hx, hb, hml, hown, hts⟩ (k_X9_must l dC dI g H.size (a0) (0) (1) (a0_0) (a0_1) (a0_2) (a0_3) (a0_4) (a0_5) (a0_6) (a0_7) (a0_8) (a0_9) (a0_10) (a0_11) (a0_12) (a0_13) (a0_14) (a0_15) (a0_16) (a0_17) (a0_18) (a0_19) (a0_20) (a0_21) (a0_22) (a0_23) (a0_24) (a0_25) (a0_26) (a0_27) (a0_28) (a0_29) (a0_30) (a0_31) (a0_32) (a0_33) (a0_34) (a0_35) (a0_36) (a0_37) (a0_38) (a0_39) (a0_40) (a0_41) (a0_42) (a0_43) (by omega) (by omega) (by omega) (by omega) (by omega) (by omega) (by omega) (by omega)) (cwV 2 hts (gwV qw_472 qw_473 qw_474 qw_386 qw_471) rfl rfl rfl (by decide +kernel) ⟨Nat.le_of_ble_eq_true rfl, Nat.le_of_ble_eq_true rfl⟩) ⟨fun a U g9 mk q => ⟨q.1, q.2.1, q.2.2.1, va_K.moved (u := U) (U := U.calling g9 mk a) (Vm.Alike.refl U.vm) q.2.2.2.1, q.2.2.2.2.1, Ev.bl q.2.2.2.2.2⟩, va_recv hK hP (ci := 8) (q0 := 0) rfl rgL13_890e5ad, fun U hU hW => ⟨rfl, by rw [hU], atB hU hPc, va_K.moved hW.alike hKc, hDc.weaken (fun _ _ _ _ => trivial), hE.go hS hFc hU hW⟩⟩ rfl rfl hl.1 rfl (lv_room (Nat.le_of_ble_eq_true rfl)) dX9_closeLine_90 ⟨Nat.le_of_ble_eq_true rfl, Nat.le_of_ble_eq_true rfl⟩) hS (fun q _ h => hFc q h) hFc (fun r15 u14 t H1 locs ht hvm h_u14 hB hz1 hk1 hS => ?_)
          obtain ⟨za0_12_16, za0_13_17, hF18, hF19, hP1, hK1, hD1⟩ := hB
          have hK1 := va_K.moved hvm.symm hK1
          have hJ9 := rgJ13_5034f5f hP hD hk1 hFc (atH ht hP1) hD1
          clear hP hD hPc hKc hDc hFc hP1 hD1 hk1 hz1
          obtain ⟨hP, hD⟩ := hJ9
          clear hK1
          generalize H1 = H at hP hS ⊢
          refine W.widen (k := 0) (n := 0) (Nat.le_of_ble_eq_true rfl) (Nat.le_of_ble_eq_true rfl) ?_
          have h_r15 := congrArg Int32.toInt h_u14
          have hz_r15 : r15 = 0 ∨ r15 = 1 := h_u14 ▸ hF18
          have b_r15 := z01 hz_r15
          refine cst (v := 0) (Int32.toInt_inj.mp (by rw [show (0 : Int32).toInt = 0 by decide]; omega)) ?_
          refine lv_if_ne (tgt := 98) hx hb dX9_closeLine_93 (by decide) (fun c93_20 => by exfalso; exact absurd c93_20 (by decide)) (fun c93_20 => ?_)
          refine lv_iconst (v := 0) hx hb dX9_closeLine_96 (by decide) ?_
          have qc0 : (0 : Int32).toInt = 0 := by decide
          refine W.widen (k := 0) (n := 0) (Nat.le_of_ble_eq_true rfl) (Nat.le_of_ble_eq_true rfl) ?_
          have hP9 := hP
          have hD9 := hD
          have hK9 := (rgK12_8728a0f hK)
          have hf9_0 : (0 ≤ a0_7.toInt ∧ a0_7.toInt ≤ 1000) := by omega
          have hf9_1 : (0 ≤ a0_8.toInt ∧ a0_8.toInt ≤ 1000) := by omega
          have hf9_2 : ((-1) ≤ a0_37.toInt ∧ a0_37.toInt ≤ 23) := by omega
          have hf9_3 : vr 0 12 a0_21_f := h_a0_21_f
          have hf9_4 : ((0 : Int32) = 0 ∨ (0 : Int32) = 1) := (by decide)
          have hf9_5 : ((0 : Int32).toInt = 1 → (a0_21_f a0_17.toNatClampNeg).toInt = (a0_21_f a0_17.toNatClampNeg).toInt + 1) := fun q => absurd q (by decide)
          have hf9_6 : (KP 1 a0_21_f a0_21_f) := KP.rf
          have hf9_7 : (KP 12 a0_32_f y10) := KP.upd e_y10 (kI (by omega))
          have hf9_8 : (KP 12 a0_33_f a0_33_f) := KP.rf
          have hf9_9 : (WOk y10 a0_33_f 12 (a0_21_f a0_17.toNatClampNeg).toInt) := hwo1
          exact W.zret (v := 0) hx hb hr rfl (fun t ht hW => ⟨⟨0, 0, rfl, rfl, a0_7, a0_8, a0_9, a0_10, a0_11, za0_12_16, za0_13_17, a0_14, a0_15, a0_16, a0_37, a0_21_f, y10, a0_33_f, a0_34_f, a0_35_f, hf9_0, hf9_1, hf9_2, hf9_3, hf9_4, hf9_5, hf9_6, hf9_7, hf9_8, hf9_9, atB ht hP9, va_K.moved hW.alike hK9, hD9⟩, hS.F ht⟩) hS.2.2 dX9_closeLine_97
        · have c81_13 : ¬ (r12.toInt = 0) := mt (cv_eq rfl (by decide)).mpr c81_13
          refine lv_iconst (v := 1) hx hb dX9_closeLine_84 (by decide) ?_
          refine lv_goto (tgt := 89) hx hb dX9_closeLine_85 (by decide) ?_
          refine lv_iconst (v := 1) hx hb dX9_closeLine_89 (by decide) ?_
          have qc1 : (1 : Int32).toInt = 1 := by decide
          have hPc := (rgP13_c385d03 hP)
          have hKc := (rgK12_8728a0f hK)
          have hDc := (rgD13_9e851cf hD)
          have hFc := freeW hDc hS hA
          refine va_calli (va_runV (As := [.int 1, .int 1]) (rest := []) ⟨hx, hb, hml, hown, hts⟩ (k_X9_must l dC dI g H.size (a0) (1) (1) (a0_0) (a0_1) (a0_2) (a0_3) (a0_4) (a0_5) (a0_6) (a0_7) (a0_8) (a0_9) (a0_10) (a0_11) (a0_12) (a0_13) (a0_14) (a0_15) (a0_16) (a0_17) (a0_18) (a0_19) (a0_20) (a0_21) (a0_22) (a0_23) (a0_24) (a0_25) (a0_26) (a0_27) (a0_28) (a0_29) (a0_30) (a0_31) (a0_32) (a0_33) (a0_34) (a0_35) (a0_36) (a0_37) (a0_38) (a0_39) (a0_40) (a0_41) (a0_42) (a0_43) (by omega) (by omega) (by omega) (by omega) (by omega) (by omega) (by omega) (by omega)) (cwV 2 hts (gwV qw_472 qw_473 qw_474 qw_386 qw_471) rfl rfl rfl (by decide +kernel) ⟨Nat.le_of_ble_eq_true rfl, Nat.le_of_ble_eq_true rfl⟩) ⟨fun a U g9 mk q => ⟨q.1, q.2.1, q.2.2.1, va_K.moved (u := U) (U := U.calling g9 mk a) (Vm.Alike.refl U.vm) q.2.2.2.1, q.2.2.2.2.1, Ev.bl q.2.2.2.2.2⟩, va_recv hK hP (ci := 8) (q0 := 0) rfl rgL13_890e5ad, fun U hU hW => ⟨rfl, by rw [hU], atB hU hPc, va_K.moved hW.alike hKc, hDc.weaken (fun _ _ _ _ => trivial), hE.go hS hFc hU hW⟩⟩ rfl rfl hl.1 rfl (lv_room (Nat.le_of_ble_eq_true rfl)) dX9_closeLine_90 ⟨Nat.le_of_ble_eq_true rfl, Nat.le_of_ble_eq_true rfl⟩) hS (fun q _ h => hFc q h) hFc (fun r22 u21 t H1 locs ht hvm h_u21 hB hz1 hk1 hS => ?_)
          obtain ⟨za0_12_23, za0_13_24, hF25, hF26, hP1, hK1, hD1⟩ := hB
          have hK1 := va_K.moved hvm.symm hK1
          have hJ9 := rgJ13_5034f5f hP hD hk1 hFc (atH ht hP1) hD1
          clear hP hD hPc hKc hDc hFc hP1 hD1 hk1 hz1
          obtain ⟨hP, hD⟩ := hJ9
          clear hK1
          generalize H1 = H at hP hS ⊢
          refine W.widen (k := 0) (n := 0) (Nat.le_of_ble_eq_true rfl) (Nat.le_of_ble_eq_true rfl) ?_
          have h_r22 := congrArg Int32.toInt h_u21
          have hz_r22 : r22 = 0 ∨ r22 = 1 := h_u21 ▸ hF25
          have b_r22 := z01 hz_r22
          refine lv_if_ne (tgt := 98) hx hb dX9_closeLine_93 (by decide) (fun c93_27 => ?_) (fun c93_27 => ?_)
          · have c93_27 : ¬ (r22.toInt = 0) := mt (cv_eq rfl (by decide)).mpr c93_27
            refine lv_aload_n hx hb dX9_closeLine_98 rfl (lv_at hl 1 rfl) ?_
            have hPc := (rgP13_e9f0d34 hP)
            have hKc := (rgK12_2fc2b8d hK)
            have hDc := (rgD13_097655f hD)
            have hFc := freeW hDc hS hA
            refine va_callv (va_runV (As := []) (rest := []) ⟨hx, hb, hml, hown, hts⟩ (k_X9_steps l dC dI g H.size (a0) (a0_0) (a0_1) (a0_2) (a0_3) (a0_4) (a0_5) (a0_6) (a0_7) (a0_8) (a0_9) (a0_10) (a0_11) (za0_12_23) (za0_13_24) (a0_14) (a0_15) (a0_16) (a0_17) (a0_18) (a0_19) (a0_20) (a0_21) (a0_22) (a0_23) (a0_24) (a0_25) (a0_26) (a0_27) (a0_28) (a0_29) (a0_30) (a0_31) (a0_32) (a0_33) (a0_34) (a0_35) (a0_36) (a0_37) (a0_38) (a0_39) (a0_40) (a0_41) (a0_42) (a0_43) (a0_4_c) (a0_4_f) (by omega) (by omega) (by omega) (by omega) (by omega) (by omega) (by omega)) (cwV 0 hts (gwV qw_468 qw_469 qw_470 qw_386 qw_467) rfl rfl rfl (by decide +kernel) ⟨Nat.le_of_ble_eq_true rfl, Nat.le_of_ble_eq_true rfl⟩) ⟨fun a U g9 mk q => ⟨q.1, q.2.1, q.2.2.1, va_K.moved (u := U) (U := U.calling g9 mk a) (Vm.Alike.refl U.vm) q.2.2.2.1, q.2.2.2.2.1, Ev.bl q.2.2.2.2.2⟩, va_recv hK hP (ci := 8) (q0 := 0) rfl rgL13_890e5ad, fun U hU hW => ⟨rfl, by rw [hU], atB hU hPc, va_K.moved hW.alike hKc, hDc.weaken (fun _ _ _ _ => trivial), hE.go hS hFc hU hW⟩⟩ rfl rfl hl.1 rfl (lv_room (Nat.le_of_ble_eq_true rfl)) dX9_closeLine_99 ⟨Nat.le_of_ble_eq_true rfl, Nat.le_of_ble_eq_true rfl⟩) hS (fun q _ h => hFc q h) hFc (fun u28 t H1 locs ht hvm h_u28 hB hz1 hk1 hS => ?_)
            obtain ⟨za0_7_30, za0_8_31, za0_9_32, za0_10_33, za0_11_34, hF35, hF36, hP1, hK1, hD1⟩ := hB
            have hK1 := va_K.moved hvm.symm hK1
            have hJ9 := rgJ13_d718ff5 hP hD hk1 hFc (atH ht hP1) hD1
            clear hP hD hPc hKc hDc hFc hP1 hD1 hk1 hz1
            obtain ⟨hP, hD⟩ := hJ9
            clear hK1
            generalize H1 = H at hP hS ⊢
            refine W.widen (k := 0) (n := 0) (Nat.le_of_ble_eq_true rfl) (Nat.le_of_ble_eq_true rfl) ?_
            refine lv_aload_n hx hb dX9_closeLine_102 rfl (lv_at hl 1 rfl) ?_
            refine lv_aload_n hx hb dX9_closeLine_103 rfl (lv_at hl 1 rfl) ?_
            refine va_get (D := (dC, dI)) (ci := 8) (v := .ref a0_32) (C := RX9) (T := TX9) (N := 44) hx hb hts inlX9 hown hK hP 0 rgL13_890e5ad rfl 32 (by decide) (hts (.fieldLink RX9 57 "ClosedUntilModel" "sort" "[I") qw_507) (fun _ h9 => h9) rfl dX9_closeLine_104 ?_
            refine lv_iload_n hx hb dX9_closeLine_107 rfl (lv_at hl 0 rfl) ?_
            refine va_iald hx hb hK hP 9 8 rgL13_1206a9c rgT12_51c22ba (vinI (by omega) (by omega)) dX9_closeLine_108 ?_
            refine cst (v := 3) (upd_eq e_y10) ?_
            refine lv_iconst (v := 3) hx hb dX9_closeLine_109 (by decide) ?_
            refine lv_icmp_ne (tgt := 117) hx hb dX9_closeLine_110 (by decide) (fun c110_37 => by exfalso; exact absurd c110_37 (by decide)) (fun c110_37 => ?_)
            refine lv_iconst (v := 0) hx hb dX9_closeLine_113 (by decide) ?_
            refine lv_goto (tgt := 123) hx hb dX9_closeLine_114 (by decide) ?_
            have qc0 : (0 : Int32).toInt = 0 := by decide
            have hPc := (rgP13_1660a73 hP)
            have hKc := (rgK12_63d2448 hK)
            have hDc := (rgD13_3fa11c2 hD)
            have hFc := freeW hDc hS hA
            refine va_calli (va_runV (As := [.int 0]) (rest := []) ⟨hx, hb, hml, hown, hts⟩ (k_X9_takesTold l dC dI g H.size (a0) (0) (a0_0) (a0_1) (a0_2) (a0_3) (a0_4) (a0_5) (a0_6) (za0_7_30) (za0_8_31) (za0_9_32) (za0_10_33) (za0_11_34) (za0_12_23) (za0_13_24) (a0_14) (a0_15) (a0_16) (a0_17) (a0_18) (a0_19) (a0_20) (a0_21) (a0_22) (a0_23) (a0_24) (a0_25) (a0_26) (a0_27) (a0_28) (a0_29) (a0_30) (a0_31) (a0_32) (a0_33) (a0_34) (a0_35) (a0_36) (a0_37) (a0_38) (a0_39) (a0_40) (a0_41) (a0_42) (a0_43) (a0_4_c) (a0_4_f) (a0_18_c) (a0_18_f) (a0_19_c) (a0_19_f) (a0_20_c) (a0_20_f) (a0_22_c) (a0_22_f) (a0_25_c) (a0_25_f) (a0_27_c) (a0_27_f) (by omega) (by omega) (by omega) (by omega) (by omega) (by omega) (by omega) h_a0_18_f h_a0_19_f h_a0_20_f) (cwV 1 hts (gwV qw_573 qw_574 qw_575 qw_386 qw_572) rfl rfl rfl (by decide +kernel) ⟨Nat.le_of_ble_eq_true rfl, Nat.le_of_ble_eq_true rfl⟩) ⟨fun a U g9 mk q => ⟨q.1, q.2.1, q.2.2.1, va_K.moved (u := U) (U := U.calling g9 mk a) (Vm.Alike.refl U.vm) q.2.2.2.1, q.2.2.2.2.1, Ev.bl q.2.2.2.2.2⟩, va_recv hK hP (ci := 8) (q0 := 0) rfl rgL13_890e5ad, fun U hU hW => ⟨rfl, by rw [hU], atB hU hPc, va_K.moved hW.alike hKc, hDc.weaken (fun _ _ _ _ => trivial), hE.go hS hFc hU hW⟩⟩ rfl rfl hl.1 rfl (lv_room (Nat.le_of_ble_eq_true rfl)) dX9_closeLine_123 ⟨Nat.le_of_ble_eq_true rfl, Nat.le_of_ble_eq_true rfl⟩) hS (fun q _ h => hFc q h) hFc (fun r39 u38 t H1 locs ht hvm h_u38 hB hz1 hk1 hS => ?_)
            obtain ⟨za0_7_40, za0_8_41, za0_9_42, za0_10_43, za0_11_44, za0_12_45, za0_13_46, za0_37_47, hF48, hF49, hF50, hF51, hF52, hP1, hK1, hD1⟩ := hB
            have hK1 := va_K.moved hvm.symm hK1
            have hJ9 := rgJ13_b84a6dc hP hD hk1 hFc (atH ht hP1) hD1
            clear hP hD hPc hKc hDc hFc hP1 hD1 hk1 hz1
            obtain ⟨hP, hD⟩ := hJ9
            clear hK1
            generalize H1 = H at hP hS ⊢
            refine W.widen (k := 0) (n := 0) (Nat.le_of_ble_eq_true rfl) (Nat.le_of_ble_eq_true rfl) ?_
            have h_r39 := congrArg Int32.toInt h_u38
            have hz_r39 : r39 = 0 ∨ r39 = 1 := h_u38 ▸ hF51
            have b_r39 := z01 hz_r39
            refine lv_if_ne (tgt := 131) hx hb dX9_closeLine_126 (by decide) (fun c126_53 => ?_) (fun c126_53 => ?_)
            · have c126_53 : ¬ (r39.toInt = 0) := mt (cv_eq rfl (by decide)).mpr c126_53
              refine lv_aload_n hx hb dX9_closeLine_131 rfl (lv_at hl 1 rfl) ?_
              refine va_get (D := (dC, dI)) (ci := 8) (v := .ref a0_33) (C := RX9) (T := TX9) (N := 44) hx hb hts inlX9 hown hK hP 0 rgL13_890e5ad rfl 33 (by decide) (hts (.fieldLink RX9 60 "ClosedUntilModel" "whom" "[I") qw_508) (fun _ h9 => h9) rfl dX9_closeLine_132 ?_
              refine lv_iload_n hx hb dX9_closeLine_135 rfl (lv_at hl 0 rfl) ?_
              refine lv_aload_n hx hb dX9_closeLine_136 rfl (lv_at hl 1 rfl) ?_
              refine va_get (D := (dC, dI)) (ci := 8) (v := .int za0_37_47) (C := RX9) (T := TX9) (N := 44) hx hb hts inlX9 hown hK hP 0 rgL13_890e5ad rfl 37 (by decide) (hts (.fieldLink RX9 274 "ClosedUntilModel" "foundHere" "I") qw_499) (fun _ h9 => h9) rfl dX9_closeLine_137 ?_
              refine va_iast hx hb hK hP hD hS 10 9 rgL13_e69bf83 rgT12_e433926 (vinI (by omega) (by omega)) dX9_closeLine_140 (fun H locs hP9 hD9 hS9 => ?_)
              obtain ⟨y54, e_y54⟩ : ∃ y, (upd a0_33_f x3.toNatClampNeg za0_37_47) = y := ⟨_, rfl⟩
              clear hP hD hS
              obtain ⟨hP, hD⟩ := rgS13_ab58875 (e := (a0_33, .inl (a0_33_c, 24, .inl y54))) hP9 hD9 (congrArg (fun z9 => (((a0_33, .inl (a0_33_c, 24, .inl z9)) : Nat × va_E))) e_y54)
              have hS := hS9; clear hP9 hD9 hS9
              have hwo1 := WOk.keepB hwo1 e_y54 (by omega) (by omega)
              have hw1 := upd_eq e_y54
              refine lv_aload_n hx hb dX9_closeLine_141 rfl (lv_at hl 1 rfl) ?_
              refine va_get (D := (dC, dI)) (ci := 8) (v := .ref a0_35) (C := RX9) (T := TX9) (N := 44) hx hb hts inlX9 hown hK hP 0 rgL13_890e5ad rfl 35 (by decide) (hts (.fieldLink RX9 66 "ClosedUntilModel" "isWhole" "[Z") qw_522) (fun _ h9 => h9) rfl dX9_closeLine_142 ?_
              refine lv_iload_n hx hb dX9_closeLine_145 rfl (lv_at hl 0 rfl) ?_
              refine lv_iconst (v := 0) hx hb dX9_closeLine_146 (by decide) ?_
              refine va_zast hx hb hK hP hD hS 12 11 rgL13_551ea76 rgT12_e4ce31b (vinI (by omega) (by omega)) dX9_closeLine_147 (fun H locs hP9 hD9 hS9 => ?_)
              obtain ⟨y55, e_y55⟩ : ∃ y, (upd a0_35_f x3.toNatClampNeg (vp_nar .boolean (0))) = y := ⟨_, rfl⟩
              clear hP hD hS
              obtain ⟨hP, hD⟩ := rgS13_979e4b8 (e := (a0_35, .inl (a0_35_c, 24, .inl y55))) hP9 hD9 (congrArg (fun z9 => (((a0_35, .inl (a0_35_c, 24, .inl z9)) : Nat × va_E))) e_y55)
              have hS := hS9; clear hP9 hD9 hS9
              refine lv_aload_n hx hb dX9_closeLine_148 rfl (lv_at hl 1 rfl) ?_
              refine va_get (D := (dC, dI)) (ci := 8) (v := .ref a0_32) (C := RX9) (T := TX9) (N := 44) hx hb hts inlX9 hown hK hP 0 rgL13_890e5ad rfl 32 (by decide) (hts (.fieldLink RX9 57 "ClosedUntilModel" "sort" "[I") qw_507) (fun _ h9 => h9) rfl dX9_closeLine_149 ?_
              refine lv_iload_n hx hb dX9_closeLine_152 rfl (lv_at hl 0 rfl) ?_
              refine va_iald hx hb hK hP 9 8 rgL13_1206a9c rgT12_51c22ba (vinI (by omega) (by omega)) dX9_closeLine_153 ?_
              refine cst (v := 3) (upd_eq e_y10) ?_
              refine lv_iconst (v := 3) hx hb dX9_closeLine_154 (by decide) ?_
              refine lv_icmp_ne (tgt := 182) hx hb dX9_closeLine_155 (by decide) (fun c155_56 => by exfalso; exact absurd c155_56 (by decide)) (fun c155_56 => ?_)
              refine lv_aload_n hx hb dX9_closeLine_158 rfl (lv_at hl 1 rfl) ?_
              have hPc := (rgP13_e9f0d34 hP)
              have hKc := (rgK12_2fc2b8d hK)
              have hDc := (rgD13_097655f hD)
              have hFc := freeW hDc hS hA
              refine va_calli (va_runV (As := []) (rest := []) ⟨hx, hb, hml, hown, hts⟩ (k_X9_takesDate l dC dI g H.size (a0) (a0_0) (a0_1) (a0_2) (a0_3) (a0_4) (a0_5) (a0_6) (za0_7_40) (za0_8_41) (za0_9_42) (za0_10_43) (za0_11_44) (za0_12_45) (za0_13_46) (a0_14) (a0_15) (a0_16) (a0_17) (a0_18) (a0_19) (a0_20) (a0_21) (a0_22) (a0_23) (a0_24) (a0_25) (a0_26) (a0_27) (a0_28) (a0_29) (a0_30) (a0_31) (a0_32) (a0_33) (a0_34) (a0_35) (a0_36) (za0_37_47) (a0_38) (a0_39) (a0_40) (a0_41) (a0_42) (a0_43) (a0_4_c) (a0_4_f) (by omega) (by omega) (by omega) (by omega) (by omega) (by omega) (by omega)) (cwV 0 hts (gwV qw_564 qw_565 qw_566 qw_386 qw_563) rfl rfl rfl (by decide +kernel) ⟨Nat.le_of_ble_eq_true rfl, Nat.le_of_ble_eq_true rfl⟩) ⟨fun a U g9 mk q => ⟨q.1, q.2.1, q.2.2.1, va_K.moved (u := U) (U := U.calling g9 mk a) (Vm.Alike.refl U.vm) q.2.2.2.1, q.2.2.2.2.1, Ev.bl q.2.2.2.2.2⟩, va_recv hK hP (ci := 8) (q0 := 0) rfl rgL13_890e5ad, fun U hU hW => ⟨rfl, by rw [hU], atB hU hPc, va_K.moved hW.alike hKc, hDc.weaken (fun _ _ _ _ => trivial), hE.go hS hFc hU hW⟩⟩ rfl rfl hl.1 rfl (lv_room (Nat.le_of_ble_eq_true rfl)) dX9_closeLine_159 ⟨Nat.le_of_ble_eq_true rfl, Nat.le_of_ble_eq_true rfl⟩) hS (fun q _ h => hFc q h) hFc (fun r58 u57 t H1 locs ht hvm h_u57 hB hz1 hk1 hS => ?_)
              obtain ⟨za0_7_59, za0_8_60, za0_9_61, za0_10_62, za0_11_63, za0_12_64, za0_13_65, za0_14_66, za0_15_67, za0_16_68, hF69, hF70, hF71, hP1, hK1, hD1⟩ := hB
              have hK1 := va_K.moved hvm.symm hK1
              have hJ9 := rgJ13_d718ff5 hP hD hk1 hFc (atH ht hP1) hD1
              clear hP hD hPc hKc hDc hFc hP1 hD1 hk1 hz1
              obtain ⟨hP, hD⟩ := hJ9
              clear hK1
              generalize H1 = H at hP hS ⊢
              refine W.widen (k := 0) (n := 0) (Nat.le_of_ble_eq_true rfl) (Nat.le_of_ble_eq_true rfl) ?_
              have h_r58 := congrArg Int32.toInt h_u57
              have hz_r58 : r58 = 0 ∨ r58 = 1 := h_u57 ▸ hF71
              have b_r58 := z01 hz_r58
              refine lv_if_ne (tgt := 167) hx hb dX9_closeLine_162 (by decide) (fun c162_72 => ?_) (fun c162_72 => ?_)
              · have c162_72 : ¬ (r58.toInt = 0) := mt (cv_eq rfl (by decide)).mpr c162_72
                refine lv_aload_n hx hb dX9_closeLine_167 rfl (lv_at hl 1 rfl) ?_
                refine va_get (D := (dC, dI)) (ci := 8) (v := .ref a0_34) (C := RX9) (T := TX9) (N := 44) hx hb hts inlX9 hown hK hP 0 rgL13_890e5ad rfl 34 (by decide) (hts (.fieldLink RX9 63 "ClosedUntilModel" "years" "[I") qw_516) (fun _ h9 => h9) rfl dX9_closeLine_168 ?_
                refine lv_iconst (v := 3) hx hb dX9_closeLine_171 (by decide) ?_
                refine lv_iload_n hx hb dX9_closeLine_172 rfl (lv_at hl 0 rfl) ?_
                refine lv_imul hx hb dX9_closeLine_173 ?_
                refine lv_topi (fun x73 e_x73 => ?_)
                try have e_x73 := ti_mul e_x73 (show (3 : Int32).toInt = 3 by decide) rfl (by omega)
                refine lv_aload_n hx hb dX9_closeLine_174 rfl (lv_at hl 1 rfl) ?_
                refine va_get (D := (dC, dI)) (ci := 8) (v := .int za0_15_67) (C := RX9) (T := TX9) (N := 44) hx hb hts inlX9 hown hK hP 0 rgL13_890e5ad rfl 15 (by decide) (hts (.fieldLink RX9 253 "ClosedUntilModel" "dateHere" "I") qw_481) (fun _ h9 => h9) rfl dX9_closeLine_175 ?_
                refine va_iast hx hb hK hP hD hS 11 10 rgL13_cc99607 rgT12_1025113 (vinI (by omega) (by omega)) dX9_closeLine_178 (fun H locs hP9 hD9 hS9 => ?_)
                obtain ⟨y74, e_y74⟩ : ∃ y, (upd a0_34_f x73.toNatClampNeg za0_15_67) = y := ⟨_, rfl⟩
                clear hP hD hS
                obtain ⟨hP, hD⟩ := rgS13_353ab7d (e := (a0_34, .inl (a0_34_c, 72, .inl y74))) hP9 hD9 (congrArg (fun z9 => (((a0_34, .inl (a0_34_c, 72, .inl z9)) : Nat × va_E))) e_y74)
                have hS := hS9; clear hP9 hD9 hS9
                refine lv_goto (tgt := 248) hx hb dX9_closeLine_179 (by decide) ?_
                refine lv_aload_n hx hb dX9_closeLine_248 rfl (lv_at hl 1 rfl) ?_
                refine va_get (D := (dC, dI)) (ci := 8) (v := .ref a0_21) (C := RX9) (T := TX9) (N := 44) hx hb hts inlX9 hown hK hP 0 rgL13_890e5ad rfl 21 (by decide) (hts (.fieldLink RX9 23 "ClosedUntilModel" "closures" "[I") qw_501) (fun _ h9 => h9) rfl dX9_closeLine_249 ?_
                refine lv_aload_n hx hb dX9_closeLine_252 rfl (lv_at hl 1 rfl) ?_
                refine va_get (D := (dC, dI)) (ci := 8) (v := .int a0_17) (C := RX9) (T := TX9) (N := 44) hx hb hts inlX9 hown hK hP 0 rgL13_890e5ad rfl 17 (by decide) (hts (.fieldLink RX9 256 "ClosedUntilModel" "bench" "I") qw_435) (fun _ h9 => h9) rfl dX9_closeLine_253 ?_
                refine lv_dup2_11 hx hb dX9_closeLine_256 rfl rfl ?_
                refine va_iald hx hb hK hP 5 4 rgL13_e4c0870 rgT12_c3ae75f (vinI (by omega) (by omega)) dX9_closeLine_257 ?_
                refine lv_topi (fun x75 e_x75 => ?_)
                have q_x75 := congrArg Int32.toInt e_x75
                have b_x75 : 0 ≤ x75.toInt ∧ x75.toInt ≤ 12 := vr_at (lo := 0) (hi := 12) (f := a0_21_f) h_a0_21_f e_x75
                refine lv_iconst (v := 1) hx hb dX9_closeLine_258 (by decide) ?_
                refine lv_iadd hx hb dX9_closeLine_259 ?_
                refine lv_topi (fun x76 e_x76 => ?_)
                try have e_x76 := ti_add e_x76 rfl (show (1 : Int32).toInt = 1 by decide) (by omega)
                refine va_iast hx hb hK hP hD hS 5 4 rgL13_e4c0870 rgT12_c3ae75f (vinI (by omega) (by omega)) dX9_closeLine_260 (fun H locs hP9 hD9 hS9 => ?_)
                obtain ⟨y77, e_y77⟩ : ∃ y, (upd a0_21_f a0_17.toNatClampNeg x76) = y := ⟨_, rfl⟩
                clear hP hD hS
                obtain ⟨hP, hD⟩ := rgS13_82f222c (e := (a0_21, .inl (a0_21_c, 2, .inl y77))) hP9 hD9 (congrArg (fun z9 => (((a0_21, .inl (a0_21_c, 2, .inl z9)) : Nat × va_E))) e_y77)
                have hS := hS9; clear hP9 hD9 hS9
                have b_y77 : vr 0 12 y77 := vr_upd e_y77 h_a0_21_f (by omega)
                refine lv_iconst (v := 1) hx hb dX9_closeLine_261 (by decide) ?_
                have qc1 : (1 : Int32).toInt = 1 := by decide
                refine W.widen (k := 0) (n := 0) (Nat.le_of_ble_eq_true rfl) (Nat.le_of_ble_eq_true rfl) ?_
                have hP9 := hP
                have hD9 := hD
                have hK9 := (rgK12_8728a0f hK)
                have hf9_0 : (0 ≤ za0_7_59.toInt ∧ za0_7_59.toInt ≤ 1000) := by omega
                have hf9_1 : (0 ≤ za0_8_60.toInt ∧ za0_8_60.toInt ≤ 1000) := by omega
                have hf9_2 : ((-1) ≤ za0_37_47.toInt ∧ za0_37_47.toInt ≤ 23) := by omega
                have hf9_3 : vr 0 12 y77 := b_y77
                have hf9_4 : ((1 : Int32) = 0 ∨ (1 : Int32) = 1) := (by decide)
                have hf9_5 : ((1 : Int32).toInt = 1 → (y77 a0_17.toNatClampNeg).toInt = (a0_21_f a0_17.toNatClampNeg).toInt + 1) := fun _ => by rw [upd_eq e_y77]; omega
                have hf9_6 : (KP 1 a0_21_f y77) := KP.upd e_y77 (kI (by omega))
                have hf9_7 : (KP 12 a0_32_f y10) := KP.upd e_y10 (kI (by omega))
                have hf9_8 : (KP 12 a0_33_f y54) := KP.upd e_y54 (kI (by omega))
                have hf9_9 : (WOk y10 y54 12 (y77 a0_17.toNatClampNeg).toInt) := WOk.more hwo1 hs1 hw1 (by omega) (by rw [upd_eq e_y77]; omega) (by omega) (by unfold WQ; omega)
                exact W.zret (v := 1) hx hb hr rfl (fun t ht hW => ⟨⟨1, 1, rfl, rfl, za0_7_59, za0_8_60, za0_9_61, za0_10_62, za0_11_63, za0_12_64, za0_13_65, za0_14_66, za0_15_67, za0_16_68, za0_37_47, y77, y10, y54, y74, y55, hf9_0, hf9_1, hf9_2, hf9_3, hf9_4, hf9_5, hf9_6, hf9_7, hf9_8, hf9_9, atB ht hP9, va_K.moved hW.alike hK9, hD9⟩, hS.F ht⟩) hS.2.2 dX9_closeLine_262
              · have c162_72 : r58.toInt = 0 := (cv_eq rfl (by decide)).mp c162_72
                refine lv_iconst (v := 0) hx hb dX9_closeLine_165 (by decide) ?_
                have qc0 : (0 : Int32).toInt = 0 := by decide
                refine W.widen (k := 0) (n := 0) (Nat.le_of_ble_eq_true rfl) (Nat.le_of_ble_eq_true rfl) ?_
                have hP9 := hP
                have hD9 := hD
                have hK9 := (rgK12_8728a0f hK)
                have hf9_0 : (0 ≤ za0_7_59.toInt ∧ za0_7_59.toInt ≤ 1000) := by omega
                have hf9_1 : (0 ≤ za0_8_60.toInt ∧ za0_8_60.toInt ≤ 1000) := by omega
                have hf9_2 : ((-1) ≤ za0_37_47.toInt ∧ za0_37_47.toInt ≤ 23) := by omega
                have hf9_3 : vr 0 12 a0_21_f := h_a0_21_f
                have hf9_4 : ((0 : Int32) = 0 ∨ (0 : Int32) = 1) := (by decide)
                have hf9_5 : ((0 : Int32).toInt = 1 → (a0_21_f a0_17.toNatClampNeg).toInt = (a0_21_f a0_17.toNatClampNeg).toInt + 1) := fun q => absurd q (by decide)
                have hf9_6 : (KP 1 a0_21_f a0_21_f) := KP.rf
                have hf9_7 : (KP 12 a0_32_f y10) := KP.upd e_y10 (kI (by omega))
                have hf9_8 : (KP 12 a0_33_f y54) := KP.upd e_y54 (kI (by omega))
                have hf9_9 : (WOk y10 y54 12 (a0_21_f a0_17.toNatClampNeg).toInt) := hwo1
                exact W.zret (v := 0) hx hb hr rfl (fun t ht hW => ⟨⟨0, 0, rfl, rfl, za0_7_59, za0_8_60, za0_9_61, za0_10_62, za0_11_63, za0_12_64, za0_13_65, za0_14_66, za0_15_67, za0_16_68, za0_37_47, a0_21_f, y10, y54, a0_34_f, y55, hf9_0, hf9_1, hf9_2, hf9_3, hf9_4, hf9_5, hf9_6, hf9_7, hf9_8, hf9_9, atB ht hP9, va_K.moved hW.alike hK9, hD9⟩, hS.F ht⟩) hS.2.2 dX9_closeLine_166
            · have c126_53 : r39.toInt = 0 := (cv_eq rfl (by decide)).mp c126_53
              refine lv_iconst (v := 0) hx hb dX9_closeLine_129 (by decide) ?_
              have qc0 : (0 : Int32).toInt = 0 := by decide
              refine W.widen (k := 0) (n := 0) (Nat.le_of_ble_eq_true rfl) (Nat.le_of_ble_eq_true rfl) ?_
              have hP9 := hP
              have hD9 := hD
              have hK9 := (rgK12_8728a0f hK)
              have hf9_0 : (0 ≤ za0_7_40.toInt ∧ za0_7_40.toInt ≤ 1000) := by omega
              have hf9_1 : (0 ≤ za0_8_41.toInt ∧ za0_8_41.toInt ≤ 1000) := by omega
              have hf9_2 : ((-1) ≤ za0_37_47.toInt ∧ za0_37_47.toInt ≤ 23) := by omega
              have hf9_3 : vr 0 12 a0_21_f := h_a0_21_f
              have hf9_4 : ((0 : Int32) = 0 ∨ (0 : Int32) = 1) := (by decide)
              have hf9_5 : ((0 : Int32).toInt = 1 → (a0_21_f a0_17.toNatClampNeg).toInt = (a0_21_f a0_17.toNatClampNeg).toInt + 1) := fun q => absurd q (by decide)
              have hf9_6 : (KP 1 a0_21_f a0_21_f) := KP.rf
              have hf9_7 : (KP 12 a0_32_f y10) := KP.upd e_y10 (kI (by omega))
              have hf9_8 : (KP 12 a0_33_f a0_33_f) := KP.rf
              have hf9_9 : (WOk y10 a0_33_f 12 (a0_21_f a0_17.toNatClampNeg).toInt) := hwo1
              exact W.zret (v := 0) hx hb hr rfl (fun t ht hW => ⟨⟨0, 0, rfl, rfl, za0_7_40, za0_8_41, za0_9_42, za0_10_43, za0_11_44, za0_12_45, za0_13_46, a0_14, a0_15, a0_16, za0_37_47, a0_21_f, y10, a0_33_f, a0_34_f, a0_35_f, hf9_0, hf9_1, hf9_2, hf9_3, hf9_4, hf9_5, hf9_6, hf9_7, hf9_8, hf9_9, atB ht hP9, va_K.moved hW.alike hK9, hD9⟩, hS.F ht⟩) hS.2.2 dX9_closeLine_130
          · have c93_27 : r22.toInt = 0 := (cv_eq rfl (by decide)).mp c93_27
            refine lv_iconst (v := 0) hx hb dX9_closeLine_96 (by decide) ?_
            have qc0 : (0 : Int32).toInt = 0 := by decide
            refine W.widen (k := 0) (n := 0) (Nat.le_of_ble_eq_true rfl) (Nat.le_of_ble_eq_true rfl) ?_
            have hP9 := hP
            have hD9 := hD
            have hK9 := (rgK12_8728a0f hK)
            have hf9_0 : (0 ≤ a0_7.toInt ∧ a0_7.toInt ≤ 1000) := by omega
            have hf9_1 : (0 ≤ a0_8.toInt ∧ a0_8.toInt ≤ 1000) := by omega
            have hf9_2 : ((-1) ≤ a0_37.toInt ∧ a0_37.toInt ≤ 23) := by omega
            have hf9_3 : vr 0 12 a0_21_f := h_a0_21_f
            have hf9_4 : ((0 : Int32) = 0 ∨ (0 : Int32) = 1) := (by decide)
            have hf9_5 : ((0 : Int32).toInt = 1 → (a0_21_f a0_17.toNatClampNeg).toInt = (a0_21_f a0_17.toNatClampNeg).toInt + 1) := fun q => absurd q (by decide)
            have hf9_6 : (KP 1 a0_21_f a0_21_f) := KP.rf
            have hf9_7 : (KP 12 a0_32_f y10) := KP.upd e_y10 (kI (by omega))
            have hf9_8 : (KP 12 a0_33_f a0_33_f) := KP.rf
            have hf9_9 : (WOk y10 a0_33_f 12 (a0_21_f a0_17.toNatClampNeg).toInt) := hwo1
            exact W.zret (v := 0) hx hb hr rfl (fun t ht hW => ⟨⟨0, 0, rfl, rfl, a0_7, a0_8, a0_9, a0_10, a0_11, za0_12_23, za0_13_24, a0_14, a0_15, a0_16, a0_37, a0_21_f, y10, a0_33_f, a0_34_f, a0_35_f, hf9_0, hf9_1, hf9_2, hf9_3, hf9_4, hf9_5, hf9_6, hf9_7, hf9_8, hf9_9, atB ht hP9, va_K.moved hW.alike hK9, hD9⟩, hS.F ht⟩) hS.2.2 dX9_closeLine_97
      · have c55_9 : ¬ (r8.toInt = 0) := mt (cv_eq rfl (by decide)).mpr c55_9
        refine lv_iconst (v := 2) hx hb dX9_closeLine_58 (by decide) ?_
        refine lv_goto (tgt := 63) hx hb dX9_closeLine_59 (by decide) ?_
        refine va_iast hx hb hK hP hD hS 9 8 rgL13_1206a9c rgT12_51c22ba (vinI (by omega) (by omega)) dX9_closeLine_63 (fun H locs hP9 hD9 hS9 => ?_)
        obtain ⟨y78, e_y78⟩ : ∃ y, (upd a0_32_f x3.toNatClampNeg (2)) = y := ⟨_, rfl⟩
        clear hP hD hS
        obtain ⟨hP, hD⟩ := rgS13_b3ba14e (e := (a0_32, .inl (a0_32_c, 24, .inl y78))) hP9 hD9 (congrArg (fun z9 => (((a0_32, .inl (a0_32_c, 24, .inl z9)) : Nat × va_E))) e_y78)
        have hS := hS9; clear hP9 hD9 hS9
        have hwo1 := WOk.keepA hwo e_y78 (by omega) (by omega)
        have hs1 : y78 x3.toNatClampNeg = 2 := upd_eq e_y78
        have qcs1 : (2 : Int32).toInt = 2 := by decide
        refine lv_aload_n hx hb dX9_closeLine_64 rfl (lv_at hl 1 rfl) ?_
        refine lv_aload_n hx hb dX9_closeLine_65 rfl (lv_at hl 1 rfl) ?_
        refine va_get (D := (dC, dI)) (ci := 8) (v := .ref a0_32) (C := RX9) (T := TX9) (N := 44) hx hb hts inlX9 hown hK hP 0 rgL13_890e5ad rfl 32 (by decide) (hts (.fieldLink RX9 57 "ClosedUntilModel" "sort" "[I") qw_507) (fun _ h9 => h9) rfl dX9_closeLine_66 ?_
        refine lv_iload_n hx hb dX9_closeLine_69 rfl (lv_at hl 0 rfl) ?_
        refine va_iald hx hb hK hP 9 8 rgL13_1206a9c rgT12_51c22ba (vinI (by omega) (by omega)) dX9_closeLine_70 ?_
        refine cst (v := 2) (upd_eq e_y78) ?_
        refine lv_iconst (v := 3) hx hb dX9_closeLine_71 (by decide) ?_
        refine lv_icmp_ne (tgt := 84) hx hb dX9_closeLine_72 (by decide) (fun c72_79 => ?_) (fun c72_79 => by exfalso; exact absurd c72_79 (by decide))
        refine lv_iconst (v := 1) hx hb dX9_closeLine_84 (by decide) ?_
        refine lv_goto (tgt := 89) hx hb dX9_closeLine_85 (by decide) ?_
        refine lv_iconst (v := 1) hx hb dX9_closeLine_89 (by decide) ?_
        have qc1 : (1 : Int32).toInt = 1 := by decide
        have hPc := (rgP13_c385d03 hP)
        have hKc := (rgK12_8728a0f hK)
        have hDc := (rgD13_9e851cf hD)
        have hFc := freeW hDc hS hA
        refine va_calli (va_runV (As := [.int 1, .int 1]) (rest := []) ⟨hx, hb, hml, hown, hts⟩ (k_X9_must l dC dI g H.size (a0) (1) (1) (a0_0) (a0_1) (a0_2) (a0_3) (a0_4) (a0_5) (a0_6) (a0_7) (a0_8) (a0_9) (a0_10) (a0_11) (a0_12) (a0_13) (a0_14) (a0_15) (a0_16) (a0_17) (a0_18) (a0_19) (a0_20) (a0_21) (a0_22) (a0_23) (a0_24) (a0_25) (a0_26) (a0_27) (a0_28) (a0_29) (a0_30) (a0_31) (a0_32) (a0_33) (a0_34) (a0_35) (a0_36) (a0_37) (a0_38) (a0_39) (a0_40) (a0_41) (a0_42) (a0_43) (by omega) (by omega) (by omega) (by omega) (by omega) (by omega) (by omega) (by omega)) (cwV 2 hts (gwV qw_472 qw_473 qw_474 qw_386 qw_471) rfl rfl rfl (by decide +kernel) ⟨Nat.le_of_ble_eq_true rfl, Nat.le_of_ble_eq_true rfl⟩) ⟨fun a U g9 mk q => ⟨q.1, q.2.1, q.2.2.1, va_K.moved (u := U) (U := U.calling g9 mk a) (Vm.Alike.refl U.vm) q.2.2.2.1, q.2.2.2.2.1, Ev.bl q.2.2.2.2.2⟩, va_recv hK hP (ci := 8) (q0 := 0) rfl rgL13_890e5ad, fun U hU hW => ⟨rfl, by rw [hU], atB hU hPc, va_K.moved hW.alike hKc, hDc.weaken (fun _ _ _ _ => trivial), hE.go hS hFc hU hW⟩⟩ rfl rfl hl.1 rfl (lv_room (Nat.le_of_ble_eq_true rfl)) dX9_closeLine_90 ⟨Nat.le_of_ble_eq_true rfl, Nat.le_of_ble_eq_true rfl⟩) hS (fun q _ h => hFc q h) hFc (fun r81 u80 t H1 locs ht hvm h_u80 hB hz1 hk1 hS => ?_)
        obtain ⟨za0_12_82, za0_13_83, hF84, hF85, hP1, hK1, hD1⟩ := hB
        have hK1 := va_K.moved hvm.symm hK1
        have hJ9 := rgJ13_5034f5f hP hD hk1 hFc (atH ht hP1) hD1
        clear hP hD hPc hKc hDc hFc hP1 hD1 hk1 hz1
        obtain ⟨hP, hD⟩ := hJ9
        clear hK1
        generalize H1 = H at hP hS ⊢
        refine W.widen (k := 0) (n := 0) (Nat.le_of_ble_eq_true rfl) (Nat.le_of_ble_eq_true rfl) ?_
        have h_r81 := congrArg Int32.toInt h_u80
        have hz_r81 : r81 = 0 ∨ r81 = 1 := h_u80 ▸ hF84
        have b_r81 := z01 hz_r81
        refine lv_if_ne (tgt := 98) hx hb dX9_closeLine_93 (by decide) (fun c93_86 => ?_) (fun c93_86 => ?_)
        · have c93_86 : ¬ (r81.toInt = 0) := mt (cv_eq rfl (by decide)).mpr c93_86
          refine lv_aload_n hx hb dX9_closeLine_98 rfl (lv_at hl 1 rfl) ?_
          have hPc := (rgP13_e9f0d34 hP)
          have hKc := (rgK12_2fc2b8d hK)
          have hDc := (rgD13_097655f hD)
          have hFc := freeW hDc hS hA
          refine va_callv (va_runV (As := []) (rest := []) ⟨hx, hb, hml, hown, hts⟩ (k_X9_steps l dC dI g H.size (a0) (a0_0) (a0_1) (a0_2) (a0_3) (a0_4) (a0_5) (a0_6) (a0_7) (a0_8) (a0_9) (a0_10) (a0_11) (za0_12_82) (za0_13_83) (a0_14) (a0_15) (a0_16) (a0_17) (a0_18) (a0_19) (a0_20) (a0_21) (a0_22) (a0_23) (a0_24) (a0_25) (a0_26) (a0_27) (a0_28) (a0_29) (a0_30) (a0_31) (a0_32) (a0_33) (a0_34) (a0_35) (a0_36) (a0_37) (a0_38) (a0_39) (a0_40) (a0_41) (a0_42) (a0_43) (a0_4_c) (a0_4_f) (by omega) (by omega) (by omega) (by omega) (by omega) (by omega) (by omega)) (cwV 0 hts (gwV qw_468 qw_469 qw_470 qw_386 qw_467) rfl rfl rfl (by decide +kernel) ⟨Nat.le_of_ble_eq_true rfl, Nat.le_of_ble_eq_true rfl⟩) ⟨fun a U g9 mk q => ⟨q.1, q.2.1, q.2.2.1, va_K.moved (u := U) (U := U.calling g9 mk a) (Vm.Alike.refl U.vm) q.2.2.2.1, q.2.2.2.2.1, Ev.bl q.2.2.2.2.2⟩, va_recv hK hP (ci := 8) (q0 := 0) rfl rgL13_890e5ad, fun U hU hW => ⟨rfl, by rw [hU], atB hU hPc, va_K.moved hW.alike hKc, hDc.weaken (fun _ _ _ _ => trivial), hE.go hS hFc hU hW⟩⟩ rfl rfl hl.1 rfl (lv_room (Nat.le_of_ble_eq_true rfl)) dX9_closeLine_99 ⟨Nat.le_of_ble_eq_true rfl, Nat.le_of_ble_eq_true rfl⟩) hS (fun q _ h => hFc q h) hFc (fun u87 t H1 locs ht hvm h_u87 hB hz1 hk1 hS => ?_)
          obtain ⟨za0_7_89, za0_8_90, za0_9_91, za0_10_92, za0_11_93, hF94, hF95, hP1, hK1, hD1⟩ := hB
          have hK1 := va_K.moved hvm.symm hK1
          have hJ9 := rgJ13_d718ff5 hP hD hk1 hFc (atH ht hP1) hD1
          clear hP hD hPc hKc hDc hFc hP1 hD1 hk1 hz1
          obtain ⟨hP, hD⟩ := hJ9
          clear hK1
          generalize H1 = H at hP hS ⊢
          refine W.widen (k := 0) (n := 0) (Nat.le_of_ble_eq_true rfl) (Nat.le_of_ble_eq_true rfl) ?_
          refine lv_aload_n hx hb dX9_closeLine_102 rfl (lv_at hl 1 rfl) ?_
          refine lv_aload_n hx hb dX9_closeLine_103 rfl (lv_at hl 1 rfl) ?_
          refine va_get (D := (dC, dI)) (ci := 8) (v := .ref a0_32) (C := RX9) (T := TX9) (N := 44) hx hb hts inlX9 hown hK hP 0 rgL13_890e5ad rfl 32 (by decide) (hts (.fieldLink RX9 57 "ClosedUntilModel" "sort" "[I") qw_507) (fun _ h9 => h9) rfl dX9_closeLine_104 ?_
          refine lv_iload_n hx hb dX9_closeLine_107 rfl (lv_at hl 0 rfl) ?_
          refine va_iald hx hb hK hP 9 8 rgL13_1206a9c rgT12_51c22ba (vinI (by omega) (by omega)) dX9_closeLine_108 ?_
          refine cst (v := 2) (upd_eq e_y78) ?_
          refine lv_iconst (v := 3) hx hb dX9_closeLine_109 (by decide) ?_
          refine lv_icmp_ne (tgt := 117) hx hb dX9_closeLine_110 (by decide) (fun c110_96 => ?_) (fun c110_96 => by exfalso; exact absurd c110_96 (by decide))
          refine lv_aload_n hx hb dX9_closeLine_117 rfl (lv_at hl 1 rfl) ?_
          refine va_get (D := (dC, dI)) (ci := 8) (v := .ref a0_32) (C := RX9) (T := TX9) (N := 44) hx hb hts inlX9 hown hK hP 0 rgL13_890e5ad rfl 32 (by decide) (hts (.fieldLink RX9 57 "ClosedUntilModel" "sort" "[I") qw_507) (fun _ h9 => h9) rfl dX9_closeLine_118 ?_
          refine lv_iload_n hx hb dX9_closeLine_121 rfl (lv_at hl 0 rfl) ?_
          refine va_iald hx hb hK hP 9 8 rgL13_1206a9c rgT12_51c22ba (vinI (by omega) (by omega)) dX9_closeLine_122 ?_
          refine cst (v := 2) (upd_eq e_y78) ?_
          have qc2 : (2 : Int32).toInt = 2 := by decide
          have hPc := (rgP13_1660a73 hP)
          have hKc := (rgK12_63d2448 hK)
          have hDc := (rgD13_3fa11c2 hD)
          have hFc := freeW hDc hS hA
          refine va_calli (va_runV (As := [.int 2]) (rest := []) ⟨hx, hb, hml, hown, hts⟩ (k_X9_takesTold l dC dI g H.size (a0) (2) (a0_0) (a0_1) (a0_2) (a0_3) (a0_4) (a0_5) (a0_6) (za0_7_89) (za0_8_90) (za0_9_91) (za0_10_92) (za0_11_93) (za0_12_82) (za0_13_83) (a0_14) (a0_15) (a0_16) (a0_17) (a0_18) (a0_19) (a0_20) (a0_21) (a0_22) (a0_23) (a0_24) (a0_25) (a0_26) (a0_27) (a0_28) (a0_29) (a0_30) (a0_31) (a0_32) (a0_33) (a0_34) (a0_35) (a0_36) (a0_37) (a0_38) (a0_39) (a0_40) (a0_41) (a0_42) (a0_43) (a0_4_c) (a0_4_f) (a0_18_c) (a0_18_f) (a0_19_c) (a0_19_f) (a0_20_c) (a0_20_f) (a0_22_c) (a0_22_f) (a0_25_c) (a0_25_f) (a0_27_c) (a0_27_f) (by omega) (by omega) (by omega) (by omega) (by omega) (by omega) (by omega) h_a0_18_f h_a0_19_f h_a0_20_f) (cwV 1 hts (gwV qw_573 qw_574 qw_575 qw_386 qw_572) rfl rfl rfl (by decide +kernel) ⟨Nat.le_of_ble_eq_true rfl, Nat.le_of_ble_eq_true rfl⟩) ⟨fun a U g9 mk q => ⟨q.1, q.2.1, q.2.2.1, va_K.moved (u := U) (U := U.calling g9 mk a) (Vm.Alike.refl U.vm) q.2.2.2.1, q.2.2.2.2.1, Ev.bl q.2.2.2.2.2⟩, va_recv hK hP (ci := 8) (q0 := 0) rfl rgL13_890e5ad, fun U hU hW => ⟨rfl, by rw [hU], atB hU hPc, va_K.moved hW.alike hKc, hDc.weaken (fun _ _ _ _ => trivial), hE.go hS hFc hU hW⟩⟩ rfl rfl hl.1 rfl (lv_room (Nat.le_of_ble_eq_true rfl)) dX9_closeLine_123 ⟨Nat.le_of_ble_eq_true rfl, Nat.le_of_ble_eq_true rfl⟩) hS (fun q _ h => hFc q h) hFc (fun r98 u97 t H1 locs ht hvm h_u97 hB hz1 hk1 hS => ?_)
          obtain ⟨za0_7_99, za0_8_100, za0_9_101, za0_10_102, za0_11_103, za0_12_104, za0_13_105, za0_37_106, hF107, hF108, hF109, hF110, hF111, hP1, hK1, hD1⟩ := hB
          have hK1 := va_K.moved hvm.symm hK1
          have hJ9 := rgJ13_b84a6dc hP hD hk1 hFc (atH ht hP1) hD1
          clear hP hD hPc hKc hDc hFc hP1 hD1 hk1 hz1
          obtain ⟨hP, hD⟩ := hJ9
          clear hK1
          generalize H1 = H at hP hS ⊢
          refine W.widen (k := 0) (n := 0) (Nat.le_of_ble_eq_true rfl) (Nat.le_of_ble_eq_true rfl) ?_
          have h_r98 := congrArg Int32.toInt h_u97
          have hz_r98 : r98 = 0 ∨ r98 = 1 := h_u97 ▸ hF110
          have b_r98 := z01 hz_r98
          refine lv_if_ne (tgt := 131) hx hb dX9_closeLine_126 (by decide) (fun c126_112 => ?_) (fun c126_112 => ?_)
          · have c126_112 : ¬ (r98.toInt = 0) := mt (cv_eq rfl (by decide)).mpr c126_112
            refine lv_aload_n hx hb dX9_closeLine_131 rfl (lv_at hl 1 rfl) ?_
            refine va_get (D := (dC, dI)) (ci := 8) (v := .ref a0_33) (C := RX9) (T := TX9) (N := 44) hx hb hts inlX9 hown hK hP 0 rgL13_890e5ad rfl 33 (by decide) (hts (.fieldLink RX9 60 "ClosedUntilModel" "whom" "[I") qw_508) (fun _ h9 => h9) rfl dX9_closeLine_132 ?_
            refine lv_iload_n hx hb dX9_closeLine_135 rfl (lv_at hl 0 rfl) ?_
            refine lv_aload_n hx hb dX9_closeLine_136 rfl (lv_at hl 1 rfl) ?_
            refine va_get (D := (dC, dI)) (ci := 8) (v := .int za0_37_106) (C := RX9) (T := TX9) (N := 44) hx hb hts inlX9 hown hK hP 0 rgL13_890e5ad rfl 37 (by decide) (hts (.fieldLink RX9 274 "ClosedUntilModel" "foundHere" "I") qw_499) (fun _ h9 => h9) rfl dX9_closeLine_137 ?_
            refine va_iast hx hb hK hP hD hS 10 9 rgL13_e69bf83 rgT12_e433926 (vinI (by omega) (by omega)) dX9_closeLine_140 (fun H locs hP9 hD9 hS9 => ?_)
            obtain ⟨y113, e_y113⟩ : ∃ y, (upd a0_33_f x3.toNatClampNeg za0_37_106) = y := ⟨_, rfl⟩
            clear hP hD hS
            obtain ⟨hP, hD⟩ := rgS13_ab58875 (e := (a0_33, .inl (a0_33_c, 24, .inl y113))) hP9 hD9 (congrArg (fun z9 => (((a0_33, .inl (a0_33_c, 24, .inl z9)) : Nat × va_E))) e_y113)
            have hS := hS9; clear hP9 hD9 hS9
            have hwo1 := WOk.keepB hwo1 e_y113 (by omega) (by omega)
            have hw1 := upd_eq e_y113
            refine lv_aload_n hx hb dX9_closeLine_141 rfl (lv_at hl 1 rfl) ?_
            refine va_get (D := (dC, dI)) (ci := 8) (v := .ref a0_35) (C := RX9) (T := TX9) (N := 44) hx hb hts inlX9 hown hK hP 0 rgL13_890e5ad rfl 35 (by decide) (hts (.fieldLink RX9 66 "ClosedUntilModel" "isWhole" "[Z") qw_522) (fun _ h9 => h9) rfl dX9_closeLine_142 ?_
            refine lv_iload_n hx hb dX9_closeLine_145 rfl (lv_at hl 0 rfl) ?_
            refine lv_iconst (v := 0) hx hb dX9_closeLine_146 (by decide) ?_
            refine va_zast hx hb hK hP hD hS 12 11 rgL13_551ea76 rgT12_e4ce31b (vinI (by omega) (by omega)) dX9_closeLine_147 (fun H locs hP9 hD9 hS9 => ?_)
            obtain ⟨y114, e_y114⟩ : ∃ y, (upd a0_35_f x3.toNatClampNeg (vp_nar .boolean (0))) = y := ⟨_, rfl⟩
            clear hP hD hS
            obtain ⟨hP, hD⟩ := rgS13_979e4b8 (e := (a0_35, .inl (a0_35_c, 24, .inl y114))) hP9 hD9 (congrArg (fun z9 => (((a0_35, .inl (a0_35_c, 24, .inl z9)) : Nat × va_E))) e_y114)
            have hS := hS9; clear hP9 hD9 hS9
            refine lv_aload_n hx hb dX9_closeLine_148 rfl (lv_at hl 1 rfl) ?_
            refine va_get (D := (dC, dI)) (ci := 8) (v := .ref a0_32) (C := RX9) (T := TX9) (N := 44) hx hb hts inlX9 hown hK hP 0 rgL13_890e5ad rfl 32 (by decide) (hts (.fieldLink RX9 57 "ClosedUntilModel" "sort" "[I") qw_507) (fun _ h9 => h9) rfl dX9_closeLine_149 ?_
            refine lv_iload_n hx hb dX9_closeLine_152 rfl (lv_at hl 0 rfl) ?_
            refine va_iald hx hb hK hP 9 8 rgL13_1206a9c rgT12_51c22ba (vinI (by omega) (by omega)) dX9_closeLine_153 ?_
            refine cst (v := 2) (upd_eq e_y78) ?_
            refine lv_iconst (v := 3) hx hb dX9_closeLine_154 (by decide) ?_
            refine lv_icmp_ne (tgt := 182) hx hb dX9_closeLine_155 (by decide) (fun c155_115 => ?_) (fun c155_115 => by exfalso; exact absurd c155_115 (by decide))
            refine lv_iconst (v := 0) hx hb dX9_closeLine_182 (by decide) ?_
            refine lv_istore_n (lv' := [(2, .int 0), (1, .int x3), (0, .ref a0)]) hx hb dX9_closeLine_183 rfl hl (by decide) rfl (fun ls hl => ?_)
            have qc0 : (0 : Int32).toInt = 0 := by decide
            refine wloop (fun n H locs ls => ∃ (l184_2 : Int32) (f184_0_7 : Int32) (f184_0_8 : Int32) (f184_0_9 : Int32) (f184_0_10 : Int32) (f184_0_11 : Int64) (f184_0_12 : Int32) (f184_0_13 : Int32) (f184_0_14 : Int32) (w184_11 : Nat → Int32), n = (2147483647 - l184_2.toInt).toNat ∧ ((0 ≤ f184_0_7.toInt ∧ f184_0_7.toInt ≤ 1000)) ∧ ((0 ≤ f184_0_8.toInt ∧ f184_0_8.toInt ≤ 1000)) ∧ (0 ≤ l184_2.toInt) ∧ lv_has ls 3 [(2, .int l184_2), (1, .int x3), (0, .ref a0)] ∧ va_P (dC, dI) vwCl [(a0, .inr (8, [.int a0_0, .int a0_1, .int a0_2, .int a0_3, .ref a0_4, .int a0_5, .int a0_6, .int f184_0_7, .int f184_0_8, .int f184_0_9, .int f184_0_10, .long f184_0_11, .int f184_0_12, .int f184_0_13, .int f184_0_14, .int a0_15, .int a0_16, .int a0_17, .ref a0_18, .ref a0_19, .ref a0_20, .ref a0_21, .ref a0_22, .ref a0_23, .ref a0_24, .ref a0_25, .ref a0_26, .ref a0_27, .ref a0_28, .ref a0_29, .ref a0_30, .ref a0_31, .ref a0_32, .ref a0_33, .ref a0_34, .ref a0_35, .long a0_36, .int za0_37_106, .ref a0_38, .ref a0_39, .int a0_40, .ref a0_41, .ref a0_42, .ref a0_43])), (a0_4, .inl (a0_4_c, 1000, .inl a0_4_f)), (a0_18, .inl (a0_18_c, 2, .inl a0_18_f)), (a0_19, .inl (a0_19_c, 2, .inl a0_19_f)), (a0_20, .inl (a0_20_c, 2, .inl a0_20_f)), (a0_21, .inl (a0_21_c, 2, .inl a0_21_f)), (a0_22, .inl (a0_22_c, 16, .inr (.inl a0_22_f))), (a0_25, .inl (a0_25_c, 8, .inr (.inl a0_25_f))), (a0_27, .inl (a0_27_c, 48, .inr (.inl a0_27_f))), (a0_32, .inl (a0_32_c, 24, .inl y78)), (a0_33, .inl (a0_33_c, 24, .inl y113)), (a0_34, .inl (a0_34_c, 72, .inl w184_11)), (a0_35, .inl (a0_35_c, 24, .inl y114))] H ∧ va_D A [(a0, .inr (8, [.int a0_0, .int a0_1, .int a0_2, .int a0_3, .ref a0_4, .int a0_5, .int a0_6, .int f184_0_7, .int f184_0_8, .int f184_0_9, .int f184_0_10, .long f184_0_11, .int f184_0_12, .int f184_0_13, .int f184_0_14, .int a0_15, .int a0_16, .int a0_17, .ref a0_18, .ref a0_19, .ref a0_20, .ref a0_21, .ref a0_22, .ref a0_23, .ref a0_24, .ref a0_25, .ref a0_26, .ref a0_27, .ref a0_28, .ref a0_29, .ref a0_30, .ref a0_31, .ref a0_32, .ref a0_33, .ref a0_34, .ref a0_35, .long a0_36, .int za0_37_106, .ref a0_38, .ref a0_39, .int a0_40, .ref a0_41, .ref a0_42, .ref a0_43])), (a0_4, .inl (a0_4_c, 1000, .inl a0_4_f)), (a0_18, .inl (a0_18_c, 2, .inl a0_18_f)), (a0_19, .inl (a0_19_c, 2, .inl a0_19_f)), (a0_20, .inl (a0_20_c, 2, .inl a0_20_f)), (a0_21, .inl (a0_21_c, 2, .inl a0_21_f)), (a0_22, .inl (a0_22_c, 16, .inr (.inl a0_22_f))), (a0_25, .inl (a0_25_c, 8, .inr (.inl a0_25_f))), (a0_27, .inl (a0_27_c, 48, .inr (.inl a0_27_f))), (a0_32, .inl (a0_32_c, 24, .inl y78)), (a0_33, .inl (a0_33_c, 24, .inl y113)), (a0_34, .inl (a0_34_c, 72, .inl w184_11)), (a0_35, .inl (a0_35_c, 24, .inl y114))] ∧ va_S A s.heap H locs) ?_ ((2147483647 - (0 : Int32).toInt).toNat) _ _ _ ⟨0, za0_7_99, za0_8_100, za0_9_101, za0_10_102, za0_11_103, za0_12_104, za0_13_105, a0_14, a0_34_f, rfl, (by omega), (by omega), (by omega), lv_sub hl [0, 1, 2] rfl, hP, hD, hS⟩
            intro n184 H locs ls hI ih184
            obtain ⟨l184_2, f184_0_7, f184_0_8, f184_0_9, f184_0_10, f184_0_11, f184_0_12, f184_0_13, f184_0_14, w184_11, hn184, g_f184_0_7, g_f184_0_8, g_l184_2, hl, hP, hD, hS⟩ := hI
            have b_l184_2 := i32b l184_2
            have b_f184_0_7 := i32b f184_0_7
            have b_f184_0_8 := i32b f184_0_8
            have b_f184_0_9 := i32b f184_0_9
            have b_f184_0_10 := i32b f184_0_10
            have b_f184_0_12 := i32b f184_0_12
            have b_f184_0_13 := i32b f184_0_13
            have b_f184_0_14 := i32b f184_0_14
            refine lv_iload_n hx hb dX9_closeLine_184 rfl (lv_at hl 0 rfl) ?_
            refine lv_aload_n hx hb dX9_closeLine_185 rfl (lv_at hl 2 rfl) ?_
            refine va_get (D := (dC, dI)) (ci := 8) (v := .ref a0_32) (C := RX9) (T := TX9) (N := 44) hx hb hts inlX9 hown hK hP 0 rgL13_890e5ad rfl 32 (by decide) (hts (.fieldLink RX9 57 "ClosedUntilModel" "sort" "[I") qw_507) (fun _ h9 => h9) rfl dX9_closeLine_186 ?_
            refine lv_iload_n hx hb dX9_closeLine_189 rfl (lv_at hl 1 rfl) ?_
            refine va_iald hx hb hK hP 9 8 rgL13_1206a9c rgT12_51c22ba (vinI (by omega) (by omega)) dX9_closeLine_190 ?_
            refine cst (v := 2) (upd_eq e_y78) ?_
            refine lv_iconst (v := 1) hx hb dX9_closeLine_191 (by decide) ?_
            refine lv_icmp_ne (tgt := 199) hx hb dX9_closeLine_192 (by decide) (fun c192_116 => ?_) (fun c192_116 => by exfalso; exact absurd c192_116 (by decide))
            refine lv_iconst (v := 1) hx hb dX9_closeLine_199 (by decide) ?_
            refine lv_icmp_ge (tgt := 236) hx hb dX9_closeLine_200 (by decide) (fun c200_117 => ?_) (fun c200_117 => ?_)
            · have c200_117 : 1 ≤ l184_2.toInt := (cv_le (by decide) rfl).mp c200_117
              refine lv_aload_n hx hb dX9_closeLine_236 rfl (lv_at hl 2 rfl) ?_
              refine va_get (D := (dC, dI)) (ci := 8) (v := .ref a0_35) (C := RX9) (T := TX9) (N := 44) hx hb hts inlX9 hown hK hP 0 rgL13_890e5ad rfl 35 (by decide) (hts (.fieldLink RX9 66 "ClosedUntilModel" "isWhole" "[Z") qw_522) (fun _ h9 => h9) rfl dX9_closeLine_237 ?_
              refine lv_iload_n hx hb dX9_closeLine_240 rfl (lv_at hl 1 rfl) ?_
              refine lv_aload_n hx hb dX9_closeLine_241 rfl (lv_at hl 2 rfl) ?_
              refine va_ldcS hx hb hown (show vk_R RX9 230 "whole" (g.2.2.2.2.2.1 11) s from hE.2.2.2.2.2.2.2.2.2.2.2.2.2.2.2.2 11 (by decide)) dX9_closeLine_242 ?_
              have hPc := (rgP13_e9f0d34 hP)
              have hKc := (rgK12_2fc2b8d hK)
              have hDc := (rgD13_097655f hD)
              have hFc := freeW hDc hS hA
              refine va_calli (va_runV (As := [.ref (g.2.2.2.2.2.1 11)]) (rest := [.int x3, .ref a0_35]) ⟨hx, hb, hml, hown, hts⟩ (k_X9_takes l dC dI g H.size (a0) (11) (a0_0) (a0_1) (a0_2) (a0_3) (a0_4) (a0_5) (a0_6) (f184_0_7) (f184_0_8) (f184_0_9) (f184_0_10) (f184_0_11) (f184_0_12) (f184_0_13) (f184_0_14) (a0_15) (a0_16) (a0_17) (a0_18) (a0_19) (a0_20) (a0_21) (a0_22) (a0_23) (a0_24) (a0_25) (a0_26) (a0_27) (a0_28) (a0_29) (a0_30) (a0_31) (a0_32) (a0_33) (a0_34) (a0_35) (a0_36) (za0_37_106) (a0_38) (a0_39) (a0_40) (a0_41) (a0_42) (a0_43) (a0_4_c) (a0_4_f) (by omega) (by omega) (by omega) (by omega) (by omega) (by omega) (by omega) (by first | assumption | decide)) (cwV 1 hts (gwV qw_560 qw_561 qw_562 qw_386 qw_559) rfl rfl rfl (by decide +kernel) ⟨Nat.le_of_ble_eq_true rfl, Nat.le_of_ble_eq_true rfl⟩) ⟨fun a U g9 mk q => ⟨q.1, q.2.1, q.2.2.1, va_K.moved (u := U) (U := U.calling g9 mk a) (Vm.Alike.refl U.vm) q.2.2.2.1, q.2.2.2.2.1, Ev.bl q.2.2.2.2.2⟩, va_recv hK hP (ci := 8) (q0 := 0) rfl rgL13_890e5ad, fun U hU hW => ⟨rfl, by rw [hU], atB hU hPc, va_K.moved hW.alike hKc, hDc.weaken (fun _ _ _ _ => trivial), hE.go hS hFc hU hW⟩⟩ rfl rfl hl.1 rfl (lv_room (Nat.le_of_ble_eq_true rfl)) dX9_closeLine_244 ⟨Nat.le_of_ble_eq_true rfl, Nat.le_of_ble_eq_true rfl⟩) hS (fun q _ h => hFc q h) hFc (fun r119 u118 t H1 locs ht hvm h_u118 hB hz1 hk1 hS => ?_)
              obtain ⟨za0_7_120, za0_8_121, za0_9_122, za0_10_123, za0_11_124, hF125, hF126, hF127, hP1, hK1, hD1⟩ := hB
              have hK1 := va_K.moved hvm.symm hK1
              have hJ9 := rgJ13_d718ff5 hP hD hk1 hFc (atH ht hP1) hD1
              clear hP hD hPc hKc hDc hFc hP1 hD1 hk1 hz1
              obtain ⟨hP, hD⟩ := hJ9
              clear hK1
              generalize H1 = H at hP hS ⊢
              refine W.widen (k := 0) (n := 0) (Nat.le_of_ble_eq_true rfl) (Nat.le_of_ble_eq_true rfl) ?_
              have h_r119 := congrArg Int32.toInt h_u118
              have hz_r119 : r119 = 0 ∨ r119 = 1 := h_u118 ▸ hF127
              have b_r119 := z01 hz_r119
              refine va_zast hx hb hK hP hD hS 12 11 rgL13_551ea76 rgT12_e4ce31b (vinI (by omega) (by omega)) dX9_closeLine_247 (fun H locs hP9 hD9 hS9 => ?_)
              obtain ⟨y128, e_y128⟩ : ∃ y, (upd y114 x3.toNatClampNeg (vp_nar .boolean r119)) = y := ⟨_, rfl⟩
              clear hP hD hS
              obtain ⟨hP, hD⟩ := rgS13_979e4b8 (e := (a0_35, .inl (a0_35_c, 24, .inl y128))) hP9 hD9 (congrArg (fun z9 => (((a0_35, .inl (a0_35_c, 24, .inl z9)) : Nat × va_E))) e_y128)
              have hS := hS9; clear hP9 hD9 hS9
              refine lv_aload_n hx hb dX9_closeLine_248 rfl (lv_at hl 2 rfl) ?_
              refine va_get (D := (dC, dI)) (ci := 8) (v := .ref a0_21) (C := RX9) (T := TX9) (N := 44) hx hb hts inlX9 hown hK hP 0 rgL13_890e5ad rfl 21 (by decide) (hts (.fieldLink RX9 23 "ClosedUntilModel" "closures" "[I") qw_501) (fun _ h9 => h9) rfl dX9_closeLine_249 ?_
              refine lv_aload_n hx hb dX9_closeLine_252 rfl (lv_at hl 2 rfl) ?_
              refine va_get (D := (dC, dI)) (ci := 8) (v := .int a0_17) (C := RX9) (T := TX9) (N := 44) hx hb hts inlX9 hown hK hP 0 rgL13_890e5ad rfl 17 (by decide) (hts (.fieldLink RX9 256 "ClosedUntilModel" "bench" "I") qw_435) (fun _ h9 => h9) rfl dX9_closeLine_253 ?_
              refine lv_dup2_11 hx hb dX9_closeLine_256 rfl rfl ?_
              refine va_iald hx hb hK hP 5 4 rgL13_e4c0870 rgT12_c3ae75f (vinI (by omega) (by omega)) dX9_closeLine_257 ?_
              refine lv_topi (fun x129 e_x129 => ?_)
              have q_x129 := congrArg Int32.toInt e_x129
              have b_x129 : 0 ≤ x129.toInt ∧ x129.toInt ≤ 12 := vr_at (lo := 0) (hi := 12) (f := a0_21_f) h_a0_21_f e_x129
              refine lv_iconst (v := 1) hx hb dX9_closeLine_258 (by decide) ?_
              refine lv_iadd hx hb dX9_closeLine_259 ?_
              refine lv_topi (fun x130 e_x130 => ?_)
              try have e_x130 := ti_add e_x130 rfl (show (1 : Int32).toInt = 1 by decide) (by omega)
              refine va_iast hx hb hK hP hD hS 5 4 rgL13_e4c0870 rgT12_c3ae75f (vinI (by omega) (by omega)) dX9_closeLine_260 (fun H locs hP9 hD9 hS9 => ?_)
              obtain ⟨y131, e_y131⟩ : ∃ y, (upd a0_21_f a0_17.toNatClampNeg x130) = y := ⟨_, rfl⟩
              clear hP hD hS
              obtain ⟨hP, hD⟩ := rgS13_82f222c (e := (a0_21, .inl (a0_21_c, 2, .inl y131))) hP9 hD9 (congrArg (fun z9 => (((a0_21, .inl (a0_21_c, 2, .inl z9)) : Nat × va_E))) e_y131)
              have hS := hS9; clear hP9 hD9 hS9
              have b_y131 : vr 0 12 y131 := vr_upd e_y131 h_a0_21_f (by omega)
              refine lv_iconst (v := 1) hx hb dX9_closeLine_261 (by decide) ?_
              have qc1 : (1 : Int32).toInt = 1 := by decide
              refine W.widen (k := 0) (n := 0) (Nat.le_of_ble_eq_true rfl) (Nat.le_of_ble_eq_true rfl) ?_
              have hP9 := hP
              have hD9 := hD
              have hK9 := (rgK12_8728a0f hK)
              have hf9_0 : (0 ≤ za0_7_120.toInt ∧ za0_7_120.toInt ≤ 1000) := by omega
              have hf9_1 : (0 ≤ za0_8_121.toInt ∧ za0_8_121.toInt ≤ 1000) := by omega
              have hf9_2 : ((-1) ≤ za0_37_106.toInt ∧ za0_37_106.toInt ≤ 23) := by omega
              have hf9_3 : vr 0 12 y131 := b_y131
              have hf9_4 : ((1 : Int32) = 0 ∨ (1 : Int32) = 1) := (by decide)
              have hf9_5 : ((1 : Int32).toInt = 1 → (y131 a0_17.toNatClampNeg).toInt = (a0_21_f a0_17.toNatClampNeg).toInt + 1) := fun _ => by rw [upd_eq e_y131]; omega
              have hf9_6 : (KP 1 a0_21_f y131) := KP.upd e_y131 (kI (by omega))
              have hf9_7 : (KP 12 a0_32_f y78) := KP.upd e_y78 (kI (by omega))
              have hf9_8 : (KP 12 a0_33_f y113) := KP.upd e_y113 (kI (by omega))
              have hf9_9 : (WOk y78 y113 12 (y131 a0_17.toNatClampNeg).toInt) := WOk.more hwo1 hs1 hw1 (by omega) (by rw [upd_eq e_y131]; omega) (by omega) (by unfold WQ; omega)
              exact W.zret (v := 1) hx hb hr rfl (fun t ht hW => ⟨⟨1, 1, rfl, rfl, za0_7_120, za0_8_121, za0_9_122, za0_10_123, za0_11_124, f184_0_12, f184_0_13, f184_0_14, a0_15, a0_16, za0_37_106, y131, y78, y113, w184_11, y128, hf9_0, hf9_1, hf9_2, hf9_3, hf9_4, hf9_5, hf9_6, hf9_7, hf9_8, hf9_9, atB ht hP9, va_K.moved hW.alike hK9, hD9⟩, hS.F ht⟩) hS.2.2 dX9_closeLine_262
            · have c200_117 : ¬ (1 ≤ l184_2.toInt) := mt (cv_le (by decide) rfl).mpr c200_117
              refine lv_aload_n hx hb dX9_closeLine_203 rfl (lv_at hl 2 rfl) ?_
              refine lv_iconst (v := 0) hx hb dX9_closeLine_204 (by decide) ?_
              refine lv_sipush (v := 200) hx hb dX9_closeLine_205 (by decide) ?_
              have qc0 : (0 : Int32).toInt = 0 := by decide
              have qc200 : (200 : Int32).toInt = 200 := by decide
              have hPc := (rgP13_e9f0d34 hP)
              have hKc := (rgK12_2fc2b8d hK)
              have hDc := (rgD13_097655f hD)
              have hFc := freeW hDc hS hA
              refine va_calli (va_runV (As := [.int 0, .int 200]) (rest := []) ⟨hx, hb, hml, hown, hts⟩ (k_X9_takesNumber l dC dI g H.size (a0) (0) (200) (a0_0) (a0_1) (a0_2) (a0_3) (a0_4) (a0_5) (a0_6) (f184_0_7) (f184_0_8) (f184_0_9) (f184_0_10) (f184_0_11) (f184_0_12) (f184_0_13) (f184_0_14) (a0_15) (a0_16) (a0_17) (a0_18) (a0_19) (a0_20) (a0_21) (a0_22) (a0_23) (a0_24) (a0_25) (a0_26) (a0_27) (a0_28) (a0_29) (a0_30) (a0_31) (a0_32) (a0_33) (a0_34) (a0_35) (a0_36) (za0_37_106) (a0_38) (a0_39) (a0_40) (a0_41) (a0_42) (a0_43) (a0_4_c) (a0_4_f) (by omega) (by omega) (by omega) (by omega) (by omega) (by omega) (by omega)) (cwV 2 hts (gwV qw_478 qw_479 qw_480 qw_386 qw_477) rfl rfl rfl (by decide +kernel) ⟨Nat.le_of_ble_eq_true rfl, Nat.le_of_ble_eq_true rfl⟩) ⟨fun a U g9 mk q => ⟨q.1, q.2.1, q.2.2.1, va_K.moved (u := U) (U := U.calling g9 mk a) (Vm.Alike.refl U.vm) q.2.2.2.1, q.2.2.2.2.1, Ev.bl q.2.2.2.2.2⟩, va_recv hK hP (ci := 8) (q0 := 0) rfl rgL13_890e5ad, fun U hU hW => ⟨rfl, by rw [hU], atB hU hPc, va_K.moved hW.alike hKc, hDc.weaken (fun _ _ _ _ => trivial), hE.go hS hFc hU hW⟩⟩ rfl rfl hl.1 rfl (lv_room (Nat.le_of_ble_eq_true rfl)) dX9_closeLine_208 ⟨Nat.le_of_ble_eq_true rfl, Nat.le_of_ble_eq_true rfl⟩) hS (fun q _ h => hFc q h) hFc (fun r133 u132 t H1 locs ht hvm h_u132 hB hz1 hk1 hS => ?_)
              obtain ⟨za0_7_134, za0_8_135, za0_9_136, za0_10_137, za0_11_138, za0_12_139, za0_13_140, za0_14_141, hF142, hF143, hF144, hP1, hK1, hD1⟩ := hB
              have hK1 := va_K.moved hvm.symm hK1
              have hJ9 := rgJ13_d718ff5 hP hD hk1 hFc (atH ht hP1) hD1
              clear hP hD hPc hKc hDc hFc hP1 hD1 hk1 hz1
              obtain ⟨hP, hD⟩ := hJ9
              clear hK1
              generalize H1 = H at hP hS ⊢
              refine W.widen (k := 0) (n := 0) (Nat.le_of_ble_eq_true rfl) (Nat.le_of_ble_eq_true rfl) ?_
              have h_r133 := congrArg Int32.toInt h_u132
              have hz_r133 : r133 = 0 ∨ r133 = 1 := h_u132 ▸ hF144
              have b_r133 := z01 hz_r133
              refine lv_if_ne (tgt := 216) hx hb dX9_closeLine_211 (by decide) (fun c211_145 => ?_) (fun c211_145 => ?_)
              · have c211_145 : ¬ (r133.toInt = 0) := mt (cv_eq rfl (by decide)).mpr c211_145
                refine lv_aload_n hx hb dX9_closeLine_216 rfl (lv_at hl 2 rfl) ?_
                refine va_get (D := (dC, dI)) (ci := 8) (v := .ref a0_34) (C := RX9) (T := TX9) (N := 44) hx hb hts inlX9 hown hK hP 0 rgL13_890e5ad rfl 34 (by decide) (hts (.fieldLink RX9 63 "ClosedUntilModel" "years" "[I") qw_516) (fun _ h9 => h9) rfl dX9_closeLine_217 ?_
                refine lv_iconst (v := 3) hx hb dX9_closeLine_220 (by decide) ?_
                refine lv_iload_n hx hb dX9_closeLine_221 rfl (lv_at hl 1 rfl) ?_
                refine lv_imul hx hb dX9_closeLine_222 ?_
                refine lv_topi (fun x146 e_x146 => ?_)
                try have e_x146 := ti_mul e_x146 (show (3 : Int32).toInt = 3 by decide) rfl (by omega)
                refine lv_iload_n hx hb dX9_closeLine_223 rfl (lv_at hl 0 rfl) ?_
                refine lv_iadd hx hb dX9_closeLine_224 ?_
                refine lv_topi (fun x147 e_x147 => ?_)
                try have e_x147 := ti_add e_x147 rfl rfl (by omega)
                refine lv_aload_n hx hb dX9_closeLine_225 rfl (lv_at hl 2 rfl) ?_
                refine va_get (D := (dC, dI)) (ci := 8) (v := .int za0_14_141) (C := RX9) (T := TX9) (N := 44) hx hb hts inlX9 hown hK hP 0 rgL13_890e5ad rfl 14 (by decide) (hts (.fieldLink RX9 243 "ClosedUntilModel" "numberHere" "I") qw_475) (fun _ h9 => h9) rfl dX9_closeLine_226 ?_
                refine va_iast hx hb hK hP hD hS 11 10 rgL13_cc99607 rgT12_1025113 (vinI (by omega) (by omega)) dX9_closeLine_229 (fun H locs hP9 hD9 hS9 => ?_)
                obtain ⟨y148, e_y148⟩ : ∃ y, (upd w184_11 x147.toNatClampNeg za0_14_141) = y := ⟨_, rfl⟩
                clear hP hD hS
                obtain ⟨hP, hD⟩ := rgS13_353ab7d (e := (a0_34, .inl (a0_34_c, 72, .inl y148))) hP9 hD9 (congrArg (fun z9 => (((a0_34, .inl (a0_34_c, 72, .inl z9)) : Nat × va_E))) e_y148)
                have hS := hS9; clear hP9 hD9 hS9
                obtain ⟨x149, e_x149⟩ : ∃ y : Int32, y = l184_2 + 1 := ⟨_, rfl⟩
                refine lv_iinc (v := x149) (lv' := [(2, .int x149), (1, .int x3), (0, .ref a0)]) hx hb dX9_closeLine_230 hl (k := 0) rfl (by rw [e_x149]; rfl) (by decide) rfl (fun ls hl => ?_)
                try have e_x149 := ti_add e_x149 rfl (show (1 : Int32).toInt = 1 by decide) (by omega)
                refine lv_goto (tgt := 184) hx hb dX9_closeLine_233 (by decide) ?_
                exact ih184 ((2147483647 - x149.toInt).toNat) _ _ _ (by omega) ⟨x149, za0_7_134, za0_8_135, za0_9_136, za0_10_137, za0_11_138, za0_12_139, za0_13_140, za0_14_141, y148, rfl, (by omega), (by omega), (by omega), lv_sub hl [0, 1, 2] rfl, hP, hD, hS⟩
              · have c211_145 : r133.toInt = 0 := (cv_eq rfl (by decide)).mp c211_145
                refine lv_iconst (v := 0) hx hb dX9_closeLine_214 (by decide) ?_
                have qc0 : (0 : Int32).toInt = 0 := by decide
                refine W.widen (k := 0) (n := 0) (Nat.le_of_ble_eq_true rfl) (Nat.le_of_ble_eq_true rfl) ?_
                have hP9 := hP
                have hD9 := hD
                have hK9 := (rgK12_8728a0f hK)
                have hf9_0 : (0 ≤ za0_7_134.toInt ∧ za0_7_134.toInt ≤ 1000) := by omega
                have hf9_1 : (0 ≤ za0_8_135.toInt ∧ za0_8_135.toInt ≤ 1000) := by omega
                have hf9_2 : ((-1) ≤ za0_37_106.toInt ∧ za0_37_106.toInt ≤ 23) := by omega
                have hf9_3 : vr 0 12 a0_21_f := h_a0_21_f
                have hf9_4 : ((0 : Int32) = 0 ∨ (0 : Int32) = 1) := (by decide)
                have hf9_5 : ((0 : Int32).toInt = 1 → (a0_21_f a0_17.toNatClampNeg).toInt = (a0_21_f a0_17.toNatClampNeg).toInt + 1) := fun q => absurd q (by decide)
                have hf9_6 : (KP 1 a0_21_f a0_21_f) := KP.rf
                have hf9_7 : (KP 12 a0_32_f y78) := KP.upd e_y78 (kI (by omega))
                have hf9_8 : (KP 12 a0_33_f y113) := KP.upd e_y113 (kI (by omega))
                have hf9_9 : (WOk y78 y113 12 (a0_21_f a0_17.toNatClampNeg).toInt) := hwo1
                exact W.zret (v := 0) hx hb hr rfl (fun t ht hW => ⟨⟨0, 0, rfl, rfl, za0_7_134, za0_8_135, za0_9_136, za0_10_137, za0_11_138, za0_12_139, za0_13_140, za0_14_141, a0_15, a0_16, za0_37_106, a0_21_f, y78, y113, w184_11, y114, hf9_0, hf9_1, hf9_2, hf9_3, hf9_4, hf9_5, hf9_6, hf9_7, hf9_8, hf9_9, atB ht hP9, va_K.moved hW.alike hK9, hD9⟩, hS.F ht⟩) hS.2.2 dX9_closeLine_215
          · have c126_112 : r98.toInt = 0 := (cv_eq rfl (by decide)).mp c126_112
            refine lv_iconst (v := 0) hx hb dX9_closeLine_129 (by decide) ?_
            have qc0 : (0 : Int32).toInt = 0 := by decide
            refine W.widen (k := 0) (n := 0) (Nat.le_of_ble_eq_true rfl) (Nat.le_of_ble_eq_true rfl) ?_
            have hP9 := hP
            have hD9 := hD
            have hK9 := (rgK12_8728a0f hK)
            have hf9_0 : (0 ≤ za0_7_99.toInt ∧ za0_7_99.toInt ≤ 1000) := by omega
            have hf9_1 : (0 ≤ za0_8_100.toInt ∧ za0_8_100.toInt ≤ 1000) := by omega
            have hf9_2 : ((-1) ≤ za0_37_106.toInt ∧ za0_37_106.toInt ≤ 23) := by omega
            have hf9_3 : vr 0 12 a0_21_f := h_a0_21_f
            have hf9_4 : ((0 : Int32) = 0 ∨ (0 : Int32) = 1) := (by decide)
            have hf9_5 : ((0 : Int32).toInt = 1 → (a0_21_f a0_17.toNatClampNeg).toInt = (a0_21_f a0_17.toNatClampNeg).toInt + 1) := fun q => absurd q (by decide)
            have hf9_6 : (KP 1 a0_21_f a0_21_f) := KP.rf
            have hf9_7 : (KP 12 a0_32_f y78) := KP.upd e_y78 (kI (by omega))
            have hf9_8 : (KP 12 a0_33_f a0_33_f) := KP.rf
            have hf9_9 : (WOk y78 a0_33_f 12 (a0_21_f a0_17.toNatClampNeg).toInt) := hwo1
            exact W.zret (v := 0) hx hb hr rfl (fun t ht hW => ⟨⟨0, 0, rfl, rfl, za0_7_99, za0_8_100, za0_9_101, za0_10_102, za0_11_103, za0_12_104, za0_13_105, a0_14, a0_15, a0_16, za0_37_106, a0_21_f, y78, a0_33_f, a0_34_f, a0_35_f, hf9_0, hf9_1, hf9_2, hf9_3, hf9_4, hf9_5, hf9_6, hf9_7, hf9_8, hf9_9, atB ht hP9, va_K.moved hW.alike hK9, hD9⟩, hS.F ht⟩) hS.2.2 dX9_closeLine_130
        · have c93_86 : r81.toInt = 0 := (cv_eq rfl (by decide)).mp c93_86
          refine lv_iconst (v := 0) hx hb dX9_closeLine_96 (by decide) ?_
          have qc0 : (0 : Int32).toInt = 0 := by decide
          refine W.widen (k := 0) (n := 0) (Nat.le_of_ble_eq_true rfl) (Nat.le_of_ble_eq_true rfl) ?_
          have hP9 := hP
          have hD9 := hD
          have hK9 := (rgK12_8728a0f hK)
          have hf9_0 : (0 ≤ a0_7.toInt ∧ a0_7.toInt ≤ 1000) := by omega
          have hf9_1 : (0 ≤ a0_8.toInt ∧ a0_8.toInt ≤ 1000) := by omega
          have hf9_2 : ((-1) ≤ a0_37.toInt ∧ a0_37.toInt ≤ 23) := by omega
          have hf9_3 : vr 0 12 a0_21_f := h_a0_21_f
          have hf9_4 : ((0 : Int32) = 0 ∨ (0 : Int32) = 1) := (by decide)
          have hf9_5 : ((0 : Int32).toInt = 1 → (a0_21_f a0_17.toNatClampNeg).toInt = (a0_21_f a0_17.toNatClampNeg).toInt + 1) := fun q => absurd q (by decide)
          have hf9_6 : (KP 1 a0_21_f a0_21_f) := KP.rf
          have hf9_7 : (KP 12 a0_32_f y78) := KP.upd e_y78 (kI (by omega))
          have hf9_8 : (KP 12 a0_33_f a0_33_f) := KP.rf
          have hf9_9 : (WOk y78 a0_33_f 12 (a0_21_f a0_17.toNatClampNeg).toInt) := hwo1
          exact W.zret (v := 0) hx hb hr rfl (fun t ht hW => ⟨⟨0, 0, rfl, rfl, a0_7, a0_8, a0_9, a0_10, a0_11, za0_12_82, za0_13_83, a0_14, a0_15, a0_16, a0_37, a0_21_f, y78, a0_33_f, a0_34_f, a0_35_f, hf9_0, hf9_1, hf9_2, hf9_3, hf9_4, hf9_5, hf9_6, hf9_7, hf9_8, hf9_9, atB ht hP9, va_K.moved hW.alike hK9, hD9⟩, hS.F ht⟩) hS.2.2 dX9_closeLine_97
    · have c42_7 : ¬ (r6.toInt = 0) := mt (cv_eq rfl (by decide)).mpr c42_7
      refine lv_iconst (v := 1) hx hb dX9_closeLine_45 (by decide) ?_
      refine lv_goto (tgt := 63) hx hb dX9_closeLine_46 (by decide) ?_
      refine va_iast hx hb hK hP hD hS 9 8 rgL13_1206a9c rgT12_51c22ba (vinI (by omega) (by omega)) dX9_closeLine_63 (fun H locs hP9 hD9 hS9 => ?_)
      obtain ⟨y150, e_y150⟩ : ∃ y, (upd a0_32_f x3.toNatClampNeg (1)) = y := ⟨_, rfl⟩
      clear hP hD hS
      obtain ⟨hP, hD⟩ := rgS13_b3ba14e (e := (a0_32, .inl (a0_32_c, 24, .inl y150))) hP9 hD9 (congrArg (fun z9 => (((a0_32, .inl (a0_32_c, 24, .inl z9)) : Nat × va_E))) e_y150)
      have hS := hS9; clear hP9 hD9 hS9
      have hwo1 := WOk.keepA hwo e_y150 (by omega) (by omega)
      have hs1 : y150 x3.toNatClampNeg = 1 := upd_eq e_y150
      have qcs1 : (1 : Int32).toInt = 1 := by decide
      refine lv_aload_n hx hb dX9_closeLine_64 rfl (lv_at hl 1 rfl) ?_
      refine lv_aload_n hx hb dX9_closeLine_65 rfl (lv_at hl 1 rfl) ?_
      refine va_get (D := (dC, dI)) (ci := 8) (v := .ref a0_32) (C := RX9) (T := TX9) (N := 44) hx hb hts inlX9 hown hK hP 0 rgL13_890e5ad rfl 32 (by decide) (hts (.fieldLink RX9 57 "ClosedUntilModel" "sort" "[I") qw_507) (fun _ h9 => h9) rfl dX9_closeLine_66 ?_
      refine lv_iload_n hx hb dX9_closeLine_69 rfl (lv_at hl 0 rfl) ?_
      refine va_iald hx hb hK hP 9 8 rgL13_1206a9c rgT12_51c22ba (vinI (by omega) (by omega)) dX9_closeLine_70 ?_
      refine cst (v := 1) (upd_eq e_y150) ?_
      refine lv_iconst (v := 3) hx hb dX9_closeLine_71 (by decide) ?_
      refine lv_icmp_ne (tgt := 84) hx hb dX9_closeLine_72 (by decide) (fun c72_151 => ?_) (fun c72_151 => by exfalso; exact absurd c72_151 (by decide))
      refine lv_iconst (v := 1) hx hb dX9_closeLine_84 (by decide) ?_
      refine lv_goto (tgt := 89) hx hb dX9_closeLine_85 (by decide) ?_
      refine lv_iconst (v := 1) hx hb dX9_closeLine_89 (by decide) ?_
      have qc1 : (1 : Int32).toInt = 1 := by decide
      have hPc := (rgP13_c385d03 hP)
      have hKc := (rgK12_8728a0f hK)
      have hDc := (rgD13_9e851cf hD)
      have hFc := freeW hDc hS hA
      refine va_calli (va_runV (As := [.int 1, .int 1]) (rest := []) ⟨hx, hb, hml, hown, hts⟩ (k_X9_must l dC dI g H.size (a0) (1) (1) (a0_0) (a0_1) (a0_2) (a0_3) (a0_4) (a0_5) (a0_6) (a0_7) (a0_8) (a0_9) (a0_10) (a0_11) (a0_12) (a0_13) (a0_14) (a0_15) (a0_16) (a0_17) (a0_18) (a0_19) (a0_20) (a0_21) (a0_22) (a0_23) (a0_24) (a0_25) (a0_26) (a0_27) (a0_28) (a0_29) (a0_30) (a0_31) (a0_32) (a0_33) (a0_34) (a0_35) (a0_36) (a0_37) (a0_38) (a0_39) (a0_40) (a0_41) (a0_42) (a0_43) (by omega) (by omega) (by omega) (by omega) (by omega) (by omega) (by omega) (by omega)) (cwV 2 hts (gwV qw_472 qw_473 qw_474 qw_386 qw_471) rfl rfl rfl (by decide +kernel) ⟨Nat.le_of_ble_eq_true rfl, Nat.le_of_ble_eq_true rfl⟩) ⟨fun a U g9 mk q => ⟨q.1, q.2.1, q.2.2.1, va_K.moved (u := U) (U := U.calling g9 mk a) (Vm.Alike.refl U.vm) q.2.2.2.1, q.2.2.2.2.1, Ev.bl q.2.2.2.2.2⟩, va_recv hK hP (ci := 8) (q0 := 0) rfl rgL13_890e5ad, fun U hU hW => ⟨rfl, by rw [hU], atB hU hPc, va_K.moved hW.alike hKc, hDc.weaken (fun _ _ _ _ => trivial), hE.go hS hFc hU hW⟩⟩ rfl rfl hl.1 rfl (lv_room (Nat.le_of_ble_eq_true rfl)) dX9_closeLine_90 ⟨Nat.le_of_ble_eq_true rfl, Nat.le_of_ble_eq_true rfl⟩) hS (fun q _ h => hFc q h) hFc (fun r153 u152 t H1 locs ht hvm h_u152 hB hz1 hk1 hS => ?_)
      obtain ⟨za0_12_154, za0_13_155, hF156, hF157, hP1, hK1, hD1⟩ := hB
      have hK1 := va_K.moved hvm.symm hK1
      have hJ9 := rgJ13_5034f5f hP hD hk1 hFc (atH ht hP1) hD1
      clear hP hD hPc hKc hDc hFc hP1 hD1 hk1 hz1
      obtain ⟨hP, hD⟩ := hJ9
      clear hK1
      generalize H1 = H at hP hS ⊢
      refine W.widen (k := 0) (n := 0) (Nat.le_of_ble_eq_true rfl) (Nat.le_of_ble_eq_true rfl) ?_
      have h_r153 := congrArg Int32.toInt h_u152
      have hz_r153 : r153 = 0 ∨ r153 = 1 := h_u152 ▸ hF156
      have b_r153 := z01 hz_r153
      refine lv_if_ne (tgt := 98) hx hb dX9_closeLine_93 (by decide) (fun c93_158 => ?_) (fun c93_158 => ?_)
      · have c93_158 : ¬ (r153.toInt = 0) := mt (cv_eq rfl (by decide)).mpr c93_158
        refine lv_aload_n hx hb dX9_closeLine_98 rfl (lv_at hl 1 rfl) ?_
        have hPc := (rgP13_e9f0d34 hP)
        have hKc := (rgK12_2fc2b8d hK)
        have hDc := (rgD13_097655f hD)
        have hFc := freeW hDc hS hA
        refine va_callv (va_runV (As := []) (rest := []) ⟨hx, hb, hml, hown, hts⟩ (k_X9_steps l dC dI g H.size (a0) (a0_0) (a0_1) (a0_2) (a0_3) (a0_4) (a0_5) (a0_6) (a0_7) (a0_8) (a0_9) (a0_10) (a0_11) (za0_12_154) (za0_13_155) (a0_14) (a0_15) (a0_16) (a0_17) (a0_18) (a0_19) (a0_20) (a0_21) (a0_22) (a0_23) (a0_24) (a0_25) (a0_26) (a0_27) (a0_28) (a0_29) (a0_30) (a0_31) (a0_32) (a0_33) (a0_34) (a0_35) (a0_36) (a0_37) (a0_38) (a0_39) (a0_40) (a0_41) (a0_42) (a0_43) (a0_4_c) (a0_4_f) (by omega) (by omega) (by omega) (by omega) (by omega) (by omega) (by omega)) (cwV 0 hts (gwV qw_468 qw_469 qw_470 qw_386 qw_467) rfl rfl rfl (by decide +kernel) ⟨Nat.le_of_ble_eq_true rfl, Nat.le_of_ble_eq_true rfl⟩) ⟨fun a U g9 mk q => ⟨q.1, q.2.1, q.2.2.1, va_K.moved (u := U) (U := U.calling g9 mk a) (Vm.Alike.refl U.vm) q.2.2.2.1, q.2.2.2.2.1, Ev.bl q.2.2.2.2.2⟩, va_recv hK hP (ci := 8) (q0 := 0) rfl rgL13_890e5ad, fun U hU hW => ⟨rfl, by rw [hU], atB hU hPc, va_K.moved hW.alike hKc, hDc.weaken (fun _ _ _ _ => trivial), hE.go hS hFc hU hW⟩⟩ rfl rfl hl.1 rfl (lv_room (Nat.le_of_ble_eq_true rfl)) dX9_closeLine_99 ⟨Nat.le_of_ble_eq_true rfl, Nat.le_of_ble_eq_true rfl⟩) hS (fun q _ h => hFc q h) hFc (fun u159 t H1 locs ht hvm h_u159 hB hz1 hk1 hS => ?_)
        obtain ⟨za0_7_161, za0_8_162, za0_9_163, za0_10_164, za0_11_165, hF166, hF167, hP1, hK1, hD1⟩ := hB
        have hK1 := va_K.moved hvm.symm hK1
        have hJ9 := rgJ13_d718ff5 hP hD hk1 hFc (atH ht hP1) hD1
        clear hP hD hPc hKc hDc hFc hP1 hD1 hk1 hz1
        obtain ⟨hP, hD⟩ := hJ9
        clear hK1
        generalize H1 = H at hP hS ⊢
        refine W.widen (k := 0) (n := 0) (Nat.le_of_ble_eq_true rfl) (Nat.le_of_ble_eq_true rfl) ?_
        refine lv_aload_n hx hb dX9_closeLine_102 rfl (lv_at hl 1 rfl) ?_
        refine lv_aload_n hx hb dX9_closeLine_103 rfl (lv_at hl 1 rfl) ?_
        refine va_get (D := (dC, dI)) (ci := 8) (v := .ref a0_32) (C := RX9) (T := TX9) (N := 44) hx hb hts inlX9 hown hK hP 0 rgL13_890e5ad rfl 32 (by decide) (hts (.fieldLink RX9 57 "ClosedUntilModel" "sort" "[I") qw_507) (fun _ h9 => h9) rfl dX9_closeLine_104 ?_
        refine lv_iload_n hx hb dX9_closeLine_107 rfl (lv_at hl 0 rfl) ?_
        refine va_iald hx hb hK hP 9 8 rgL13_1206a9c rgT12_51c22ba (vinI (by omega) (by omega)) dX9_closeLine_108 ?_
        refine cst (v := 1) (upd_eq e_y150) ?_
        refine lv_iconst (v := 3) hx hb dX9_closeLine_109 (by decide) ?_
        refine lv_icmp_ne (tgt := 117) hx hb dX9_closeLine_110 (by decide) (fun c110_168 => ?_) (fun c110_168 => by exfalso; exact absurd c110_168 (by decide))
        refine lv_aload_n hx hb dX9_closeLine_117 rfl (lv_at hl 1 rfl) ?_
        refine va_get (D := (dC, dI)) (ci := 8) (v := .ref a0_32) (C := RX9) (T := TX9) (N := 44) hx hb hts inlX9 hown hK hP 0 rgL13_890e5ad rfl 32 (by decide) (hts (.fieldLink RX9 57 "ClosedUntilModel" "sort" "[I") qw_507) (fun _ h9 => h9) rfl dX9_closeLine_118 ?_
        refine lv_iload_n hx hb dX9_closeLine_121 rfl (lv_at hl 0 rfl) ?_
        refine va_iald hx hb hK hP 9 8 rgL13_1206a9c rgT12_51c22ba (vinI (by omega) (by omega)) dX9_closeLine_122 ?_
        refine cst (v := 1) (upd_eq e_y150) ?_
        have qc1 : (1 : Int32).toInt = 1 := by decide
        have hPc := (rgP13_1660a73 hP)
        have hKc := (rgK12_63d2448 hK)
        have hDc := (rgD13_3fa11c2 hD)
        have hFc := freeW hDc hS hA
        refine va_calli (va_runV (As := [.int 1]) (rest := []) ⟨hx, hb, hml, hown, hts⟩ (k_X9_takesTold l dC dI g H.size (a0) (1) (a0_0) (a0_1) (a0_2) (a0_3) (a0_4) (a0_5) (a0_6) (za0_7_161) (za0_8_162) (za0_9_163) (za0_10_164) (za0_11_165) (za0_12_154) (za0_13_155) (a0_14) (a0_15) (a0_16) (a0_17) (a0_18) (a0_19) (a0_20) (a0_21) (a0_22) (a0_23) (a0_24) (a0_25) (a0_26) (a0_27) (a0_28) (a0_29) (a0_30) (a0_31) (a0_32) (a0_33) (a0_34) (a0_35) (a0_36) (a0_37) (a0_38) (a0_39) (a0_40) (a0_41) (a0_42) (a0_43) (a0_4_c) (a0_4_f) (a0_18_c) (a0_18_f) (a0_19_c) (a0_19_f) (a0_20_c) (a0_20_f) (a0_22_c) (a0_22_f) (a0_25_c) (a0_25_f) (a0_27_c) (a0_27_f) (by omega) (by omega) (by omega) (by omega) (by omega) (by omega) (by omega) h_a0_18_f h_a0_19_f h_a0_20_f) (cwV 1 hts (gwV qw_573 qw_574 qw_575 qw_386 qw_572) rfl rfl rfl (by decide +kernel) ⟨Nat.le_of_ble_eq_true rfl, Nat.le_of_ble_eq_true rfl⟩) ⟨fun a U g9 mk q => ⟨q.1, q.2.1, q.2.2.1, va_K.moved (u := U) (U := U.calling g9 mk a) (Vm.Alike.refl U.vm) q.2.2.2.1, q.2.2.2.2.1, Ev.bl q.2.2.2.2.2⟩, va_recv hK hP (ci := 8) (q0 := 0) rfl rgL13_890e5ad, fun U hU hW => ⟨rfl, by rw [hU], atB hU hPc, va_K.moved hW.alike hKc, hDc.weaken (fun _ _ _ _ => trivial), hE.go hS hFc hU hW⟩⟩ rfl rfl hl.1 rfl (lv_room (Nat.le_of_ble_eq_true rfl)) dX9_closeLine_123 ⟨Nat.le_of_ble_eq_true rfl, Nat.le_of_ble_eq_true rfl⟩) hS (fun q _ h => hFc q h) hFc (fun r170 u169 t H1 locs ht hvm h_u169 hB hz1 hk1 hS => ?_)
        obtain ⟨za0_7_171, za0_8_172, za0_9_173, za0_10_174, za0_11_175, za0_12_176, za0_13_177, za0_37_178, hF179, hF180, hF181, hF182, hF183, hP1, hK1, hD1⟩ := hB
        have hK1 := va_K.moved hvm.symm hK1
        have hJ9 := rgJ13_b84a6dc hP hD hk1 hFc (atH ht hP1) hD1
        clear hP hD hPc hKc hDc hFc hP1 hD1 hk1 hz1
        obtain ⟨hP, hD⟩ := hJ9
        clear hK1
        generalize H1 = H at hP hS ⊢
        refine W.widen (k := 0) (n := 0) (Nat.le_of_ble_eq_true rfl) (Nat.le_of_ble_eq_true rfl) ?_
        have h_r170 := congrArg Int32.toInt h_u169
        have hz_r170 : r170 = 0 ∨ r170 = 1 := h_u169 ▸ hF182
        have b_r170 := z01 hz_r170
        refine lv_if_ne (tgt := 131) hx hb dX9_closeLine_126 (by decide) (fun c126_184 => ?_) (fun c126_184 => ?_)
        · have c126_184 : ¬ (r170.toInt = 0) := mt (cv_eq rfl (by decide)).mpr c126_184
          refine lv_aload_n hx hb dX9_closeLine_131 rfl (lv_at hl 1 rfl) ?_
          refine va_get (D := (dC, dI)) (ci := 8) (v := .ref a0_33) (C := RX9) (T := TX9) (N := 44) hx hb hts inlX9 hown hK hP 0 rgL13_890e5ad rfl 33 (by decide) (hts (.fieldLink RX9 60 "ClosedUntilModel" "whom" "[I") qw_508) (fun _ h9 => h9) rfl dX9_closeLine_132 ?_
          refine lv_iload_n hx hb dX9_closeLine_135 rfl (lv_at hl 0 rfl) ?_
          refine lv_aload_n hx hb dX9_closeLine_136 rfl (lv_at hl 1 rfl) ?_
          refine va_get (D := (dC, dI)) (ci := 8) (v := .int za0_37_178) (C := RX9) (T := TX9) (N := 44) hx hb hts inlX9 hown hK hP 0 rgL13_890e5ad rfl 37 (by decide) (hts (.fieldLink RX9 274 "ClosedUntilModel" "foundHere" "I") qw_499) (fun _ h9 => h9) rfl dX9_closeLine_137 ?_
          refine va_iast hx hb hK hP hD hS 10 9 rgL13_e69bf83 rgT12_e433926 (vinI (by omega) (by omega)) dX9_closeLine_140 (fun H locs hP9 hD9 hS9 => ?_)
          obtain ⟨y185, e_y185⟩ : ∃ y, (upd a0_33_f x3.toNatClampNeg za0_37_178) = y := ⟨_, rfl⟩
          clear hP hD hS
          obtain ⟨hP, hD⟩ := rgS13_ab58875 (e := (a0_33, .inl (a0_33_c, 24, .inl y185))) hP9 hD9 (congrArg (fun z9 => (((a0_33, .inl (a0_33_c, 24, .inl z9)) : Nat × va_E))) e_y185)
          have hS := hS9; clear hP9 hD9 hS9
          have hwo1 := WOk.keepB hwo1 e_y185 (by omega) (by omega)
          have hw1 := upd_eq e_y185
          refine lv_aload_n hx hb dX9_closeLine_141 rfl (lv_at hl 1 rfl) ?_
          refine va_get (D := (dC, dI)) (ci := 8) (v := .ref a0_35) (C := RX9) (T := TX9) (N := 44) hx hb hts inlX9 hown hK hP 0 rgL13_890e5ad rfl 35 (by decide) (hts (.fieldLink RX9 66 "ClosedUntilModel" "isWhole" "[Z") qw_522) (fun _ h9 => h9) rfl dX9_closeLine_142 ?_
          refine lv_iload_n hx hb dX9_closeLine_145 rfl (lv_at hl 0 rfl) ?_
          refine lv_iconst (v := 0) hx hb dX9_closeLine_146 (by decide) ?_
          refine va_zast hx hb hK hP hD hS 12 11 rgL13_551ea76 rgT12_e4ce31b (vinI (by omega) (by omega)) dX9_closeLine_147 (fun H locs hP9 hD9 hS9 => ?_)
          obtain ⟨y186, e_y186⟩ : ∃ y, (upd a0_35_f x3.toNatClampNeg (vp_nar .boolean (0))) = y := ⟨_, rfl⟩
          clear hP hD hS
          obtain ⟨hP, hD⟩ := rgS13_979e4b8 (e := (a0_35, .inl (a0_35_c, 24, .inl y186))) hP9 hD9 (congrArg (fun z9 => (((a0_35, .inl (a0_35_c, 24, .inl z9)) : Nat × va_E))) e_y186)
          have hS := hS9; clear hP9 hD9 hS9
          refine lv_aload_n hx hb dX9_closeLine_148 rfl (lv_at hl 1 rfl) ?_
          refine va_get (D := (dC, dI)) (ci := 8) (v := .ref a0_32) (C := RX9) (T := TX9) (N := 44) hx hb hts inlX9 hown hK hP 0 rgL13_890e5ad rfl 32 (by decide) (hts (.fieldLink RX9 57 "ClosedUntilModel" "sort" "[I") qw_507) (fun _ h9 => h9) rfl dX9_closeLine_149 ?_
          refine lv_iload_n hx hb dX9_closeLine_152 rfl (lv_at hl 0 rfl) ?_
          refine va_iald hx hb hK hP 9 8 rgL13_1206a9c rgT12_51c22ba (vinI (by omega) (by omega)) dX9_closeLine_153 ?_
          refine cst (v := 1) (upd_eq e_y150) ?_
          refine lv_iconst (v := 3) hx hb dX9_closeLine_154 (by decide) ?_
          refine lv_icmp_ne (tgt := 182) hx hb dX9_closeLine_155 (by decide) (fun c155_187 => ?_) (fun c155_187 => by exfalso; exact absurd c155_187 (by decide))
          refine lv_iconst (v := 0) hx hb dX9_closeLine_182 (by decide) ?_
          refine lv_istore_n (lv' := [(2, .int 0), (1, .int x3), (0, .ref a0)]) hx hb dX9_closeLine_183 rfl hl (by decide) rfl (fun ls hl => ?_)
          have qc0 : (0 : Int32).toInt = 0 := by decide
          refine wloop (fun n H locs ls => ∃ (l184_2 : Int32) (f184_0_7 : Int32) (f184_0_8 : Int32) (f184_0_9 : Int32) (f184_0_10 : Int32) (f184_0_11 : Int64) (f184_0_12 : Int32) (f184_0_13 : Int32) (f184_0_14 : Int32) (w184_11 : Nat → Int32), n = (2147483647 - l184_2.toInt).toNat ∧ ((0 ≤ f184_0_7.toInt ∧ f184_0_7.toInt ≤ 1000)) ∧ ((0 ≤ f184_0_8.toInt ∧ f184_0_8.toInt ≤ 1000)) ∧ (0 ≤ l184_2.toInt) ∧ lv_has ls 3 [(2, .int l184_2), (1, .int x3), (0, .ref a0)] ∧ va_P (dC, dI) vwCl [(a0, .inr (8, [.int a0_0, .int a0_1, .int a0_2, .int a0_3, .ref a0_4, .int a0_5, .int a0_6, .int f184_0_7, .int f184_0_8, .int f184_0_9, .int f184_0_10, .long f184_0_11, .int f184_0_12, .int f184_0_13, .int f184_0_14, .int a0_15, .int a0_16, .int a0_17, .ref a0_18, .ref a0_19, .ref a0_20, .ref a0_21, .ref a0_22, .ref a0_23, .ref a0_24, .ref a0_25, .ref a0_26, .ref a0_27, .ref a0_28, .ref a0_29, .ref a0_30, .ref a0_31, .ref a0_32, .ref a0_33, .ref a0_34, .ref a0_35, .long a0_36, .int za0_37_178, .ref a0_38, .ref a0_39, .int a0_40, .ref a0_41, .ref a0_42, .ref a0_43])), (a0_4, .inl (a0_4_c, 1000, .inl a0_4_f)), (a0_18, .inl (a0_18_c, 2, .inl a0_18_f)), (a0_19, .inl (a0_19_c, 2, .inl a0_19_f)), (a0_20, .inl (a0_20_c, 2, .inl a0_20_f)), (a0_21, .inl (a0_21_c, 2, .inl a0_21_f)), (a0_22, .inl (a0_22_c, 16, .inr (.inl a0_22_f))), (a0_25, .inl (a0_25_c, 8, .inr (.inl a0_25_f))), (a0_27, .inl (a0_27_c, 48, .inr (.inl a0_27_f))), (a0_32, .inl (a0_32_c, 24, .inl y150)), (a0_33, .inl (a0_33_c, 24, .inl y185)), (a0_34, .inl (a0_34_c, 72, .inl w184_11)), (a0_35, .inl (a0_35_c, 24, .inl y186))] H ∧ va_D A [(a0, .inr (8, [.int a0_0, .int a0_1, .int a0_2, .int a0_3, .ref a0_4, .int a0_5, .int a0_6, .int f184_0_7, .int f184_0_8, .int f184_0_9, .int f184_0_10, .long f184_0_11, .int f184_0_12, .int f184_0_13, .int f184_0_14, .int a0_15, .int a0_16, .int a0_17, .ref a0_18, .ref a0_19, .ref a0_20, .ref a0_21, .ref a0_22, .ref a0_23, .ref a0_24, .ref a0_25, .ref a0_26, .ref a0_27, .ref a0_28, .ref a0_29, .ref a0_30, .ref a0_31, .ref a0_32, .ref a0_33, .ref a0_34, .ref a0_35, .long a0_36, .int za0_37_178, .ref a0_38, .ref a0_39, .int a0_40, .ref a0_41, .ref a0_42, .ref a0_43])), (a0_4, .inl (a0_4_c, 1000, .inl a0_4_f)), (a0_18, .inl (a0_18_c, 2, .inl a0_18_f)), (a0_19, .inl (a0_19_c, 2, .inl a0_19_f)), (a0_20, .inl (a0_20_c, 2, .inl a0_20_f)), (a0_21, .inl (a0_21_c, 2, .inl a0_21_f)), (a0_22, .inl (a0_22_c, 16, .inr (.inl a0_22_f))), (a0_25, .inl (a0_25_c, 8, .inr (.inl a0_25_f))), (a0_27, .inl (a0_27_c, 48, .inr (.inl a0_27_f))), (a0_32, .inl (a0_32_c, 24, .inl y150)), (a0_33, .inl (a0_33_c, 24, .inl y185)), (a0_34, .inl (a0_34_c, 72, .inl w184_11)), (a0_35, .inl (a0_35_c, 24, .inl y186))] ∧ va_S A s.heap H locs) ?_ ((2147483647 - (0 : Int32).toInt).toNat) _ _ _ ⟨0, za0_7_171, za0_8_172, za0_9_173, za0_10_174, za0_11_175, za0_12_176, za0_13_177, a0_14, a0_34_f, rfl, (by omega), (by omega), (by omega), lv_sub hl [0, 1, 2] rfl, hP, hD, hS⟩
          intro n184 H locs ls hI ih184
          obtain ⟨l184_2, f184_0_7, f184_0_8, f184_0_9, f184_0_10, f184_0_11, f184_0_12, f184_0_13, f184_0_14, w184_11, hn184, g_f184_0_7, g_f184_0_8, g_l184_2, hl, hP, hD, hS⟩ := hI
          have b_l184_2 := i32b l184_2
          have b_f184_0_7 := i32b f184_0_7
          have b_f184_0_8 := i32b f184_0_8
          have b_f184_0_9 := i32b f184_0_9
          have b_f184_0_10 := i32b f184_0_10
          have b_f184_0_12 := i32b f184_0_12
          have b_f184_0_13 := i32b f184_0_13
          have b_f184_0_14 := i32b f184_0_14
          refine lv_iload_n hx hb dX9_closeLine_184 rfl (lv_at hl 0 rfl) ?_
          refine lv_aload_n hx hb dX9_closeLine_185 rfl (lv_at hl 2 rfl) ?_
          refine va_get (D := (dC, dI)) (ci := 8) (v := .ref a0_32) (C := RX9) (T := TX9) (N := 44) hx hb hts inlX9 hown hK hP 0 rgL13_890e5ad rfl 32 (by decide) (hts (.fieldLink RX9 57 "ClosedUntilModel" "sort" "[I") qw_507) (fun _ h9 => h9) rfl dX9_closeLine_186 ?_
          refine lv_iload_n hx hb dX9_closeLine_189 rfl (lv_at hl 1 rfl) ?_
          refine va_iald hx hb hK hP 9 8 rgL13_1206a9c rgT12_51c22ba (vinI (by omega) (by omega)) dX9_closeLine_190 ?_
          refine cst (v := 1) (upd_eq e_y150) ?_
          refine lv_iconst (v := 1) hx hb dX9_closeLine_191 (by decide) ?_
          refine lv_icmp_ne (tgt := 199) hx hb dX9_closeLine_192 (by decide) (fun c192_188 => by exfalso; exact absurd c192_188 (by decide)) (fun c192_188 => ?_)
          refine lv_iconst (v := 3) hx hb dX9_closeLine_195 (by decide) ?_
          refine lv_goto (tgt := 200) hx hb dX9_closeLine_196 (by decide) ?_
          refine lv_icmp_ge (tgt := 236) hx hb dX9_closeLine_200 (by decide) (fun c200_189 => ?_) (fun c200_189 => ?_)
          · have c200_189 : 3 ≤ l184_2.toInt := (cv_le (by decide) rfl).mp c200_189
            refine lv_aload_n hx hb dX9_closeLine_236 rfl (lv_at hl 2 rfl) ?_
            refine va_get (D := (dC, dI)) (ci := 8) (v := .ref a0_35) (C := RX9) (T := TX9) (N := 44) hx hb hts inlX9 hown hK hP 0 rgL13_890e5ad rfl 35 (by decide) (hts (.fieldLink RX9 66 "ClosedUntilModel" "isWhole" "[Z") qw_522) (fun _ h9 => h9) rfl dX9_closeLine_237 ?_
            refine lv_iload_n hx hb dX9_closeLine_240 rfl (lv_at hl 1 rfl) ?_
            refine lv_aload_n hx hb dX9_closeLine_241 rfl (lv_at hl 2 rfl) ?_
            refine va_ldcS hx hb hown (show vk_R RX9 230 "whole" (g.2.2.2.2.2.1 11) s from hE.2.2.2.2.2.2.2.2.2.2.2.2.2.2.2.2 11 (by decide)) dX9_closeLine_242 ?_
            have hPc := (rgP13_e9f0d34 hP)
            have hKc := (rgK12_2fc2b8d hK)
            have hDc := (rgD13_097655f hD)
            have hFc := freeW hDc hS hA
            refine va_calli (va_runV (As := [.ref (g.2.2.2.2.2.1 11)]) (rest := [.int x3, .ref a0_35]) ⟨hx, hb, hml, hown, hts⟩ (k_X9_takes l dC dI g H.size (a0) (11) (a0_0) (a0_1) (a0_2) (a0_3) (a0_4) (a0_5) (a0_6) (f184_0_7) (f184_0_8) (f184_0_9) (f184_0_10) (f184_0_11) (f184_0_12) (f184_0_13) (f184_0_14) (a0_15) (a0_16) (a0_17) (a0_18) (a0_19) (a0_20) (a0_21) (a0_22) (a0_23) (a0_24) (a0_25) (a0_26) (a0_27) (a0_28) (a0_29) (a0_30) (a0_31) (a0_32) (a0_33) (a0_34) (a0_35) (a0_36) (za0_37_178) (a0_38) (a0_39) (a0_40) (a0_41) (a0_42) (a0_43) (a0_4_c) (a0_4_f) (by omega) (by omega) (by omega) (by omega) (by omega) (by omega) (by omega) (by first | assumption | decide)) (cwV 1 hts (gwV qw_560 qw_561 qw_562 qw_386 qw_559) rfl rfl rfl (by decide +kernel) ⟨Nat.le_of_ble_eq_true rfl, Nat.le_of_ble_eq_true rfl⟩) ⟨fun a U g9 mk q => ⟨q.1, q.2.1, q.2.2.1, va_K.moved (u := U) (U := U.calling g9 mk a) (Vm.Alike.refl U.vm) q.2.2.2.1, q.2.2.2.2.1, Ev.bl q.2.2.2.2.2⟩, va_recv hK hP (ci := 8) (q0 := 0) rfl rgL13_890e5ad, fun U hU hW => ⟨rfl, by rw [hU], atB hU hPc, va_K.moved hW.alike hKc, hDc.weaken (fun _ _ _ _ => trivial), hE.go hS hFc hU hW⟩⟩ rfl rfl hl.1 rfl (lv_room (Nat.le_of_ble_eq_true rfl)) dX9_closeLine_244 ⟨Nat.le_of_ble_eq_true rfl, Nat.le_of_ble_eq_true rfl⟩) hS (fun q _ h => hFc q h) hFc (fun r191 u190 t H1 locs ht hvm h_u190 hB hz1 hk1 hS => ?_)
            obtain ⟨za0_7_192, za0_8_193, za0_9_194, za0_10_195, za0_11_196, hF197, hF198, hF199, hP1, hK1, hD1⟩ := hB
            have hK1 := va_K.moved hvm.symm hK1
            have hJ9 := rgJ13_d718ff5 hP hD hk1 hFc (atH ht hP1) hD1
            clear hP hD hPc hKc hDc hFc hP1 hD1 hk1 hz1
            obtain ⟨hP, hD⟩ := hJ9
            clear hK1
            generalize H1 = H at hP hS ⊢
            refine W.widen (k := 0) (n := 0) (Nat.le_of_ble_eq_true rfl) (Nat.le_of_ble_eq_true rfl) ?_
            have h_r191 := congrArg Int32.toInt h_u190
            have hz_r191 : r191 = 0 ∨ r191 = 1 := h_u190 ▸ hF199
            have b_r191 := z01 hz_r191
            refine va_zast hx hb hK hP hD hS 12 11 rgL13_551ea76 rgT12_e4ce31b (vinI (by omega) (by omega)) dX9_closeLine_247 (fun H locs hP9 hD9 hS9 => ?_)
            obtain ⟨y200, e_y200⟩ : ∃ y, (upd y186 x3.toNatClampNeg (vp_nar .boolean r191)) = y := ⟨_, rfl⟩
            clear hP hD hS
            obtain ⟨hP, hD⟩ := rgS13_979e4b8 (e := (a0_35, .inl (a0_35_c, 24, .inl y200))) hP9 hD9 (congrArg (fun z9 => (((a0_35, .inl (a0_35_c, 24, .inl z9)) : Nat × va_E))) e_y200)
            have hS := hS9; clear hP9 hD9 hS9
            refine lv_aload_n hx hb dX9_closeLine_248 rfl (lv_at hl 2 rfl) ?_
            refine va_get (D := (dC, dI)) (ci := 8) (v := .ref a0_21) (C := RX9) (T := TX9) (N := 44) hx hb hts inlX9 hown hK hP 0 rgL13_890e5ad rfl 21 (by decide) (hts (.fieldLink RX9 23 "ClosedUntilModel" "closures" "[I") qw_501) (fun _ h9 => h9) rfl dX9_closeLine_249 ?_
            refine lv_aload_n hx hb dX9_closeLine_252 rfl (lv_at hl 2 rfl) ?_
            refine va_get (D := (dC, dI)) (ci := 8) (v := .int a0_17) (C := RX9) (T := TX9) (N := 44) hx hb hts inlX9 hown hK hP 0 rgL13_890e5ad rfl 17 (by decide) (hts (.fieldLink RX9 256 "ClosedUntilModel" "bench" "I") qw_435) (fun _ h9 => h9) rfl dX9_closeLine_253 ?_
            refine lv_dup2_11 hx hb dX9_closeLine_256 rfl rfl ?_
            refine va_iald hx hb hK hP 5 4 rgL13_e4c0870 rgT12_c3ae75f (vinI (by omega) (by omega)) dX9_closeLine_257 ?_
            refine lv_topi (fun x201 e_x201 => ?_)
            have q_x201 := congrArg Int32.toInt e_x201
            have b_x201 : 0 ≤ x201.toInt ∧ x201.toInt ≤ 12 := vr_at (lo := 0) (hi := 12) (f := a0_21_f) h_a0_21_f e_x201
            refine lv_iconst (v := 1) hx hb dX9_closeLine_258 (by decide) ?_
            refine lv_iadd hx hb dX9_closeLine_259 ?_
            refine lv_topi (fun x202 e_x202 => ?_)
            try have e_x202 := ti_add e_x202 rfl (show (1 : Int32).toInt = 1 by decide) (by omega)
            refine va_iast hx hb hK hP hD hS 5 4 rgL13_e4c0870 rgT12_c3ae75f (vinI (by omega) (by omega)) dX9_closeLine_260 (fun H locs hP9 hD9 hS9 => ?_)
            obtain ⟨y203, e_y203⟩ : ∃ y, (upd a0_21_f a0_17.toNatClampNeg x202) = y := ⟨_, rfl⟩
            clear hP hD hS
            obtain ⟨hP, hD⟩ := rgS13_82f222c (e := (a0_21, .inl (a0_21_c, 2, .inl y203))) hP9 hD9 (congrArg (fun z9 => (((a0_21, .inl (a0_21_c, 2, .inl z9)) : Nat × va_E))) e_y203)
            have hS := hS9; clear hP9 hD9 hS9
            have b_y203 : vr 0 12 y203 := vr_upd e_y203 h_a0_21_f (by omega)
            refine lv_iconst (v := 1) hx hb dX9_closeLine_261 (by decide) ?_
            have qc1 : (1 : Int32).toInt = 1 := by decide
            refine W.widen (k := 0) (n := 0) (Nat.le_of_ble_eq_true rfl) (Nat.le_of_ble_eq_true rfl) ?_
            have hP9 := hP
            have hD9 := hD
            have hK9 := (rgK12_8728a0f hK)
            have hf9_0 : (0 ≤ za0_7_192.toInt ∧ za0_7_192.toInt ≤ 1000) := by omega
            have hf9_1 : (0 ≤ za0_8_193.toInt ∧ za0_8_193.toInt ≤ 1000) := by omega
            have hf9_2 : ((-1) ≤ za0_37_178.toInt ∧ za0_37_178.toInt ≤ 23) := by omega
            have hf9_3 : vr 0 12 y203 := b_y203
            have hf9_4 : ((1 : Int32) = 0 ∨ (1 : Int32) = 1) := (by decide)
            have hf9_5 : ((1 : Int32).toInt = 1 → (y203 a0_17.toNatClampNeg).toInt = (a0_21_f a0_17.toNatClampNeg).toInt + 1) := fun _ => by rw [upd_eq e_y203]; omega
            have hf9_6 : (KP 1 a0_21_f y203) := KP.upd e_y203 (kI (by omega))
            have hf9_7 : (KP 12 a0_32_f y150) := KP.upd e_y150 (kI (by omega))
            have hf9_8 : (KP 12 a0_33_f y185) := KP.upd e_y185 (kI (by omega))
            have hf9_9 : (WOk y150 y185 12 (y203 a0_17.toNatClampNeg).toInt) := WOk.more hwo1 hs1 hw1 (by omega) (by rw [upd_eq e_y203]; omega) (by omega) (by unfold WQ; omega)
            exact W.zret (v := 1) hx hb hr rfl (fun t ht hW => ⟨⟨1, 1, rfl, rfl, za0_7_192, za0_8_193, za0_9_194, za0_10_195, za0_11_196, f184_0_12, f184_0_13, f184_0_14, a0_15, a0_16, za0_37_178, y203, y150, y185, w184_11, y200, hf9_0, hf9_1, hf9_2, hf9_3, hf9_4, hf9_5, hf9_6, hf9_7, hf9_8, hf9_9, atB ht hP9, va_K.moved hW.alike hK9, hD9⟩, hS.F ht⟩) hS.2.2 dX9_closeLine_262
          · have c200_189 : ¬ (3 ≤ l184_2.toInt) := mt (cv_le (by decide) rfl).mpr c200_189
            refine lv_aload_n hx hb dX9_closeLine_203 rfl (lv_at hl 2 rfl) ?_
            refine lv_iconst (v := 0) hx hb dX9_closeLine_204 (by decide) ?_
            refine lv_sipush (v := 200) hx hb dX9_closeLine_205 (by decide) ?_
            have qc0 : (0 : Int32).toInt = 0 := by decide
            have qc200 : (200 : Int32).toInt = 200 := by decide
            have hPc := (rgP13_e9f0d34 hP)
            have hKc := (rgK12_2fc2b8d hK)
            have hDc := (rgD13_097655f hD)
            have hFc := freeW hDc hS hA
            refine va_calli (va_runV (As := [.int 0, .int 200]) (rest := []) ⟨hx, hb, hml, hown, hts⟩ (k_X9_takesNumber l dC dI g H.size (a0) (0) (200) (a0_0) (a0_1) (a0_2) (a0_3) (a0_4) (a0_5) (a0_6) (f184_0_7) (f184_0_8) (f184_0_9) (f184_0_10) (f184_0_11) (f184_0_12) (f184_0_13) (f184_0_14) (a0_15) (a0_16) (a0_17) (a0_18) (a0_19) (a0_20) (a0_21) (a0_22) (a0_23) (a0_24) (a0_25) (a0_26) (a0_27) (a0_28) (a0_29) (a0_30) (a0_31) (a0_32) (a0_33) (a0_34) (a0_35) (a0_36) (za0_37_178) (a0_38) (a0_39) (a0_40) (a0_41) (a0_42) (a0_43) (a0_4_c) (a0_4_f) (by omega) (by omega) (by omega) (by omega) (by omega) (by omega) (by omega)) (cwV 2 hts (gwV qw_478 qw_479 qw_480 qw_386 qw_477) rfl rfl rfl (by decide +kernel) ⟨Nat.le_of_ble_eq_true rfl, Nat.le_of_ble_eq_true rfl⟩) ⟨fun a U g9 mk q => ⟨q.1, q.2.1, q.2.2.1, va_K.moved (u := U) (U := U.calling g9 mk a) (Vm.Alike.refl U.vm) q.2.2.2.1, q.2.2.2.2.1, Ev.bl q.2.2.2.2.2⟩, va_recv hK hP (ci := 8) (q0 := 0) rfl rgL13_890e5ad, fun U hU hW => ⟨rfl, by rw [hU], atB hU hPc, va_K.moved hW.alike hKc, hDc.weaken (fun _ _ _ _ => trivial), hE.go hS hFc hU hW⟩⟩ rfl rfl hl.1 rfl (lv_room (Nat.le_of_ble_eq_true rfl)) dX9_closeLine_208 ⟨Nat.le_of_ble_eq_true rfl, Nat.le_of_ble_eq_true rfl⟩) hS (fun q _ h => hFc q h) hFc (fun r205 u204 t H1 locs ht hvm h_u204 hB hz1 hk1 hS => ?_)
            obtain ⟨za0_7_206, za0_8_207, za0_9_208, za0_10_209, za0_11_210, za0_12_211, za0_13_212, za0_14_213, hF214, hF215, hF216, hP1, hK1, hD1⟩ := hB
            have hK1 := va_K.moved hvm.symm hK1
            have hJ9 := rgJ13_d718ff5 hP hD hk1 hFc (atH ht hP1) hD1
            clear hP hD hPc hKc hDc hFc hP1 hD1 hk1 hz1
            obtain ⟨hP, hD⟩ := hJ9
            clear hK1
            generalize H1 = H at hP hS ⊢
            refine W.widen (k := 0) (n := 0) (Nat.le_of_ble_eq_true rfl) (Nat.le_of_ble_eq_true rfl) ?_
            have h_r205 := congrArg Int32.toInt h_u204
            have hz_r205 : r205 = 0 ∨ r205 = 1 := h_u204 ▸ hF216
            have b_r205 := z01 hz_r205
            refine lv_if_ne (tgt := 216) hx hb dX9_closeLine_211 (by decide) (fun c211_217 => ?_) (fun c211_217 => ?_)
            · have c211_217 : ¬ (r205.toInt = 0) := mt (cv_eq rfl (by decide)).mpr c211_217
              refine lv_aload_n hx hb dX9_closeLine_216 rfl (lv_at hl 2 rfl) ?_
              refine va_get (D := (dC, dI)) (ci := 8) (v := .ref a0_34) (C := RX9) (T := TX9) (N := 44) hx hb hts inlX9 hown hK hP 0 rgL13_890e5ad rfl 34 (by decide) (hts (.fieldLink RX9 63 "ClosedUntilModel" "years" "[I") qw_516) (fun _ h9 => h9) rfl dX9_closeLine_217 ?_
              refine lv_iconst (v := 3) hx hb dX9_closeLine_220 (by decide) ?_
              refine lv_iload_n hx hb dX9_closeLine_221 rfl (lv_at hl 1 rfl) ?_
              refine lv_imul hx hb dX9_closeLine_222 ?_
              refine lv_topi (fun x218 e_x218 => ?_)
              try have e_x218 := ti_mul e_x218 (show (3 : Int32).toInt = 3 by decide) rfl (by omega)
              refine lv_iload_n hx hb dX9_closeLine_223 rfl (lv_at hl 0 rfl) ?_
              refine lv_iadd hx hb dX9_closeLine_224 ?_
              refine lv_topi (fun x219 e_x219 => ?_)
              try have e_x219 := ti_add e_x219 rfl rfl (by omega)
              refine lv_aload_n hx hb dX9_closeLine_225 rfl (lv_at hl 2 rfl) ?_
              refine va_get (D := (dC, dI)) (ci := 8) (v := .int za0_14_213) (C := RX9) (T := TX9) (N := 44) hx hb hts inlX9 hown hK hP 0 rgL13_890e5ad rfl 14 (by decide) (hts (.fieldLink RX9 243 "ClosedUntilModel" "numberHere" "I") qw_475) (fun _ h9 => h9) rfl dX9_closeLine_226 ?_
              refine va_iast hx hb hK hP hD hS 11 10 rgL13_cc99607 rgT12_1025113 (vinI (by omega) (by omega)) dX9_closeLine_229 (fun H locs hP9 hD9 hS9 => ?_)
              obtain ⟨y220, e_y220⟩ : ∃ y, (upd w184_11 x219.toNatClampNeg za0_14_213) = y := ⟨_, rfl⟩
              clear hP hD hS
              obtain ⟨hP, hD⟩ := rgS13_353ab7d (e := (a0_34, .inl (a0_34_c, 72, .inl y220))) hP9 hD9 (congrArg (fun z9 => (((a0_34, .inl (a0_34_c, 72, .inl z9)) : Nat × va_E))) e_y220)
              have hS := hS9; clear hP9 hD9 hS9
              obtain ⟨x221, e_x221⟩ : ∃ y : Int32, y = l184_2 + 1 := ⟨_, rfl⟩
              refine lv_iinc (v := x221) (lv' := [(2, .int x221), (1, .int x3), (0, .ref a0)]) hx hb dX9_closeLine_230 hl (k := 0) rfl (by rw [e_x221]; rfl) (by decide) rfl (fun ls hl => ?_)
              try have e_x221 := ti_add e_x221 rfl (show (1 : Int32).toInt = 1 by decide) (by omega)
              refine lv_goto (tgt := 184) hx hb dX9_closeLine_233 (by decide) ?_
              exact ih184 ((2147483647 - x221.toInt).toNat) _ _ _ (by omega) ⟨x221, za0_7_206, za0_8_207, za0_9_208, za0_10_209, za0_11_210, za0_12_211, za0_13_212, za0_14_213, y220, rfl, (by omega), (by omega), (by omega), lv_sub hl [0, 1, 2] rfl, hP, hD, hS⟩
            · have c211_217 : r205.toInt = 0 := (cv_eq rfl (by decide)).mp c211_217
              refine lv_iconst (v := 0) hx hb dX9_closeLine_214 (by decide) ?_
              have qc0 : (0 : Int32).toInt = 0 := by decide
              refine W.widen (k := 0) (n := 0) (Nat.le_of_ble_eq_true rfl) (Nat.le_of_ble_eq_true rfl) ?_
              have hP9 := hP
              have hD9 := hD
              have hK9 := (rgK12_8728a0f hK)
              have hf9_0 : (0 ≤ za0_7_206.toInt ∧ za0_7_206.toInt ≤ 1000) := by omega
              have hf9_1 : (0 ≤ za0_8_207.toInt ∧ za0_8_207.toInt ≤ 1000) := by omega
              have hf9_2 : ((-1) ≤ za0_37_178.toInt ∧ za0_37_178.toInt ≤ 23) := by omega
              have hf9_3 : vr 0 12 a0_21_f := h_a0_21_f
              have hf9_4 : ((0 : Int32) = 0 ∨ (0 : Int32) = 1) := (by decide)
              have hf9_5 : ((0 : Int32).toInt = 1 → (a0_21_f a0_17.toNatClampNeg).toInt = (a0_21_f a0_17.toNatClampNeg).toInt + 1) := fun q => absurd q (by decide)
              have hf9_6 : (KP 1 a0_21_f a0_21_f) := KP.rf
              have hf9_7 : (KP 12 a0_32_f y150) := KP.upd e_y150 (kI (by omega))
              have hf9_8 : (KP 12 a0_33_f y185) := KP.upd e_y185 (kI (by omega))
              have hf9_9 : (WOk y150 y185 12 (a0_21_f a0_17.toNatClampNeg).toInt) := hwo1
              exact W.zret (v := 0) hx hb hr rfl (fun t ht hW => ⟨⟨0, 0, rfl, rfl, za0_7_206, za0_8_207, za0_9_208, za0_10_209, za0_11_210, za0_12_211, za0_13_212, za0_14_213, a0_15, a0_16, za0_37_178, a0_21_f, y150, y185, w184_11, y186, hf9_0, hf9_1, hf9_2, hf9_3, hf9_4, hf9_5, hf9_6, hf9_7, hf9_8, hf9_9, atB ht hP9, va_K.moved hW.alike hK9, hD9⟩, hS.F ht⟩) hS.2.2 dX9_closeLine_215
        · have c126_184 : r170.toInt = 0 := (cv_eq rfl (by decide)).mp c126_184
          refine lv_iconst (v := 0) hx hb dX9_closeLine_129 (by decide) ?_
          have qc0 : (0 : Int32).toInt = 0 := by decide
          refine W.widen (k := 0) (n := 0) (Nat.le_of_ble_eq_true rfl) (Nat.le_of_ble_eq_true rfl) ?_
          have hP9 := hP
          have hD9 := hD
          have hK9 := (rgK12_8728a0f hK)
          have hf9_0 : (0 ≤ za0_7_171.toInt ∧ za0_7_171.toInt ≤ 1000) := by omega
          have hf9_1 : (0 ≤ za0_8_172.toInt ∧ za0_8_172.toInt ≤ 1000) := by omega
          have hf9_2 : ((-1) ≤ za0_37_178.toInt ∧ za0_37_178.toInt ≤ 23) := by omega
          have hf9_3 : vr 0 12 a0_21_f := h_a0_21_f
          have hf9_4 : ((0 : Int32) = 0 ∨ (0 : Int32) = 1) := (by decide)
          have hf9_5 : ((0 : Int32).toInt = 1 → (a0_21_f a0_17.toNatClampNeg).toInt = (a0_21_f a0_17.toNatClampNeg).toInt + 1) := fun q => absurd q (by decide)
          have hf9_6 : (KP 1 a0_21_f a0_21_f) := KP.rf
          have hf9_7 : (KP 12 a0_32_f y150) := KP.upd e_y150 (kI (by omega))
          have hf9_8 : (KP 12 a0_33_f a0_33_f) := KP.rf
          have hf9_9 : (WOk y150 a0_33_f 12 (a0_21_f a0_17.toNatClampNeg).toInt) := hwo1
          exact W.zret (v := 0) hx hb hr rfl (fun t ht hW => ⟨⟨0, 0, rfl, rfl, za0_7_171, za0_8_172, za0_9_173, za0_10_174, za0_11_175, za0_12_176, za0_13_177, a0_14, a0_15, a0_16, za0_37_178, a0_21_f, y150, a0_33_f, a0_34_f, a0_35_f, hf9_0, hf9_1, hf9_2, hf9_3, hf9_4, hf9_5, hf9_6, hf9_7, hf9_8, hf9_9, atB ht hP9, va_K.moved hW.alike hK9, hD9⟩, hS.F ht⟩) hS.2.2 dX9_closeLine_130
      · have c93_158 : r153.toInt = 0 := (cv_eq rfl (by decide)).mp c93_158
        refine lv_iconst (v := 0) hx hb dX9_closeLine_96 (by decide) ?_
        have qc0 : (0 : Int32).toInt = 0 := by decide
        refine W.widen (k := 0) (n := 0) (Nat.le_of_ble_eq_true rfl) (Nat.le_of_ble_eq_true rfl) ?_
        have hP9 := hP
        have hD9 := hD
        have hK9 := (rgK12_8728a0f hK)
        have hf9_0 : (0 ≤ a0_7.toInt ∧ a0_7.toInt ≤ 1000) := by omega
        have hf9_1 : (0 ≤ a0_8.toInt ∧ a0_8.toInt ≤ 1000) := by omega
        have hf9_2 : ((-1) ≤ a0_37.toInt ∧ a0_37.toInt ≤ 23) := by omega
        have hf9_3 : vr 0 12 a0_21_f := h_a0_21_f
        have hf9_4 : ((0 : Int32) = 0 ∨ (0 : Int32) = 1) := (by decide)
        have hf9_5 : ((0 : Int32).toInt = 1 → (a0_21_f a0_17.toNatClampNeg).toInt = (a0_21_f a0_17.toNatClampNeg).toInt + 1) := fun q => absurd q (by decide)
        have hf9_6 : (KP 1 a0_21_f a0_21_f) := KP.rf
        have hf9_7 : (KP 12 a0_32_f y150) := KP.upd e_y150 (kI (by omega))
        have hf9_8 : (KP 12 a0_33_f a0_33_f) := KP.rf
        have hf9_9 : (WOk y150 a0_33_f 12 (a0_21_f a0_17.toNatClampNeg).toInt) := hwo1
        exact W.zret (v := 0) hx hb hr rfl (fun t ht hW => ⟨⟨0, 0, rfl, rfl, a0_7, a0_8, a0_9, a0_10, a0_11, za0_12_154, za0_13_155, a0_14, a0_15, a0_16, a0_37, a0_21_f, y150, a0_33_f, a0_34_f, a0_35_f, hf9_0, hf9_1, hf9_2, hf9_3, hf9_4, hf9_5, hf9_6, hf9_7, hf9_8, hf9_9, atB ht hP9, va_K.moved hW.alike hK9, hD9⟩, hS.F ht⟩) hS.2.2 dX9_closeLine_97
  · have c29_5 : ¬ (r4.toInt = 0) := mt (cv_eq rfl (by decide)).mpr c29_5
    refine lv_iconst (v := 0) hx hb dX9_closeLine_32 (by decide) ?_
    refine lv_goto (tgt := 63) hx hb dX9_closeLine_33 (by decide) ?_
    refine va_iast hx hb hK hP hD hS 9 8 rgL13_1206a9c rgT12_51c22ba (vinI (by omega) (by omega)) dX9_closeLine_63 (fun H locs hP9 hD9 hS9 => ?_)
    obtain ⟨y222, e_y222⟩ : ∃ y, (upd a0_32_f x3.toNatClampNeg (0)) = y := ⟨_, rfl⟩
    clear hP hD hS
    obtain ⟨hP, hD⟩ := rgS13_b3ba14e (e := (a0_32, .inl (a0_32_c, 24, .inl y222))) hP9 hD9 (congrArg (fun z9 => (((a0_32, .inl (a0_32_c, 24, .inl z9)) : Nat × va_E))) e_y222)
    have hS := hS9; clear hP9 hD9 hS9
    have hwo1 := WOk.keepA hwo e_y222 (by omega) (by omega)
    have hs1 : y222 x3.toNatClampNeg = 0 := upd_eq e_y222
    have qcs1 : (0 : Int32).toInt = 0 := by decide
    refine lv_aload_n hx hb dX9_closeLine_64 rfl (lv_at hl 1 rfl) ?_
    refine lv_aload_n hx hb dX9_closeLine_65 rfl (lv_at hl 1 rfl) ?_
    refine va_get (D := (dC, dI)) (ci := 8) (v := .ref a0_32) (C := RX9) (T := TX9) (N := 44) hx hb hts inlX9 hown hK hP 0 rgL13_890e5ad rfl 32 (by decide) (hts (.fieldLink RX9 57 "ClosedUntilModel" "sort" "[I") qw_507) (fun _ h9 => h9) rfl dX9_closeLine_66 ?_
    refine lv_iload_n hx hb dX9_closeLine_69 rfl (lv_at hl 0 rfl) ?_
    refine va_iald hx hb hK hP 9 8 rgL13_1206a9c rgT12_51c22ba (vinI (by omega) (by omega)) dX9_closeLine_70 ?_
    refine cst (v := 0) (upd_eq e_y222) ?_
    refine lv_iconst (v := 3) hx hb dX9_closeLine_71 (by decide) ?_
    refine lv_icmp_ne (tgt := 84) hx hb dX9_closeLine_72 (by decide) (fun c72_223 => ?_) (fun c72_223 => by exfalso; exact absurd c72_223 (by decide))
    refine lv_iconst (v := 1) hx hb dX9_closeLine_84 (by decide) ?_
    refine lv_goto (tgt := 89) hx hb dX9_closeLine_85 (by decide) ?_
    refine lv_iconst (v := 1) hx hb dX9_closeLine_89 (by decide) ?_
    have qc1 : (1 : Int32).toInt = 1 := by decide
    have hPc := (rgP13_c385d03 hP)
    have hKc := (rgK12_8728a0f hK)
    have hDc := (rgD13_9e851cf hD)
    have hFc := freeW hDc hS hA
    refine va_calli (va_runV (As := [.int 1, .int 1]) (rest := []) ⟨hx, hb, hml, hown, hts⟩ (k_X9_must l dC dI g H.size (a0) (1) (1) (a0_0) (a0_1) (a0_2) (a0_3) (a0_4) (a0_5) (a0_6) (a0_7) (a0_8) (a0_9) (a0_10) (a0_11) (a0_12) (a0_13) (a0_14) (a0_15) (a0_16) (a0_17) (a0_18) (a0_19) (a0_20) (a0_21) (a0_22) (a0_23) (a0_24) (a0_25) (a0_26) (a0_27) (a0_28) (a0_29) (a0_30) (a0_31) (a0_32) (a0_33) (a0_34) (a0_35) (a0_36) (a0_37) (a0_38) (a0_39) (a0_40) (a0_41) (a0_42) (a0_43) (by omega) (by omega) (by omega) (by omega) (by omega) (by omega) (by omega) (by omega)) (cwV 2 hts (gwV qw_472 qw_473 qw_474 qw_386 qw_471) rfl rfl rfl (by decide +kernel) ⟨Nat.le_of_ble_eq_true rfl, Nat.le_of_ble_eq_true rfl⟩) ⟨fun a U g9 mk q => ⟨q.1, q.2.1, q.2.2.1, va_K.moved (u := U) (U := U.calling g9 mk a) (Vm.Alike.refl U.vm) q.2.2.2.1, q.2.2.2.2.1, Ev.bl q.2.2.2.2.2⟩, va_recv hK hP (ci := 8) (q0 := 0) rfl rgL13_890e5ad, fun U hU hW => ⟨rfl, by rw [hU], atB hU hPc, va_K.moved hW.alike hKc, hDc.weaken (fun _ _ _ _ => trivial), hE.go hS hFc hU hW⟩⟩ rfl rfl hl.1 rfl (lv_room (Nat.le_of_ble_eq_true rfl)) dX9_closeLine_90 ⟨Nat.le_of_ble_eq_true rfl, Nat.le_of_ble_eq_true rfl⟩) hS (fun q _ h => hFc q h) hFc (fun r225 u224 t H1 locs ht hvm h_u224 hB hz1 hk1 hS => ?_)
    obtain ⟨za0_12_226, za0_13_227, hF228, hF229, hP1, hK1, hD1⟩ := hB
    have hK1 := va_K.moved hvm.symm hK1
    have hJ9 := rgJ13_5034f5f hP hD hk1 hFc (atH ht hP1) hD1
    clear hP hD hPc hKc hDc hFc hP1 hD1 hk1 hz1
    obtain ⟨hP, hD⟩ := hJ9
    clear hK1
    generalize H1 = H at hP hS ⊢
    refine W.widen (k := 0) (n := 0) (Nat.le_of_ble_eq_true rfl) (Nat.le_of_ble_eq_true rfl) ?_
    have h_r225 := congrArg Int32.toInt h_u224
    have hz_r225 : r225 = 0 ∨ r225 = 1 := h_u224 ▸ hF228
    have b_r225 := z01 hz_r225
    refine lv_if_ne (tgt := 98) hx hb dX9_closeLine_93 (by decide) (fun c93_230 => ?_) (fun c93_230 => ?_)
    · have c93_230 : ¬ (r225.toInt = 0) := mt (cv_eq rfl (by decide)).mpr c93_230
      refine lv_aload_n hx hb dX9_closeLine_98 rfl (lv_at hl 1 rfl) ?_
      have hPc := (rgP13_e9f0d34 hP)
      have hKc := (rgK12_2fc2b8d hK)
      have hDc := (rgD13_097655f hD)
      have hFc := freeW hDc hS hA
      refine va_callv (va_runV (As := []) (rest := []) ⟨hx, hb, hml, hown, hts⟩ (k_X9_steps l dC dI g H.size (a0) (a0_0) (a0_1) (a0_2) (a0_3) (a0_4) (a0_5) (a0_6) (a0_7) (a0_8) (a0_9) (a0_10) (a0_11) (za0_12_226) (za0_13_227) (a0_14) (a0_15) (a0_16) (a0_17) (a0_18) (a0_19) (a0_20) (a0_21) (a0_22) (a0_23) (a0_24) (a0_25) (a0_26) (a0_27) (a0_28) (a0_29) (a0_30) (a0_31) (a0_32) (a0_33) (a0_34) (a0_35) (a0_36) (a0_37) (a0_38) (a0_39) (a0_40) (a0_41) (a0_42) (a0_43) (a0_4_c) (a0_4_f) (by omega) (by omega) (by omega) (by omega) (by omega) (by omega) (by omega)) (cwV 0 hts (gwV qw_468 qw_469 qw_470 qw_386 qw_467) rfl rfl rfl (by decide +kernel) ⟨Nat.le_of_ble_eq_true rfl, Nat.le_of_ble_eq_true rfl⟩) ⟨fun a U g9 mk q => ⟨q.1, q.2.1, q.2.2.1, va_K.moved (u := U) (U := U.calling g9 mk a) (Vm.Alike.refl U.vm) q.2.2.2.1, q.2.2.2.2.1, Ev.bl q.2.2.2.2.2⟩, va_recv hK hP (ci := 8) (q0 := 0) rfl rgL13_890e5ad, fun U hU hW => ⟨rfl, by rw [hU], atB hU hPc, va_K.moved hW.alike hKc, hDc.weaken (fun _ _ _ _ => trivial), hE.go hS hFc hU hW⟩⟩ rfl rfl hl.1 rfl (lv_room (Nat.le_of_ble_eq_true rfl)) dX9_closeLine_99 ⟨Nat.le_of_ble_eq_true rfl, Nat.le_of_ble_eq_true rfl⟩) hS (fun q _ h => hFc q h) hFc (fun u231 t H1 locs ht hvm h_u231 hB hz1 hk1 hS => ?_)
      obtain ⟨za0_7_233, za0_8_234, za0_9_235, za0_10_236, za0_11_237, hF238, hF239, hP1, hK1, hD1⟩ := hB
      have hK1 := va_K.moved hvm.symm hK1
      have hJ9 := rgJ13_d718ff5 hP hD hk1 hFc (atH ht hP1) hD1
      clear hP hD hPc hKc hDc hFc hP1 hD1 hk1 hz1
      obtain ⟨hP, hD⟩ := hJ9
      clear hK1
      generalize H1 = H at hP hS ⊢
      refine W.widen (k := 0) (n := 0) (Nat.le_of_ble_eq_true rfl) (Nat.le_of_ble_eq_true rfl) ?_
      refine lv_aload_n hx hb dX9_closeLine_102 rfl (lv_at hl 1 rfl) ?_
      refine lv_aload_n hx hb dX9_closeLine_103 rfl (lv_at hl 1 rfl) ?_
      refine va_get (D := (dC, dI)) (ci := 8) (v := .ref a0_32) (C := RX9) (T := TX9) (N := 44) hx hb hts inlX9 hown hK hP 0 rgL13_890e5ad rfl 32 (by decide) (hts (.fieldLink RX9 57 "ClosedUntilModel" "sort" "[I") qw_507) (fun _ h9 => h9) rfl dX9_closeLine_104 ?_
      refine lv_iload_n hx hb dX9_closeLine_107 rfl (lv_at hl 0 rfl) ?_
      refine va_iald hx hb hK hP 9 8 rgL13_1206a9c rgT12_51c22ba (vinI (by omega) (by omega)) dX9_closeLine_108 ?_
      refine cst (v := 0) (upd_eq e_y222) ?_
      refine lv_iconst (v := 3) hx hb dX9_closeLine_109 (by decide) ?_
      refine lv_icmp_ne (tgt := 117) hx hb dX9_closeLine_110 (by decide) (fun c110_240 => ?_) (fun c110_240 => by exfalso; exact absurd c110_240 (by decide))
      refine lv_aload_n hx hb dX9_closeLine_117 rfl (lv_at hl 1 rfl) ?_
      refine va_get (D := (dC, dI)) (ci := 8) (v := .ref a0_32) (C := RX9) (T := TX9) (N := 44) hx hb hts inlX9 hown hK hP 0 rgL13_890e5ad rfl 32 (by decide) (hts (.fieldLink RX9 57 "ClosedUntilModel" "sort" "[I") qw_507) (fun _ h9 => h9) rfl dX9_closeLine_118 ?_
      refine lv_iload_n hx hb dX9_closeLine_121 rfl (lv_at hl 0 rfl) ?_
      refine va_iald hx hb hK hP 9 8 rgL13_1206a9c rgT12_51c22ba (vinI (by omega) (by omega)) dX9_closeLine_122 ?_
      refine cst (v := 0) (upd_eq e_y222) ?_
      have qc0 : (0 : Int32).toInt = 0 := by decide
      have hPc := (rgP13_1660a73 hP)
      have hKc := (rgK12_63d2448 hK)
      have hDc := (rgD13_3fa11c2 hD)
      have hFc := freeW hDc hS hA
      refine va_calli (va_runV (As := [.int 0]) (rest := []) ⟨hx, hb, hml, hown, hts⟩ (k_X9_takesTold l dC dI g H.size (a0) (0) (a0_0) (a0_1) (a0_2) (a0_3) (a0_4) (a0_5) (a0_6) (za0_7_233) (za0_8_234) (za0_9_235) (za0_10_236) (za0_11_237) (za0_12_226) (za0_13_227) (a0_14) (a0_15) (a0_16) (a0_17) (a0_18) (a0_19) (a0_20) (a0_21) (a0_22) (a0_23) (a0_24) (a0_25) (a0_26) (a0_27) (a0_28) (a0_29) (a0_30) (a0_31) (a0_32) (a0_33) (a0_34) (a0_35) (a0_36) (a0_37) (a0_38) (a0_39) (a0_40) (a0_41) (a0_42) (a0_43) (a0_4_c) (a0_4_f) (a0_18_c) (a0_18_f) (a0_19_c) (a0_19_f) (a0_20_c) (a0_20_f) (a0_22_c) (a0_22_f) (a0_25_c) (a0_25_f) (a0_27_c) (a0_27_f) (by omega) (by omega) (by omega) (by omega) (by omega) (by omega) (by omega) h_a0_18_f h_a0_19_f h_a0_20_f) (cwV 1 hts (gwV qw_573 qw_574 qw_575 qw_386 qw_572) rfl rfl rfl (by decide +kernel) ⟨Nat.le_of_ble_eq_true rfl, Nat.le_of_ble_eq_true rfl⟩) ⟨fun a U g9 mk q => ⟨q.1, q.2.1, q.2.2.1, va_K.moved (u := U) (U := U.calling g9 mk a) (Vm.Alike.refl U.vm) q.2.2.2.1, q.2.2.2.2.1, Ev.bl q.2.2.2.2.2⟩, va_recv hK hP (ci := 8) (q0 := 0) rfl rgL13_890e5ad, fun U hU hW => ⟨rfl, by rw [hU], atB hU hPc, va_K.moved hW.alike hKc, hDc.weaken (fun _ _ _ _ => trivial), hE.go hS hFc hU hW⟩⟩ rfl rfl hl.1 rfl (lv_room (Nat.le_of_ble_eq_true rfl)) dX9_closeLine_123 ⟨Nat.le_of_ble_eq_true rfl, Nat.le_of_ble_eq_true rfl⟩) hS (fun q _ h => hFc q h) hFc (fun r242 u241 t H1 locs ht hvm h_u241 hB hz1 hk1 hS => ?_)
      obtain ⟨za0_7_243, za0_8_244, za0_9_245, za0_10_246, za0_11_247, za0_12_248, za0_13_249, za0_37_250, hF251, hF252, hF253, hF254, hF255, hP1, hK1, hD1⟩ := hB
      have hK1 := va_K.moved hvm.symm hK1
      have hJ9 := rgJ13_b84a6dc hP hD hk1 hFc (atH ht hP1) hD1
      clear hP hD hPc hKc hDc hFc hP1 hD1 hk1 hz1
      obtain ⟨hP, hD⟩ := hJ9
      clear hK1
      generalize H1 = H at hP hS ⊢
      refine W.widen (k := 0) (n := 0) (Nat.le_of_ble_eq_true rfl) (Nat.le_of_ble_eq_true rfl) ?_
      have h_r242 := congrArg Int32.toInt h_u241
      have hz_r242 : r242 = 0 ∨ r242 = 1 := h_u241 ▸ hF254
      have b_r242 := z01 hz_r242
      refine lv_if_ne (tgt := 131) hx hb dX9_closeLine_126 (by decide) (fun c126_256 => ?_) (fun c126_256 => ?_)
      · have c126_256 : ¬ (r242.toInt = 0) := mt (cv_eq rfl (by decide)).mpr c126_256
        refine lv_aload_n hx hb dX9_closeLine_131 rfl (lv_at hl 1 rfl) ?_
        refine va_get (D := (dC, dI)) (ci := 8) (v := .ref a0_33) (C := RX9) (T := TX9) (N := 44) hx hb hts inlX9 hown hK hP 0 rgL13_890e5ad rfl 33 (by decide) (hts (.fieldLink RX9 60 "ClosedUntilModel" "whom" "[I") qw_508) (fun _ h9 => h9) rfl dX9_closeLine_132 ?_
        refine lv_iload_n hx hb dX9_closeLine_135 rfl (lv_at hl 0 rfl) ?_
        refine lv_aload_n hx hb dX9_closeLine_136 rfl (lv_at hl 1 rfl) ?_
        refine va_get (D := (dC, dI)) (ci := 8) (v := .int za0_37_250) (C := RX9) (T := TX9) (N := 44) hx hb hts inlX9 hown hK hP 0 rgL13_890e5ad rfl 37 (by decide) (hts (.fieldLink RX9 274 "ClosedUntilModel" "foundHere" "I") qw_499) (fun _ h9 => h9) rfl dX9_closeLine_137 ?_
        refine va_iast hx hb hK hP hD hS 10 9 rgL13_e69bf83 rgT12_e433926 (vinI (by omega) (by omega)) dX9_closeLine_140 (fun H locs hP9 hD9 hS9 => ?_)
        obtain ⟨y257, e_y257⟩ : ∃ y, (upd a0_33_f x3.toNatClampNeg za0_37_250) = y := ⟨_, rfl⟩
        clear hP hD hS
        obtain ⟨hP, hD⟩ := rgS13_ab58875 (e := (a0_33, .inl (a0_33_c, 24, .inl y257))) hP9 hD9 (congrArg (fun z9 => (((a0_33, .inl (a0_33_c, 24, .inl z9)) : Nat × va_E))) e_y257)
        have hS := hS9; clear hP9 hD9 hS9
        have hwo1 := WOk.keepB hwo1 e_y257 (by omega) (by omega)
        have hw1 := upd_eq e_y257
        refine lv_aload_n hx hb dX9_closeLine_141 rfl (lv_at hl 1 rfl) ?_
        refine va_get (D := (dC, dI)) (ci := 8) (v := .ref a0_35) (C := RX9) (T := TX9) (N := 44) hx hb hts inlX9 hown hK hP 0 rgL13_890e5ad rfl 35 (by decide) (hts (.fieldLink RX9 66 "ClosedUntilModel" "isWhole" "[Z") qw_522) (fun _ h9 => h9) rfl dX9_closeLine_142 ?_
        refine lv_iload_n hx hb dX9_closeLine_145 rfl (lv_at hl 0 rfl) ?_
        refine lv_iconst (v := 0) hx hb dX9_closeLine_146 (by decide) ?_
        refine va_zast hx hb hK hP hD hS 12 11 rgL13_551ea76 rgT12_e4ce31b (vinI (by omega) (by omega)) dX9_closeLine_147 (fun H locs hP9 hD9 hS9 => ?_)
        obtain ⟨y258, e_y258⟩ : ∃ y, (upd a0_35_f x3.toNatClampNeg (vp_nar .boolean (0))) = y := ⟨_, rfl⟩
        clear hP hD hS
        obtain ⟨hP, hD⟩ := rgS13_979e4b8 (e := (a0_35, .inl (a0_35_c, 24, .inl y258))) hP9 hD9 (congrArg (fun z9 => (((a0_35, .inl (a0_35_c, 24, .inl z9)) : Nat × va_E))) e_y258)
        have hS := hS9; clear hP9 hD9 hS9
        refine lv_aload_n hx hb dX9_closeLine_148 rfl (lv_at hl 1 rfl) ?_
        refine va_get (D := (dC, dI)) (ci := 8) (v := .ref a0_32) (C := RX9) (T := TX9) (N := 44) hx hb hts inlX9 hown hK hP 0 rgL13_890e5ad rfl 32 (by decide) (hts (.fieldLink RX9 57 "ClosedUntilModel" "sort" "[I") qw_507) (fun _ h9 => h9) rfl dX9_closeLine_149 ?_
        refine lv_iload_n hx hb dX9_closeLine_152 rfl (lv_at hl 0 rfl) ?_
        refine va_iald hx hb hK hP 9 8 rgL13_1206a9c rgT12_51c22ba (vinI (by omega) (by omega)) dX9_closeLine_153 ?_
        refine cst (v := 0) (upd_eq e_y222) ?_
        refine lv_iconst (v := 3) hx hb dX9_closeLine_154 (by decide) ?_
        refine lv_icmp_ne (tgt := 182) hx hb dX9_closeLine_155 (by decide) (fun c155_259 => ?_) (fun c155_259 => by exfalso; exact absurd c155_259 (by decide))
        refine lv_iconst (v := 0) hx hb dX9_closeLine_182 (by decide) ?_
        refine lv_istore_n (lv' := [(2, .int 0), (1, .int x3), (0, .ref a0)]) hx hb dX9_closeLine_183 rfl hl (by decide) rfl (fun ls hl => ?_)
        have qc0 : (0 : Int32).toInt = 0 := by decide
        refine wloop (fun n H locs ls => ∃ (l184_2 : Int32) (f184_0_7 : Int32) (f184_0_8 : Int32) (f184_0_9 : Int32) (f184_0_10 : Int32) (f184_0_11 : Int64) (f184_0_12 : Int32) (f184_0_13 : Int32) (f184_0_14 : Int32) (w184_11 : Nat → Int32), n = (2147483647 - l184_2.toInt).toNat ∧ ((0 ≤ f184_0_7.toInt ∧ f184_0_7.toInt ≤ 1000)) ∧ ((0 ≤ f184_0_8.toInt ∧ f184_0_8.toInt ≤ 1000)) ∧ (0 ≤ l184_2.toInt) ∧ lv_has ls 3 [(2, .int l184_2), (1, .int x3), (0, .ref a0)] ∧ va_P (dC, dI) vwCl [(a0, .inr (8, [.int a0_0, .int a0_1, .int a0_2, .int a0_3, .ref a0_4, .int a0_5, .int a0_6, .int f184_0_7, .int f184_0_8, .int f184_0_9, .int f184_0_10, .long f184_0_11, .int f184_0_12, .int f184_0_13, .int f184_0_14, .int a0_15, .int a0_16, .int a0_17, .ref a0_18, .ref a0_19, .ref a0_20, .ref a0_21, .ref a0_22, .ref a0_23, .ref a0_24, .ref a0_25, .ref a0_26, .ref a0_27, .ref a0_28, .ref a0_29, .ref a0_30, .ref a0_31, .ref a0_32, .ref a0_33, .ref a0_34, .ref a0_35, .long a0_36, .int za0_37_250, .ref a0_38, .ref a0_39, .int a0_40, .ref a0_41, .ref a0_42, .ref a0_43])), (a0_4, .inl (a0_4_c, 1000, .inl a0_4_f)), (a0_18, .inl (a0_18_c, 2, .inl a0_18_f)), (a0_19, .inl (a0_19_c, 2, .inl a0_19_f)), (a0_20, .inl (a0_20_c, 2, .inl a0_20_f)), (a0_21, .inl (a0_21_c, 2, .inl a0_21_f)), (a0_22, .inl (a0_22_c, 16, .inr (.inl a0_22_f))), (a0_25, .inl (a0_25_c, 8, .inr (.inl a0_25_f))), (a0_27, .inl (a0_27_c, 48, .inr (.inl a0_27_f))), (a0_32, .inl (a0_32_c, 24, .inl y222)), (a0_33, .inl (a0_33_c, 24, .inl y257)), (a0_34, .inl (a0_34_c, 72, .inl w184_11)), (a0_35, .inl (a0_35_c, 24, .inl y258))] H ∧ va_D A [(a0, .inr (8, [.int a0_0, .int a0_1, .int a0_2, .int a0_3, .ref a0_4, .int a0_5, .int a0_6, .int f184_0_7, .int f184_0_8, .int f184_0_9, .int f184_0_10, .long f184_0_11, .int f184_0_12, .int f184_0_13, .int f184_0_14, .int a0_15, .int a0_16, .int a0_17, .ref a0_18, .ref a0_19, .ref a0_20, .ref a0_21, .ref a0_22, .ref a0_23, .ref a0_24, .ref a0_25, .ref a0_26, .ref a0_27, .ref a0_28, .ref a0_29, .ref a0_30, .ref a0_31, .ref a0_32, .ref a0_33, .ref a0_34, .ref a0_35, .long a0_36, .int za0_37_250, .ref a0_38, .ref a0_39, .int a0_40, .ref a0_41, .ref a0_42, .ref a0_43])), (a0_4, .inl (a0_4_c, 1000, .inl a0_4_f)), (a0_18, .inl (a0_18_c, 2, .inl a0_18_f)), (a0_19, .inl (a0_19_c, 2, .inl a0_19_f)), (a0_20, .inl (a0_20_c, 2, .inl a0_20_f)), (a0_21, .inl (a0_21_c, 2, .inl a0_21_f)), (a0_22, .inl (a0_22_c, 16, .inr (.inl a0_22_f))), (a0_25, .inl (a0_25_c, 8, .inr (.inl a0_25_f))), (a0_27, .inl (a0_27_c, 48, .inr (.inl a0_27_f))), (a0_32, .inl (a0_32_c, 24, .inl y222)), (a0_33, .inl (a0_33_c, 24, .inl y257)), (a0_34, .inl (a0_34_c, 72, .inl w184_11)), (a0_35, .inl (a0_35_c, 24, .inl y258))] ∧ va_S A s.heap H locs) ?_ ((2147483647 - (0 : Int32).toInt).toNat) _ _ _ ⟨0, za0_7_243, za0_8_244, za0_9_245, za0_10_246, za0_11_247, za0_12_248, za0_13_249, a0_14, a0_34_f, rfl, (by omega), (by omega), (by omega), lv_sub hl [0, 1, 2] rfl, hP, hD, hS⟩
        intro n184 H locs ls hI ih184
        obtain ⟨l184_2, f184_0_7, f184_0_8, f184_0_9, f184_0_10, f184_0_11, f184_0_12, f184_0_13, f184_0_14, w184_11, hn184, g_f184_0_7, g_f184_0_8, g_l184_2, hl, hP, hD, hS⟩ := hI
        have b_l184_2 := i32b l184_2
        have b_f184_0_7 := i32b f184_0_7
        have b_f184_0_8 := i32b f184_0_8
        have b_f184_0_9 := i32b f184_0_9
        have b_f184_0_10 := i32b f184_0_10
        have b_f184_0_12 := i32b f184_0_12
        have b_f184_0_13 := i32b f184_0_13
        have b_f184_0_14 := i32b f184_0_14
        refine lv_iload_n hx hb dX9_closeLine_184 rfl (lv_at hl 0 rfl) ?_
        refine lv_aload_n hx hb dX9_closeLine_185 rfl (lv_at hl 2 rfl) ?_
        refine va_get (D := (dC, dI)) (ci := 8) (v := .ref a0_32) (C := RX9) (T := TX9) (N := 44) hx hb hts inlX9 hown hK hP 0 rgL13_890e5ad rfl 32 (by decide) (hts (.fieldLink RX9 57 "ClosedUntilModel" "sort" "[I") qw_507) (fun _ h9 => h9) rfl dX9_closeLine_186 ?_
        refine lv_iload_n hx hb dX9_closeLine_189 rfl (lv_at hl 1 rfl) ?_
        refine va_iald hx hb hK hP 9 8 rgL13_1206a9c rgT12_51c22ba (vinI (by omega) (by omega)) dX9_closeLine_190 ?_
        refine cst (v := 0) (upd_eq e_y222) ?_
        refine lv_iconst (v := 1) hx hb dX9_closeLine_191 (by decide) ?_
        refine lv_icmp_ne (tgt := 199) hx hb dX9_closeLine_192 (by decide) (fun c192_260 => ?_) (fun c192_260 => by exfalso; exact absurd c192_260 (by decide))
        refine lv_iconst (v := 1) hx hb dX9_closeLine_199 (by decide) ?_
        refine lv_icmp_ge (tgt := 236) hx hb dX9_closeLine_200 (by decide) (fun c200_261 => ?_) (fun c200_261 => ?_)
        · have c200_261 : 1 ≤ l184_2.toInt := (cv_le (by decide) rfl).mp c200_261
          refine lv_aload_n hx hb dX9_closeLine_236 rfl (lv_at hl 2 rfl) ?_
          refine va_get (D := (dC, dI)) (ci := 8) (v := .ref a0_35) (C := RX9) (T := TX9) (N := 44) hx hb hts inlX9 hown hK hP 0 rgL13_890e5ad rfl 35 (by decide) (hts (.fieldLink RX9 66 "ClosedUntilModel" "isWhole" "[Z") qw_522) (fun _ h9 => h9) rfl dX9_closeLine_237 ?_
          refine lv_iload_n hx hb dX9_closeLine_240 rfl (lv_at hl 1 rfl) ?_
          refine lv_aload_n hx hb dX9_closeLine_241 rfl (lv_at hl 2 rfl) ?_
          refine va_ldcS hx hb hown (show vk_R RX9 230 "whole" (g.2.2.2.2.2.1 11) s from hE.2.2.2.2.2.2.2.2.2.2.2.2.2.2.2.2 11 (by decide)) dX9_closeLine_242 ?_
          have hPc := (rgP13_e9f0d34 hP)
          have hKc := (rgK12_2fc2b8d hK)
          have hDc := (rgD13_097655f hD)
          have hFc := freeW hDc hS hA
          refine va_calli (va_runV (As := [.ref (g.2.2.2.2.2.1 11)]) (rest := [.int x3, .ref a0_35]) ⟨hx, hb, hml, hown, hts⟩ (k_X9_takes l dC dI g H.size (a0) (11) (a0_0) (a0_1) (a0_2) (a0_3) (a0_4) (a0_5) (a0_6) (f184_0_7) (f184_0_8) (f184_0_9) (f184_0_10) (f184_0_11) (f184_0_12) (f184_0_13) (f184_0_14) (a0_15) (a0_16) (a0_17) (a0_18) (a0_19) (a0_20) (a0_21) (a0_22) (a0_23) (a0_24) (a0_25) (a0_26) (a0_27) (a0_28) (a0_29) (a0_30) (a0_31) (a0_32) (a0_33) (a0_34) (a0_35) (a0_36) (za0_37_250) (a0_38) (a0_39) (a0_40) (a0_41) (a0_42) (a0_43) (a0_4_c) (a0_4_f) (by omega) (by omega) (by omega) (by omega) (by omega) (by omega) (by omega) (by first | assumption | decide)) (cwV 1 hts (gwV qw_560 qw_561 qw_562 qw_386 qw_559) rfl rfl rfl (by decide +kernel) ⟨Nat.le_of_ble_eq_true rfl, Nat.le_of_ble_eq_true rfl⟩) ⟨fun a U g9 mk q => ⟨q.1, q.2.1, q.2.2.1, va_K.moved (u := U) (U := U.calling g9 mk a) (Vm.Alike.refl U.vm) q.2.2.2.1, q.2.2.2.2.1, Ev.bl q.2.2.2.2.2⟩, va_recv hK hP (ci := 8) (q0 := 0) rfl rgL13_890e5ad, fun U hU hW => ⟨rfl, by rw [hU], atB hU hPc, va_K.moved hW.alike hKc, hDc.weaken (fun _ _ _ _ => trivial), hE.go hS hFc hU hW⟩⟩ rfl rfl hl.1 rfl (lv_room (Nat.le_of_ble_eq_true rfl)) dX9_closeLine_244 ⟨Nat.le_of_ble_eq_true rfl, Nat.le_of_ble_eq_true rfl⟩) hS (fun q _ h => hFc q h) hFc (fun r263 u262 t H1 locs ht hvm h_u262 hB hz1 hk1 hS => ?_)
          obtain ⟨za0_7_264, za0_8_265, za0_9_266, za0_10_267, za0_11_268, hF269, hF270, hF271, hP1, hK1, hD1⟩ := hB
          have hK1 := va_K.moved hvm.symm hK1
          have hJ9 := rgJ13_d718ff5 hP hD hk1 hFc (atH ht hP1) hD1
          clear hP hD hPc hKc hDc hFc hP1 hD1 hk1 hz1
          obtain ⟨hP, hD⟩ := hJ9
          clear hK1
          generalize H1 = H at hP hS ⊢
          refine W.widen (k := 0) (n := 0) (Nat.le_of_ble_eq_true rfl) (Nat.le_of_ble_eq_true rfl) ?_
          have h_r263 := congrArg Int32.toInt h_u262
          have hz_r263 : r263 = 0 ∨ r263 = 1 := h_u262 ▸ hF271
          have b_r263 := z01 hz_r263
          refine va_zast hx hb hK hP hD hS 12 11 rgL13_551ea76 rgT12_e4ce31b (vinI (by omega) (by omega)) dX9_closeLine_247 (fun H locs hP9 hD9 hS9 => ?_)
          obtain ⟨y272, e_y272⟩ : ∃ y, (upd y258 x3.toNatClampNeg (vp_nar .boolean r263)) = y := ⟨_, rfl⟩
          clear hP hD hS
          obtain ⟨hP, hD⟩ := rgS13_979e4b8 (e := (a0_35, .inl (a0_35_c, 24, .inl y272))) hP9 hD9 (congrArg (fun z9 => (((a0_35, .inl (a0_35_c, 24, .inl z9)) : Nat × va_E))) e_y272)
          have hS := hS9; clear hP9 hD9 hS9
          refine lv_aload_n hx hb dX9_closeLine_248 rfl (lv_at hl 2 rfl) ?_
          refine va_get (D := (dC, dI)) (ci := 8) (v := .ref a0_21) (C := RX9) (T := TX9) (N := 44) hx hb hts inlX9 hown hK hP 0 rgL13_890e5ad rfl 21 (by decide) (hts (.fieldLink RX9 23 "ClosedUntilModel" "closures" "[I") qw_501) (fun _ h9 => h9) rfl dX9_closeLine_249 ?_
          refine lv_aload_n hx hb dX9_closeLine_252 rfl (lv_at hl 2 rfl) ?_
          refine va_get (D := (dC, dI)) (ci := 8) (v := .int a0_17) (C := RX9) (T := TX9) (N := 44) hx hb hts inlX9 hown hK hP 0 rgL13_890e5ad rfl 17 (by decide) (hts (.fieldLink RX9 256 "ClosedUntilModel" "bench" "I") qw_435) (fun _ h9 => h9) rfl dX9_closeLine_253 ?_
          refine lv_dup2_11 hx hb dX9_closeLine_256 rfl rfl ?_
          refine va_iald hx hb hK hP 5 4 rgL13_e4c0870 rgT12_c3ae75f (vinI (by omega) (by omega)) dX9_closeLine_257 ?_
          refine lv_topi (fun x273 e_x273 => ?_)
          have q_x273 := congrArg Int32.toInt e_x273
          have b_x273 : 0 ≤ x273.toInt ∧ x273.toInt ≤ 12 := vr_at (lo := 0) (hi := 12) (f := a0_21_f) h_a0_21_f e_x273
          refine lv_iconst (v := 1) hx hb dX9_closeLine_258 (by decide) ?_
          refine lv_iadd hx hb dX9_closeLine_259 ?_
          refine lv_topi (fun x274 e_x274 => ?_)
          try have e_x274 := ti_add e_x274 rfl (show (1 : Int32).toInt = 1 by decide) (by omega)
          refine va_iast hx hb hK hP hD hS 5 4 rgL13_e4c0870 rgT12_c3ae75f (vinI (by omega) (by omega)) dX9_closeLine_260 (fun H locs hP9 hD9 hS9 => ?_)
          obtain ⟨y275, e_y275⟩ : ∃ y, (upd a0_21_f a0_17.toNatClampNeg x274) = y := ⟨_, rfl⟩
          clear hP hD hS
          obtain ⟨hP, hD⟩ := rgS13_82f222c (e := (a0_21, .inl (a0_21_c, 2, .inl y275))) hP9 hD9 (congrArg (fun z9 => (((a0_21, .inl (a0_21_c, 2, .inl z9)) : Nat × va_E))) e_y275)
          have hS := hS9; clear hP9 hD9 hS9
          have b_y275 : vr 0 12 y275 := vr_upd e_y275 h_a0_21_f (by omega)
          refine lv_iconst (v := 1) hx hb dX9_closeLine_261 (by decide) ?_
          have qc1 : (1 : Int32).toInt = 1 := by decide
          refine W.widen (k := 0) (n := 0) (Nat.le_of_ble_eq_true rfl) (Nat.le_of_ble_eq_true rfl) ?_
          have hP9 := hP
          have hD9 := hD
          have hK9 := (rgK12_8728a0f hK)
          have hf9_0 : (0 ≤ za0_7_264.toInt ∧ za0_7_264.toInt ≤ 1000) := by omega
          have hf9_1 : (0 ≤ za0_8_265.toInt ∧ za0_8_265.toInt ≤ 1000) := by omega
          have hf9_2 : ((-1) ≤ za0_37_250.toInt ∧ za0_37_250.toInt ≤ 23) := by omega
          have hf9_3 : vr 0 12 y275 := b_y275
          have hf9_4 : ((1 : Int32) = 0 ∨ (1 : Int32) = 1) := (by decide)
          have hf9_5 : ((1 : Int32).toInt = 1 → (y275 a0_17.toNatClampNeg).toInt = (a0_21_f a0_17.toNatClampNeg).toInt + 1) := fun _ => by rw [upd_eq e_y275]; omega
          have hf9_6 : (KP 1 a0_21_f y275) := KP.upd e_y275 (kI (by omega))
          have hf9_7 : (KP 12 a0_32_f y222) := KP.upd e_y222 (kI (by omega))
          have hf9_8 : (KP 12 a0_33_f y257) := KP.upd e_y257 (kI (by omega))
          have hf9_9 : (WOk y222 y257 12 (y275 a0_17.toNatClampNeg).toInt) := WOk.more hwo1 hs1 hw1 (by omega) (by rw [upd_eq e_y275]; omega) (by omega) (by unfold WQ; omega)
          exact W.zret (v := 1) hx hb hr rfl (fun t ht hW => ⟨⟨1, 1, rfl, rfl, za0_7_264, za0_8_265, za0_9_266, za0_10_267, za0_11_268, f184_0_12, f184_0_13, f184_0_14, a0_15, a0_16, za0_37_250, y275, y222, y257, w184_11, y272, hf9_0, hf9_1, hf9_2, hf9_3, hf9_4, hf9_5, hf9_6, hf9_7, hf9_8, hf9_9, atB ht hP9, va_K.moved hW.alike hK9, hD9⟩, hS.F ht⟩) hS.2.2 dX9_closeLine_262
        · have c200_261 : ¬ (1 ≤ l184_2.toInt) := mt (cv_le (by decide) rfl).mpr c200_261
          refine lv_aload_n hx hb dX9_closeLine_203 rfl (lv_at hl 2 rfl) ?_
          refine lv_iconst (v := 0) hx hb dX9_closeLine_204 (by decide) ?_
          refine lv_sipush (v := 200) hx hb dX9_closeLine_205 (by decide) ?_
          have qc0 : (0 : Int32).toInt = 0 := by decide
          have qc200 : (200 : Int32).toInt = 200 := by decide
          have hPc := (rgP13_e9f0d34 hP)
          have hKc := (rgK12_2fc2b8d hK)
          have hDc := (rgD13_097655f hD)
          have hFc := freeW hDc hS hA
          refine va_calli (va_runV (As := [.int 0, .int 200]) (rest := []) ⟨hx, hb, hml, hown, hts⟩ (k_X9_takesNumber l dC dI g H.size (a0) (0) (200) (a0_0) (a0_1) (a0_2) (a0_3) (a0_4) (a0_5) (a0_6) (f184_0_7) (f184_0_8) (f184_0_9) (f184_0_10) (f184_0_11) (f184_0_12) (f184_0_13) (f184_0_14) (a0_15) (a0_16) (a0_17) (a0_18) (a0_19) (a0_20) (a0_21) (a0_22) (a0_23) (a0_24) (a0_25) (a0_26) (a0_27) (a0_28) (a0_29) (a0_30) (a0_31) (a0_32) (a0_33) (a0_34) (a0_35) (a0_36) (za0_37_250) (a0_38) (a0_39) (a0_40) (a0_41) (a0_42) (a0_43) (a0_4_c) (a0_4_f) (by omega) (by omega) (by omega) (by omega) (by omega) (by omega) (by omega)) (cwV 2 hts (gwV qw_478 qw_479 qw_480 qw_386 qw_477) rfl rfl rfl (by decide +kernel) ⟨Nat.le_of_ble_eq_true rfl, Nat.le_of_ble_eq_true rfl⟩) ⟨fun a U g9 mk q => ⟨q.1, q.2.1, q.2.2.1, va_K.moved (u := U) (U := U.calling g9 mk a) (Vm.Alike.refl U.vm) q.2.2.2.1, q.2.2.2.2.1, Ev.bl q.2.2.2.2.2⟩, va_recv hK hP (ci := 8) (q0 := 0) rfl rgL13_890e5ad, fun U hU hW => ⟨rfl, by rw [hU], atB hU hPc, va_K.moved hW.alike hKc, hDc.weaken (fun _ _ _ _ => trivial), hE.go hS hFc hU hW⟩⟩ rfl rfl hl.1 rfl (lv_room (Nat.le_of_ble_eq_true rfl)) dX9_closeLine_208 ⟨Nat.le_of_ble_eq_true rfl, Nat.le_of_ble_eq_true rfl⟩) hS (fun q _ h => hFc q h) hFc (fun r277 u276 t H1 locs ht hvm h_u276 hB hz1 hk1 hS => ?_)
          obtain ⟨za0_7_278, za0_8_279, za0_9_280, za0_10_281, za0_11_282, za0_12_283, za0_13_284, za0_14_285, hF286, hF287, hF288, hP1, hK1, hD1⟩ := hB
          have hK1 := va_K.moved hvm.symm hK1
          have hJ9 := rgJ13_d718ff5 hP hD hk1 hFc (atH ht hP1) hD1
          clear hP hD hPc hKc hDc hFc hP1 hD1 hk1 hz1
          obtain ⟨hP, hD⟩ := hJ9
          clear hK1
          generalize H1 = H at hP hS ⊢
          refine W.widen (k := 0) (n := 0) (Nat.le_of_ble_eq_true rfl) (Nat.le_of_ble_eq_true rfl) ?_
          have h_r277 := congrArg Int32.toInt h_u276
          have hz_r277 : r277 = 0 ∨ r277 = 1 := h_u276 ▸ hF288
          have b_r277 := z01 hz_r277
          refine lv_if_ne (tgt := 216) hx hb dX9_closeLine_211 (by decide) (fun c211_289 => ?_) (fun c211_289 => ?_)
          · have c211_289 : ¬ (r277.toInt = 0) := mt (cv_eq rfl (by decide)).mpr c211_289
            refine lv_aload_n hx hb dX9_closeLine_216 rfl (lv_at hl 2 rfl) ?_
            refine va_get (D := (dC, dI)) (ci := 8) (v := .ref a0_34) (C := RX9) (T := TX9) (N := 44) hx hb hts inlX9 hown hK hP 0 rgL13_890e5ad rfl 34 (by decide) (hts (.fieldLink RX9 63 "ClosedUntilModel" "years" "[I") qw_516) (fun _ h9 => h9) rfl dX9_closeLine_217 ?_
            refine lv_iconst (v := 3) hx hb dX9_closeLine_220 (by decide) ?_
            refine lv_iload_n hx hb dX9_closeLine_221 rfl (lv_at hl 1 rfl) ?_
            refine lv_imul hx hb dX9_closeLine_222 ?_
            refine lv_topi (fun x290 e_x290 => ?_)
            try have e_x290 := ti_mul e_x290 (show (3 : Int32).toInt = 3 by decide) rfl (by omega)
            refine lv_iload_n hx hb dX9_closeLine_223 rfl (lv_at hl 0 rfl) ?_
            refine lv_iadd hx hb dX9_closeLine_224 ?_
            refine lv_topi (fun x291 e_x291 => ?_)
            try have e_x291 := ti_add e_x291 rfl rfl (by omega)
            refine lv_aload_n hx hb dX9_closeLine_225 rfl (lv_at hl 2 rfl) ?_
            refine va_get (D := (dC, dI)) (ci := 8) (v := .int za0_14_285) (C := RX9) (T := TX9) (N := 44) hx hb hts inlX9 hown hK hP 0 rgL13_890e5ad rfl 14 (by decide) (hts (.fieldLink RX9 243 "ClosedUntilModel" "numberHere" "I") qw_475) (fun _ h9 => h9) rfl dX9_closeLine_226 ?_
            refine va_iast hx hb hK hP hD hS 11 10 rgL13_cc99607 rgT12_1025113 (vinI (by omega) (by omega)) dX9_closeLine_229 (fun H locs hP9 hD9 hS9 => ?_)
            obtain ⟨y292, e_y292⟩ : ∃ y, (upd w184_11 x291.toNatClampNeg za0_14_285) = y := ⟨_, rfl⟩
            clear hP hD hS
            obtain ⟨hP, hD⟩ := rgS13_353ab7d (e := (a0_34, .inl (a0_34_c, 72, .inl y292))) hP9 hD9 (congrArg (fun z9 => (((a0_34, .inl (a0_34_c, 72, .inl z9)) : Nat × va_E))) e_y292)
            have hS := hS9; clear hP9 hD9 hS9
            obtain ⟨x293, e_x293⟩ : ∃ y : Int32, y = l184_2 + 1 := ⟨_, rfl⟩
            refine lv_iinc (v := x293) (lv' := [(2, .int x293), (1, .int x3), (0, .ref a0)]) hx hb dX9_closeLine_230 hl (k := 0) rfl (by rw [e_x293]; rfl) (by decide) rfl (fun ls hl => ?_)
            try have e_x293 := ti_add e_x293 rfl (show (1 : Int32).toInt = 1 by decide) (by omega)
            refine lv_goto (tgt := 184) hx hb dX9_closeLine_233 (by decide) ?_
            exact ih184 ((2147483647 - x293.toInt).toNat) _ _ _ (by omega) ⟨x293, za0_7_278, za0_8_279, za0_9_280, za0_10_281, za0_11_282, za0_12_283, za0_13_284, za0_14_285, y292, rfl, (by omega), (by omega), (by omega), lv_sub hl [0, 1, 2] rfl, hP, hD, hS⟩
          · have c211_289 : r277.toInt = 0 := (cv_eq rfl (by decide)).mp c211_289
            refine lv_iconst (v := 0) hx hb dX9_closeLine_214 (by decide) ?_
            have qc0 : (0 : Int32).toInt = 0 := by decide
            refine W.widen (k := 0) (n := 0) (Nat.le_of_ble_eq_true rfl) (Nat.le_of_ble_eq_true rfl) ?_
            have hP9 := hP
            have hD9 := hD
            have hK9 := (rgK12_8728a0f hK)
            have hf9_0 : (0 ≤ za0_7_278.toInt ∧ za0_7_278.toInt ≤ 1000) := by omega
            have hf9_1 : (0 ≤ za0_8_279.toInt ∧ za0_8_279.toInt ≤ 1000) := by omega
            have hf9_2 : ((-1) ≤ za0_37_250.toInt ∧ za0_37_250.toInt ≤ 23) := by omega
            have hf9_3 : vr 0 12 a0_21_f := h_a0_21_f
            have hf9_4 : ((0 : Int32) = 0 ∨ (0 : Int32) = 1) := (by decide)
            have hf9_5 : ((0 : Int32).toInt = 1 → (a0_21_f a0_17.toNatClampNeg).toInt = (a0_21_f a0_17.toNatClampNeg).toInt + 1) := fun q => absurd q (by decide)
            have hf9_6 : (KP 1 a0_21_f a0_21_f) := KP.rf
            have hf9_7 : (KP 12 a0_32_f y222) := KP.upd e_y222 (kI (by omega))
            have hf9_8 : (KP 12 a0_33_f y257) := KP.upd e_y257 (kI (by omega))
            have hf9_9 : (WOk y222 y257 12 (a0_21_f a0_17.toNatClampNeg).toInt) := hwo1
            exact W.zret (v := 0) hx hb hr rfl (fun t ht hW => ⟨⟨0, 0, rfl, rfl, za0_7_278, za0_8_279, za0_9_280, za0_10_281, za0_11_282, za0_12_283, za0_13_284, za0_14_285, a0_15, a0_16, za0_37_250, a0_21_f, y222, y257, w184_11, y258, hf9_0, hf9_1, hf9_2, hf9_3, hf9_4, hf9_5, hf9_6, hf9_7, hf9_8, hf9_9, atB ht hP9, va_K.moved hW.alike hK9, hD9⟩, hS.F ht⟩) hS.2.2 dX9_closeLine_215
      · have c126_256 : r242.toInt = 0 := (cv_eq rfl (by decide)).mp c126_256
        refine lv_iconst (v := 0) hx hb dX9_closeLine_129 (by decide) ?_
        have qc0 : (0 : Int32).toInt = 0 := by decide
        refine W.widen (k := 0) (n := 0) (Nat.le_of_ble_eq_true rfl) (Nat.le_of_ble_eq_true rfl) ?_
        have hP9 := hP
        have hD9 := hD
        have hK9 := (rgK12_8728a0f hK)
        have hf9_0 : (0 ≤ za0_7_243.toInt ∧ za0_7_243.toInt ≤ 1000) := by omega
        have hf9_1 : (0 ≤ za0_8_244.toInt ∧ za0_8_244.toInt ≤ 1000) := by omega
        have hf9_2 : ((-1) ≤ za0_37_250.toInt ∧ za0_37_250.toInt ≤ 23) := by omega
        have hf9_3 : vr 0 12 a0_21_f := h_a0_21_f
        have hf9_4 : ((0 : Int32) = 0 ∨ (0 : Int32) = 1) := (by decide)
        have hf9_5 : ((0 : Int32).toInt = 1 → (a0_21_f a0_17.toNatClampNeg).toInt = (a0_21_f a0_17.toNatClampNeg).toInt + 1) := fun q => absurd q (by decide)
        have hf9_6 : (KP 1 a0_21_f a0_21_f) := KP.rf
        have hf9_7 : (KP 12 a0_32_f y222) := KP.upd e_y222 (kI (by omega))
        have hf9_8 : (KP 12 a0_33_f a0_33_f) := KP.rf
        have hf9_9 : (WOk y222 a0_33_f 12 (a0_21_f a0_17.toNatClampNeg).toInt) := hwo1
        exact W.zret (v := 0) hx hb hr rfl (fun t ht hW => ⟨⟨0, 0, rfl, rfl, za0_7_243, za0_8_244, za0_9_245, za0_10_246, za0_11_247, za0_12_248, za0_13_249, a0_14, a0_15, a0_16, za0_37_250, a0_21_f, y222, a0_33_f, a0_34_f, a0_35_f, hf9_0, hf9_1, hf9_2, hf9_3, hf9_4, hf9_5, hf9_6, hf9_7, hf9_8, hf9_9, atB ht hP9, va_K.moved hW.alike hK9, hD9⟩, hS.F ht⟩) hS.2.2 dX9_closeLine_130
    · have c93_230 : r225.toInt = 0 := (cv_eq rfl (by decide)).mp c93_230
      refine lv_iconst (v := 0) hx hb dX9_closeLine_96 (by decide) ?_
      have qc0 : (0 : Int32).toInt = 0 := by decide
      refine W.widen (k := 0) (n := 0) (Nat.le_of_ble_eq_true rfl) (Nat.le_of_ble_eq_true rfl) ?_
      have hP9 := hP
      have hD9 := hD
      have hK9 := (rgK12_8728a0f hK)
      have hf9_0 : (0 ≤ a0_7.toInt ∧ a0_7.toInt ≤ 1000) := by omega
      have hf9_1 : (0 ≤ a0_8.toInt ∧ a0_8.toInt ≤ 1000) := by omega
      have hf9_2 : ((-1) ≤ a0_37.toInt ∧ a0_37.toInt ≤ 23) := by omega
      have hf9_3 : vr 0 12 a0_21_f := h_a0_21_f
      have hf9_4 : ((0 : Int32) = 0 ∨ (0 : Int32) = 1) := (by decide)
      have hf9_5 : ((0 : Int32).toInt = 1 → (a0_21_f a0_17.toNatClampNeg).toInt = (a0_21_f a0_17.toNatClampNeg).toInt + 1) := fun q => absurd q (by decide)
      have hf9_6 : (KP 1 a0_21_f a0_21_f) := KP.rf
      have hf9_7 : (KP 12 a0_32_f y222) := KP.upd e_y222 (kI (by omega))
      have hf9_8 : (KP 12 a0_33_f a0_33_f) := KP.rf
      have hf9_9 : (WOk y222 a0_33_f 12 (a0_21_f a0_17.toNatClampNeg).toInt) := hwo1
      exact W.zret (v := 0) hx hb hr rfl (fun t ht hW => ⟨⟨0, 0, rfl, rfl, a0_7, a0_8, a0_9, a0_10, a0_11, za0_12_226, za0_13_227, a0_14, a0_15, a0_16, a0_37, a0_21_f, y222, a0_33_f, a0_34_f, a0_35_f, hf9_0, hf9_1, hf9_2, hf9_3, hf9_4, hf9_5, hf9_6, hf9_7, hf9_8, hf9_9, atB ht hP9, va_K.moved hW.alike hK9, hD9⟩, hS.F ht⟩) hS.2.2 dX9_closeLine_97
