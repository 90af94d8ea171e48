theorem dX5_readPerson_0 : decode cX5_readPerson 0 = .ok (.aload_n 1, 1) := by decide +kernel
theorem dX5_readPerson_1 : decode cX5_readPerson 1 = .ok (.getfield 72, 3) := by decide +kernel
theorem dX5_readPerson_4 : decode cX5_readPerson 4 = .ok (.istore_n 3, 1) := by decide +kernel
theorem dX5_readPerson_5 : decode cX5_readPerson 5 = .ok (.iload_n 3, 1) := by decide +kernel
theorem dX5_readPerson_6 : decode cX5_readPerson 6 = .ok (.bipush 8, 2) := by decide +kernel
theorem dX5_readPerson_8 : decode cX5_readPerson 8 = .ok (.if_icmp .lt 16, 3) := by decide +kernel
theorem dX5_readPerson_11 : decode cX5_readPerson 11 = .ok (.aload_n 0, 1) := by decide +kernel
theorem dX5_readPerson_12 : decode cX5_readPerson 12 = .ok (.iconst 5, 1) := by decide +kernel
theorem dX5_readPerson_13 : decode cX5_readPerson 13 = .ok (.aload_n 0, 1) := by decide +kernel
theorem dX5_readPerson_14 : decode cX5_readPerson 14 = .ok (.getfield 12, 3) := by decide +kernel
theorem dX5_readPerson_17 : decode cX5_readPerson 17 = .ok (.getfield 65, 3) := by decide +kernel
theorem dX5_readPerson_20 : decode cX5_readPerson 20 = .ok (.invokevirtual 68, 3) := by decide +kernel
theorem dX5_readPerson_23 : decode cX5_readPerson 23 = .ok (.return_, 1) := by decide +kernel
theorem dX5_readPerson_24 : decode cX5_readPerson 24 = .ok (.aload_n 0, 1) := by decide +kernel
theorem dX5_readPerson_25 : decode cX5_readPerson 25 = .ok (.getfield 12, 3) := by decide +kernel
theorem dX5_readPerson_28 : decode cX5_readPerson 28 = .ok (.invokevirtual 75, 3) := by decide +kernel
theorem dX5_readPerson_31 : decode cX5_readPerson 31 = .ok (.aload_n 0, 1) := by decide +kernel
theorem dX5_readPerson_32 : decode cX5_readPerson 32 = .ok (.invokevirtual 78, 3) := by decide +kernel
theorem dX5_readPerson_35 : decode cX5_readPerson 35 = .ok (.lstore 4, 2) := by decide +kernel
theorem dX5_readPerson_37 : decode cX5_readPerson 37 = .ok (.iconst (-1), 1) := by decide +kernel
theorem dX5_readPerson_38 : decode cX5_readPerson 38 = .ok (.istore 6, 2) := by decide +kernel
theorem dX5_readPerson_40 : decode cX5_readPerson 40 = .ok (.aload_n 0, 1) := by decide +kernel
theorem dX5_readPerson_41 : decode cX5_readPerson 41 = .ok (.iconst 1, 1) := by decide +kernel
theorem dX5_readPerson_42 : decode cX5_readPerson 42 = .ok (.invokevirtual 82, 3) := by decide +kernel
theorem dX5_readPerson_45 : decode cX5_readPerson 45 = .ok (.ifCond .eq 9, 3) := by decide +kernel
theorem dX5_readPerson_48 : decode cX5_readPerson 48 = .ok (.aload_n 0, 1) := by decide +kernel
theorem dX5_readPerson_49 : decode cX5_readPerson 49 = .ok (.invokevirtual 86, 3) := by decide +kernel
theorem dX5_readPerson_52 : decode cX5_readPerson 52 = .ok (.istore 6, 2) := by decide +kernel
theorem dX5_readPerson_54 : decode cX5_readPerson 54 = .ok (.iconst (-1), 1) := by decide +kernel
theorem dX5_readPerson_55 : decode cX5_readPerson 55 = .ok (.istore 7, 2) := by decide +kernel
theorem dX5_readPerson_57 : decode cX5_readPerson 57 = .ok (.aload_n 0, 1) := by decide +kernel
theorem dX5_readPerson_58 : decode cX5_readPerson 58 = .ok (.iconst 2, 1) := by decide +kernel
theorem dX5_readPerson_59 : decode cX5_readPerson 59 = .ok (.invokevirtual 82, 3) := by decide +kernel
theorem dX5_readPerson_62 : decode cX5_readPerson 62 = .ok (.ifCond .eq 32, 3) := by decide +kernel
theorem dX5_readPerson_65 : decode cX5_readPerson 65 = .ok (.aload_n 0, 1) := by decide +kernel
theorem dX5_readPerson_66 : decode cX5_readPerson 66 = .ok (.getfield 12, 3) := by decide +kernel
theorem dX5_readPerson_69 : decode cX5_readPerson 69 = .ok (.getfield 65, 3) := by decide +kernel
theorem dX5_readPerson_72 : decode cX5_readPerson 72 = .ok (.istore 8, 2) := by decide +kernel
theorem dX5_readPerson_74 : decode cX5_readPerson 74 = .ok (.aload_n 0, 1) := by decide +kernel
theorem dX5_readPerson_75 : decode cX5_readPerson 75 = .ok (.invokevirtual 86, 3) := by decide +kernel
theorem dX5_readPerson_78 : decode cX5_readPerson 78 = .ok (.istore 7, 2) := by decide +kernel
theorem dX5_readPerson_80 : decode cX5_readPerson 80 = .ok (.iload 7, 2) := by decide +kernel
theorem dX5_readPerson_82 : decode cX5_readPerson 82 = .ok (.iload 6, 2) := by decide +kernel
theorem dX5_readPerson_84 : decode cX5_readPerson 84 = .ok (.if_icmp .ge 10, 3) := by decide +kernel
theorem dX5_readPerson_87 : decode cX5_readPerson 87 = .ok (.aload_n 0, 1) := by decide +kernel
theorem dX5_readPerson_88 : decode cX5_readPerson 88 = .ok (.iconst 4, 1) := by decide +kernel
theorem dX5_readPerson_89 : decode cX5_readPerson 89 = .ok (.iload 8, 2) := by decide +kernel
theorem dX5_readPerson_91 : decode cX5_readPerson 91 = .ok (.invokevirtual 68, 3) := by decide +kernel
theorem dX5_readPerson_94 : decode cX5_readPerson 94 = .ok (.aload_n 0, 1) := by decide +kernel
theorem dX5_readPerson_95 : decode cX5_readPerson 95 = .ok (.bipush 14, 2) := by decide +kernel
theorem dX5_readPerson_97 : decode cX5_readPerson 97 = .ok (.invokevirtual 90, 3) := by decide +kernel
theorem dX5_readPerson_100 : decode cX5_readPerson 100 = .ok (.aload_n 0, 1) := by decide +kernel
theorem dX5_readPerson_101 : decode cX5_readPerson 101 = .ok (.getfield 41, 3) := by decide +kernel
theorem dX5_readPerson_104 : decode cX5_readPerson 104 = .ok (.iconst (-1), 1) := by decide +kernel
theorem dX5_readPerson_105 : decode cX5_readPerson 105 = .ok (.if_icmp .ne 37, 3) := by decide +kernel
theorem dX5_readPerson_108 : decode cX5_readPerson 108 = .ok (.aload_n 1, 1) := by decide +kernel
theorem dX5_readPerson_109 : decode cX5_readPerson 109 = .ok (.getfield 94, 3) := by decide +kernel
theorem dX5_readPerson_112 : decode cX5_readPerson 112 = .ok (.iload_n 3, 1) := by decide +kernel
theorem dX5_readPerson_113 : decode cX5_readPerson 113 = .ok (.iload 6, 2) := by decide +kernel
theorem dX5_readPerson_115 : decode cX5_readPerson 115 = .ok (.iastore, 1) := by decide +kernel
theorem dX5_readPerson_116 : decode cX5_readPerson 116 = .ok (.aload_n 2, 1) := by decide +kernel
theorem dX5_readPerson_117 : decode cX5_readPerson 117 = .ok (.getfield 97, 3) := by decide +kernel
theorem dX5_readPerson_120 : decode cX5_readPerson 120 = .ok (.iload_n 3, 1) := by decide +kernel
theorem dX5_readPerson_121 : decode cX5_readPerson 121 = .ok (.iload 7, 2) := by decide +kernel
theorem dX5_readPerson_123 : decode cX5_readPerson 123 = .ok (.iastore, 1) := by decide +kernel
theorem dX5_readPerson_124 : decode cX5_readPerson 124 = .ok (.aload_n 1, 1) := by decide +kernel
theorem dX5_readPerson_125 : decode cX5_readPerson 125 = .ok (.dup, 1) := by decide +kernel
theorem dX5_readPerson_126 : decode cX5_readPerson 126 = .ok (.getfield 72, 3) := by decide +kernel
theorem dX5_readPerson_129 : decode cX5_readPerson 129 = .ok (.iconst 1, 1) := by decide +kernel
theorem dX5_readPerson_130 : decode cX5_readPerson 130 = .ok (.iadd, 1) := by decide +kernel
theorem dX5_readPerson_131 : decode cX5_readPerson 131 = .ok (.putfield 72, 3) := by decide +kernel
theorem dX5_readPerson_134 : decode cX5_readPerson 134 = .ok (.aload_n 0, 1) := by decide +kernel
theorem dX5_readPerson_135 : decode cX5_readPerson 135 = .ok (.lload 4, 2) := by decide +kernel
theorem dX5_readPerson_137 : decode cX5_readPerson 137 = .ok (.iconst 0, 1) := by decide +kernel
theorem dX5_readPerson_138 : decode cX5_readPerson 138 = .ok (.iload_n 3, 1) := by decide +kernel
theorem dX5_readPerson_139 : decode cX5_readPerson 139 = .ok (.invokevirtual 100, 3) := by decide +kernel
theorem dX5_readPerson_142 : decode cX5_readPerson 142 = .ok (.return_, 1) := by decide +kernel
theorem dX5_readDeposit_0 : decode cX5_readDeposit 0 = .ok (.aload_n 1, 1) := by decide +kernel
theorem dX5_readDeposit_1 : decode cX5_readDeposit 1 = .ok (.getfield 104, 3) := by decide +kernel
theorem dX5_readDeposit_4 : decode cX5_readDeposit 4 = .ok (.istore_n 2, 1) := by decide +kernel
theorem dX5_readDeposit_5 : decode cX5_readDeposit 5 = .ok (.iload_n 2, 1) := by decide +kernel
theorem dX5_readDeposit_6 : decode cX5_readDeposit 6 = .ok (.iconst 4, 1) := by decide +kernel
theorem dX5_readDeposit_7 : decode cX5_readDeposit 7 = .ok (.if_icmp .lt 16, 3) := by decide +kernel
theorem dX5_readDeposit_10 : decode cX5_readDeposit 10 = .ok (.aload_n 0, 1) := by decide +kernel
theorem dX5_readDeposit_11 : decode cX5_readDeposit 11 = .ok (.iconst 5, 1) := by decide +kernel
theorem dX5_readDeposit_12 : decode cX5_readDeposit 12 = .ok (.aload_n 0, 1) := by decide +kernel
theorem dX5_readDeposit_13 : decode cX5_readDeposit 13 = .ok (.getfield 12, 3) := by decide +kernel
theorem dX5_readDeposit_16 : decode cX5_readDeposit 16 = .ok (.getfield 65, 3) := by decide +kernel
theorem dX5_readDeposit_19 : decode cX5_readDeposit 19 = .ok (.invokevirtual 68, 3) := by decide +kernel
theorem dX5_readDeposit_22 : decode cX5_readDeposit 22 = .ok (.return_, 1) := by decide +kernel
theorem dX5_readDeposit_23 : decode cX5_readDeposit 23 = .ok (.aload_n 0, 1) := by decide +kernel
theorem dX5_readDeposit_24 : decode cX5_readDeposit 24 = .ok (.getfield 12, 3) := by decide +kernel
theorem dX5_readDeposit_27 : decode cX5_readDeposit 27 = .ok (.invokevirtual 75, 3) := by decide +kernel
theorem dX5_readDeposit_30 : decode cX5_readDeposit 30 = .ok (.aload_n 0, 1) := by decide +kernel
theorem dX5_readDeposit_31 : decode cX5_readDeposit 31 = .ok (.invokevirtual 78, 3) := by decide +kernel
theorem dX5_readDeposit_34 : decode cX5_readDeposit 34 = .ok (.lstore_n 3, 1) := by decide +kernel
theorem dX5_readDeposit_35 : decode cX5_readDeposit 35 = .ok (.aload_n 1, 1) := by decide +kernel
theorem dX5_readDeposit_36 : decode cX5_readDeposit 36 = .ok (.getfield 107, 3) := by decide +kernel
theorem dX5_readDeposit_39 : decode cX5_readDeposit 39 = .ok (.iload_n 2, 1) := by decide +kernel
theorem dX5_readDeposit_40 : decode cX5_readDeposit 40 = .ok (.aload_n 0, 1) := by decide +kernel
theorem dX5_readDeposit_41 : decode cX5_readDeposit 41 = .ok (.invokevirtual 86, 3) := by decide +kernel
theorem dX5_readDeposit_44 : decode cX5_readDeposit 44 = .ok (.iastore, 1) := by decide +kernel
theorem dX5_readDeposit_45 : decode cX5_readDeposit 45 = .ok (.aload_n 0, 1) := by decide +kernel
theorem dX5_readDeposit_46 : decode cX5_readDeposit 46 = .ok (.bipush 14, 2) := by decide +kernel
theorem dX5_readDeposit_48 : decode cX5_readDeposit 48 = .ok (.invokevirtual 90, 3) := by decide +kernel
theorem dX5_readDeposit_51 : decode cX5_readDeposit 51 = .ok (.aload_n 0, 1) := by decide +kernel
theorem dX5_readDeposit_52 : decode cX5_readDeposit 52 = .ok (.getfield 41, 3) := by decide +kernel
theorem dX5_readDeposit_55 : decode cX5_readDeposit 55 = .ok (.iconst (-1), 1) := by decide +kernel
theorem dX5_readDeposit_56 : decode cX5_readDeposit 56 = .ok (.if_icmp .ne 20, 3) := by decide +kernel
theorem dX5_readDeposit_59 : decode cX5_readDeposit 59 = .ok (.aload_n 1, 1) := by decide +kernel
theorem dX5_readDeposit_60 : decode cX5_readDeposit 60 = .ok (.dup, 1) := by decide +kernel
theorem dX5_readDeposit_61 : decode cX5_readDeposit 61 = .ok (.getfield 104, 3) := by decide +kernel
theorem dX5_readDeposit_64 : decode cX5_readDeposit 64 = .ok (.iconst 1, 1) := by decide +kernel
theorem dX5_readDeposit_65 : decode cX5_readDeposit 65 = .ok (.iadd, 1) := by decide +kernel
theorem dX5_readDeposit_66 : decode cX5_readDeposit 66 = .ok (.putfield 104, 3) := by decide +kernel
theorem dX5_readDeposit_69 : decode cX5_readDeposit 69 = .ok (.aload_n 0, 1) := by decide +kernel
theorem dX5_readDeposit_70 : decode cX5_readDeposit 70 = .ok (.lload_n 3, 1) := by decide +kernel
theorem dX5_readDeposit_71 : decode cX5_readDeposit 71 = .ok (.iconst 3, 1) := by decide +kernel
theorem dX5_readDeposit_72 : decode cX5_readDeposit 72 = .ok (.iload_n 2, 1) := by decide +kernel
theorem dX5_readDeposit_73 : decode cX5_readDeposit 73 = .ok (.invokevirtual 100, 3) := by decide +kernel
theorem dX5_readDeposit_76 : decode cX5_readDeposit 76 = .ok (.return_, 1) := by decide +kernel
theorem dX5_readPiece_0 : decode cX5_readPiece 0 = .ok (.aload_n 1, 1) := by decide +kernel
theorem dX5_readPiece_1 : decode cX5_readPiece 1 = .ok (.getfield 110, 3) := by decide +kernel
theorem dX5_readPiece_4 : decode cX5_readPiece 4 = .ok (.istore_n 3, 1) := by decide +kernel
theorem dX5_readPiece_5 : decode cX5_readPiece 5 = .ok (.iload_n 3, 1) := by decide +kernel
theorem dX5_readPiece_6 : decode cX5_readPiece 6 = .ok (.bipush 24, 2) := by decide +kernel
theorem dX5_readPiece_8 : decode cX5_readPiece 8 = .ok (.if_icmp .lt 16, 3) := by decide +kernel
theorem dX5_readPiece_11 : decode cX5_readPiece 11 = .ok (.aload_n 0, 1) := by decide +kernel
theorem dX5_readPiece_12 : decode cX5_readPiece 12 = .ok (.iconst 5, 1) := by decide +kernel
theorem dX5_readPiece_13 : decode cX5_readPiece 13 = .ok (.aload_n 0, 1) := by decide +kernel
theorem dX5_readPiece_14 : decode cX5_readPiece 14 = .ok (.getfield 12, 3) := by decide +kernel
theorem dX5_readPiece_17 : decode cX5_readPiece 17 = .ok (.getfield 65, 3) := by decide +kernel
theorem dX5_readPiece_20 : decode cX5_readPiece 20 = .ok (.invokevirtual 68, 3) := by decide +kernel
theorem dX5_readPiece_23 : decode cX5_readPiece 23 = .ok (.return_, 1) := by decide +kernel
theorem dX5_readPiece_24 : decode cX5_readPiece 24 = .ok (.aload_n 0, 1) := by decide +kernel
theorem dX5_readPiece_25 : decode cX5_readPiece 25 = .ok (.getfield 12, 3) := by decide +kernel
theorem dX5_readPiece_28 : decode cX5_readPiece 28 = .ok (.invokevirtual 75, 3) := by decide +kernel
theorem dX5_readPiece_31 : decode cX5_readPiece 31 = .ok (.aload_n 0, 1) := by decide +kernel
theorem dX5_readPiece_32 : decode cX5_readPiece 32 = .ok (.invokevirtual 78, 3) := by decide +kernel
theorem dX5_readPiece_35 : decode cX5_readPiece 35 = .ok (.lstore 4, 2) := by decide +kernel
theorem dX5_readPiece_37 : decode cX5_readPiece 37 = .ok (.aload_n 2, 1) := by decide +kernel
theorem dX5_readPiece_38 : decode cX5_readPiece 38 = .ok (.getfield 113, 3) := by decide +kernel
theorem dX5_readPiece_41 : decode cX5_readPiece 41 = .ok (.iload_n 3, 1) := by decide +kernel
theorem dX5_readPiece_42 : decode cX5_readPiece 42 = .ok (.aload_n 0, 1) := by decide +kernel
theorem dX5_readPiece_43 : decode cX5_readPiece 43 = .ok (.iconst 5, 1) := by decide +kernel
theorem dX5_readPiece_44 : decode cX5_readPiece 44 = .ok (.invokevirtual 82, 3) := by decide +kernel
theorem dX5_readPiece_47 : decode cX5_readPiece 47 = .ok (.ifCond .eq 11, 3) := by decide +kernel
theorem dX5_readPiece_50 : decode cX5_readPiece 50 = .ok (.aload_n 0, 1) := by decide +kernel
theorem dX5_readPiece_51 : decode cX5_readPiece 51 = .ok (.iconst 4, 1) := by decide +kernel
theorem dX5_readPiece_52 : decode cX5_readPiece 52 = .ok (.invokevirtual 116, 3) := by decide +kernel
theorem dX5_readPiece_55 : decode cX5_readPiece 55 = .ok (.goto 4, 3) := by decide +kernel
theorem dX5_readPiece_58 : decode cX5_readPiece 58 = .ok (.iconst (-1), 1) := by decide +kernel
theorem dX5_readPiece_59 : decode cX5_readPiece 59 = .ok (.iastore, 1) := by decide +kernel
theorem dX5_readPiece_60 : decode cX5_readPiece 60 = .ok (.aload_n 1, 1) := by decide +kernel
theorem dX5_readPiece_61 : decode cX5_readPiece 61 = .ok (.getfield 120, 3) := by decide +kernel
theorem dX5_readPiece_64 : decode cX5_readPiece 64 = .ok (.iload_n 3, 1) := by decide +kernel
theorem dX5_readPiece_65 : decode cX5_readPiece 65 = .ok (.aload_n 0, 1) := by decide +kernel
theorem dX5_readPiece_66 : decode cX5_readPiece 66 = .ok (.invokevirtual 86, 3) := by decide +kernel
theorem dX5_readPiece_69 : decode cX5_readPiece 69 = .ok (.iastore, 1) := by decide +kernel
theorem dX5_readPiece_70 : decode cX5_readPiece 70 = .ok (.aload_n 1, 1) := by decide +kernel
theorem dX5_readPiece_71 : decode cX5_readPiece 71 = .ok (.getfield 123, 3) := by decide +kernel
theorem dX5_readPiece_74 : decode cX5_readPiece 74 = .ok (.iload_n 3, 1) := by decide +kernel
theorem dX5_readPiece_75 : decode cX5_readPiece 75 = .ok (.aload_n 0, 1) := by decide +kernel
theorem dX5_readPiece_76 : decode cX5_readPiece 76 = .ok (.invokevirtual 126, 3) := by decide +kernel
theorem dX5_readPiece_79 : decode cX5_readPiece 79 = .ok (.iastore, 1) := by decide +kernel
theorem dX5_readPiece_80 : decode cX5_readPiece 80 = .ok (.aload_n 1, 1) := by decide +kernel
theorem dX5_readPiece_81 : decode cX5_readPiece 81 = .ok (.getfield 129, 3) := by decide +kernel
theorem dX5_readPiece_84 : decode cX5_readPiece 84 = .ok (.iload_n 3, 1) := by decide +kernel
theorem dX5_readPiece_85 : decode cX5_readPiece 85 = .ok (.aload_n 0, 1) := by decide +kernel
theorem dX5_readPiece_86 : decode cX5_readPiece 86 = .ok (.bipush 7, 2) := by decide +kernel
theorem dX5_readPiece_88 : decode cX5_readPiece 88 = .ok (.invokevirtual 82, 3) := by decide +kernel
theorem dX5_readPiece_91 : decode cX5_readPiece 91 = .ok (.ifCond .eq 11, 3) := by decide +kernel
theorem dX5_readPiece_94 : decode cX5_readPiece 94 = .ok (.aload_n 0, 1) := by decide +kernel
theorem dX5_readPiece_95 : decode cX5_readPiece 95 = .ok (.iconst 3, 1) := by decide +kernel
theorem dX5_readPiece_96 : decode cX5_readPiece 96 = .ok (.invokevirtual 116, 3) := by decide +kernel
theorem dX5_readPiece_99 : decode cX5_readPiece 99 = .ok (.goto 4, 3) := by decide +kernel
theorem dX5_readPiece_102 : decode cX5_readPiece 102 = .ok (.iconst (-1), 1) := by decide +kernel
theorem dX5_readPiece_103 : decode cX5_readPiece 103 = .ok (.iastore, 1) := by decide +kernel
theorem dX5_readPiece_104 : decode cX5_readPiece 104 = .ok (.aload_n 0, 1) := by decide +kernel
theorem dX5_readPiece_105 : decode cX5_readPiece 105 = .ok (.bipush 14, 2) := by decide +kernel
theorem dX5_readPiece_107 : decode cX5_readPiece 107 = .ok (.invokevirtual 90, 3) := by decide +kernel
theorem dX5_readPiece_110 : decode cX5_readPiece 110 = .ok (.aload_n 0, 1) := by decide +kernel
theorem dX5_readPiece_111 : decode cX5_readPiece 111 = .ok (.getfield 41, 3) := by decide +kernel
theorem dX5_readPiece_114 : decode cX5_readPiece 114 = .ok (.iconst (-1), 1) := by decide +kernel
theorem dX5_readPiece_115 : decode cX5_readPiece 115 = .ok (.if_icmp .ne 21, 3) := by decide +kernel
theorem dX5_readPiece_118 : decode cX5_readPiece 118 = .ok (.aload_n 1, 1) := by decide +kernel
theorem dX5_readPiece_119 : decode cX5_readPiece 119 = .ok (.dup, 1) := by decide +kernel
theorem dX5_readPiece_120 : decode cX5_readPiece 120 = .ok (.getfield 110, 3) := by decide +kernel
theorem dX5_readPiece_123 : decode cX5_readPiece 123 = .ok (.iconst 1, 1) := by decide +kernel
theorem dX5_readPiece_124 : decode cX5_readPiece 124 = .ok (.iadd, 1) := by decide +kernel
theorem dX5_readPiece_125 : decode cX5_readPiece 125 = .ok (.putfield 110, 3) := by decide +kernel
theorem dX5_readPiece_128 : decode cX5_readPiece 128 = .ok (.aload_n 0, 1) := by decide +kernel
theorem dX5_readPiece_129 : decode cX5_readPiece 129 = .ok (.lload 4, 2) := by decide +kernel
theorem dX5_readPiece_131 : decode cX5_readPiece 131 = .ok (.iconst 4, 1) := by decide +kernel
theorem dX5_readPiece_132 : decode cX5_readPiece 132 = .ok (.iload_n 3, 1) := by decide +kernel
theorem dX5_readPiece_133 : decode cX5_readPiece 133 = .ok (.invokevirtual 100, 3) := by decide +kernel
theorem dX5_readPiece_136 : decode cX5_readPiece 136 = .ok (.return_, 1) := by decide +kernel
theorem dX6_fill_0 : decode cX6_fill 0 = .ok (.aload_n 0, 1) := by decide +kernel
theorem dX6_fill_1 : decode cX6_fill 1 = .ok (.aload_n 1, 1) := by decide +kernel
theorem dX6_fill_2 : decode cX6_fill 2 = .ok (.getfield 32, 3) := by decide +kernel
theorem dX6_fill_5 : decode cX6_fill 5 = .ok (.putfield 38, 3) := by decide +kernel
theorem dX6_fill_8 : decode cX6_fill 8 = .ok (.aload_n 0, 1) := by decide +kernel
theorem dX6_fill_9 : decode cX6_fill 9 = .ok (.aload_n 1, 1) := by decide +kernel
theorem dX6_fill_10 : decode cX6_fill 10 = .ok (.getfield 39, 3) := by decide +kernel
theorem dX6_fill_13 : decode cX6_fill 13 = .ok (.putfield 42, 3) := by decide +kernel
theorem dX6_fill_16 : decode cX6_fill 16 = .ok (.aload_n 0, 1) := by decide +kernel
theorem dX6_fill_17 : decode cX6_fill 17 = .ok (.aload_n 2, 1) := by decide +kernel
theorem dX6_fill_18 : decode cX6_fill 18 = .ok (.invokevirtual 43, 3) := by decide +kernel
theorem dX6_fill_21 : decode cX6_fill 21 = .ok (.iconst 0, 1) := by decide +kernel
theorem dX6_fill_22 : decode cX6_fill 22 = .ok (.istore_n 3, 1) := by decide +kernel
theorem dX6_fill_23 : decode cX6_fill 23 = .ok (.iload_n 3, 1) := by decide +kernel
theorem dX6_fill_24 : decode cX6_fill 24 = .ok (.aload_n 0, 1) := by decide +kernel
theorem dX6_fill_25 : decode cX6_fill 25 = .ok (.getfield 42, 3) := by decide +kernel
theorem dX6_fill_28 : decode cX6_fill 28 = .ok (.if_icmp .ge 97, 3) := by decide +kernel
theorem dX6_fill_31 : decode cX6_fill 31 = .ok (.iconst 0, 1) := by decide +kernel
theorem dX6_fill_32 : decode cX6_fill 32 = .ok (.istore 4, 2) := by decide +kernel
theorem dX6_fill_34 : decode cX6_fill 34 = .ok (.iload 4, 2) := by decide +kernel
theorem dX6_fill_36 : decode cX6_fill 36 = .ok (.aload_n 0, 1) := by decide +kernel
theorem dX6_fill_37 : decode cX6_fill 37 = .ok (.getfield 38, 3) := by decide +kernel
theorem dX6_fill_40 : decode cX6_fill 40 = .ok (.if_icmp .ge 40, 3) := by decide +kernel
theorem dX6_fill_43 : decode cX6_fill 43 = .ok (.aload_n 0, 1) := by decide +kernel
theorem dX6_fill_44 : decode cX6_fill 44 = .ok (.getfield 20, 3) := by decide +kernel
theorem dX6_fill_47 : decode cX6_fill 47 = .ok (.iload_n 3, 1) := by decide +kernel
theorem dX6_fill_48 : decode cX6_fill 48 = .ok (.aaload, 1) := by decide +kernel
theorem dX6_fill_49 : decode cX6_fill 49 = .ok (.iload 4, 2) := by decide +kernel
theorem dX6_fill_51 : decode cX6_fill 51 = .ok (.aload_n 1, 1) := by decide +kernel
theorem dX6_fill_52 : decode cX6_fill 52 = .ok (.iload_n 3, 1) := by decide +kernel
theorem dX6_fill_53 : decode cX6_fill 53 = .ok (.iload 4, 2) := by decide +kernel
theorem dX6_fill_55 : decode cX6_fill 55 = .ok (.invokevirtual 47, 3) := by decide +kernel
theorem dX6_fill_58 : decode cX6_fill 58 = .ok (.ifCond .eq 14, 3) := by decide +kernel
theorem dX6_fill_61 : decode cX6_fill 61 = .ok (.iload_n 3, 1) := by decide +kernel
theorem dX6_fill_62 : decode cX6_fill 62 = .ok (.iload 4, 2) := by decide +kernel
theorem dX6_fill_64 : decode cX6_fill 64 = .ok (.aload_n 1, 1) := by decide +kernel
theorem dX6_fill_65 : decode cX6_fill 65 = .ok (.aload_n 2, 1) := by decide +kernel
theorem dX6_fill_66 : decode cX6_fill 66 = .ok (.invokestatic 51, 3) := by decide +kernel
theorem dX6_fill_69 : decode cX6_fill 69 = .ok (.goto 4, 3) := by decide +kernel
theorem dX6_fill_72 : decode cX6_fill 72 = .ok (.iconst (-1), 1) := by decide +kernel
theorem dX6_fill_73 : decode cX6_fill 73 = .ok (.iastore, 1) := by decide +kernel
theorem dX6_fill_74 : decode cX6_fill 74 = .ok (.iinc 4 1, 3) := by decide +kernel
theorem dX6_fill_77 : decode cX6_fill 77 = .ok (.goto (-43), 3) := by decide +kernel
theorem dX6_fill_80 : decode cX6_fill 80 = .ok (.iconst 0, 1) := by decide +kernel
theorem dX6_fill_81 : decode cX6_fill 81 = .ok (.istore 4, 2) := by decide +kernel
theorem dX6_fill_83 : decode cX6_fill 83 = .ok (.iload 4, 2) := by decide +kernel
theorem dX6_fill_85 : decode cX6_fill 85 = .ok (.aload_n 0, 1) := by decide +kernel
theorem dX6_fill_86 : decode cX6_fill 86 = .ok (.getfield 38, 3) := by decide +kernel
theorem dX6_fill_89 : decode cX6_fill 89 = .ok (.if_icmp .ge 30, 3) := by decide +kernel
theorem dX6_fill_92 : decode cX6_fill 92 = .ok (.aload_n 0, 1) := by decide +kernel
theorem dX6_fill_93 : decode cX6_fill 93 = .ok (.getfield 23, 3) := by decide +kernel
theorem dX6_fill_96 : decode cX6_fill 96 = .ok (.iload_n 3, 1) := by decide +kernel
theorem dX6_fill_97 : decode cX6_fill 97 = .ok (.aaload, 1) := by decide +kernel
theorem dX6_fill_98 : decode cX6_fill 98 = .ok (.iload 4, 2) := by decide +kernel
theorem dX6_fill_100 : decode cX6_fill 100 = .ok (.iload 4, 2) := by decide +kernel
theorem dX6_fill_102 : decode cX6_fill 102 = .ok (.aload_n 0, 1) := by decide +kernel
theorem dX6_fill_103 : decode cX6_fill 103 = .ok (.getfield 20, 3) := by decide +kernel
theorem dX6_fill_106 : decode cX6_fill 106 = .ok (.iload_n 3, 1) := by decide +kernel
theorem dX6_fill_107 : decode cX6_fill 107 = .ok (.aaload, 1) := by decide +kernel
theorem dX6_fill_108 : decode cX6_fill 108 = .ok (.aload_n 2, 1) := by decide +kernel
theorem dX6_fill_109 : decode cX6_fill 109 = .ok (.invokestatic 55, 3) := by decide +kernel
theorem dX6_fill_112 : decode cX6_fill 112 = .ok (.iastore, 1) := by decide +kernel
theorem dX6_fill_113 : decode cX6_fill 113 = .ok (.iinc 4 1, 3) := by decide +kernel
theorem dX6_fill_116 : decode cX6_fill 116 = .ok (.goto (-33), 3) := by decide +kernel
theorem dX6_fill_119 : decode cX6_fill 119 = .ok (.iinc 3 1, 3) := by decide +kernel
theorem dX6_fill_122 : decode cX6_fill 122 = .ok (.goto (-99), 3) := by decide +kernel
theorem dX6_fill_125 : decode cX6_fill 125 = .ok (.return_, 1) := by decide +kernel
theorem dX6_pieceAt_0 : decode cX6_pieceAt 0 = .ok (.iconst 0, 1) := by decide +kernel
theorem dX6_pieceAt_1 : decode cX6_pieceAt 1 = .ok (.istore_n 3, 1) := by decide +kernel
theorem dX6_pieceAt_2 : decode cX6_pieceAt 2 = .ok (.iload_n 3, 1) := by decide +kernel
theorem dX6_pieceAt_3 : decode cX6_pieceAt 3 = .ok (.aload_n 0, 1) := by decide +kernel
theorem dX6_pieceAt_4 : decode cX6_pieceAt 4 = .ok (.getfield 38, 3) := by decide +kernel
theorem dX6_pieceAt_7 : decode cX6_pieceAt 7 = .ok (.if_icmp .ge 21, 3) := by decide +kernel
theorem dX6_pieceAt_10 : decode cX6_pieceAt 10 = .ok (.aload_n 0, 1) := by decide +kernel
theorem dX6_pieceAt_11 : decode cX6_pieceAt 11 = .ok (.getfield 29, 3) := by decide +kernel
theorem dX6_pieceAt_14 : decode cX6_pieceAt 14 = .ok (.iload_n 3, 1) := by decide +kernel
theorem dX6_pieceAt_15 : decode cX6_pieceAt 15 = .ok (.aload_n 0, 1) := by decide +kernel
theorem dX6_pieceAt_16 : decode cX6_pieceAt 16 = .ok (.iload_n 3, 1) := by decide +kernel
theorem dX6_pieceAt_17 : decode cX6_pieceAt 17 = .ok (.iload_n 2, 1) := by decide +kernel
theorem dX6_pieceAt_18 : decode cX6_pieceAt 18 = .ok (.invokevirtual 140, 3) := by decide +kernel
theorem dX6_pieceAt_21 : decode cX6_pieceAt 21 = .ok (.iastore, 1) := by decide +kernel
theorem dX6_pieceAt_22 : decode cX6_pieceAt 22 = .ok (.iinc 3 1, 3) := by decide +kernel
theorem dX6_pieceAt_25 : decode cX6_pieceAt 25 = .ok (.goto (-23), 3) := by decide +kernel
theorem dX6_pieceAt_28 : decode cX6_pieceAt 28 = .ok (.iconst 0, 1) := by decide +kernel
theorem dX6_pieceAt_29 : decode cX6_pieceAt 29 = .ok (.istore_n 3, 1) := by decide +kernel
theorem dX6_pieceAt_30 : decode cX6_pieceAt 30 = .ok (.iload_n 3, 1) := by decide +kernel
theorem dX6_pieceAt_31 : decode cX6_pieceAt 31 = .ok (.aload_n 0, 1) := by decide +kernel
theorem dX6_pieceAt_32 : decode cX6_pieceAt 32 = .ok (.getfield 38, 3) := by decide +kernel
theorem dX6_pieceAt_35 : decode cX6_pieceAt 35 = .ok (.if_icmp .ge 51, 3) := by decide +kernel
theorem dX6_pieceAt_38 : decode cX6_pieceAt 38 = .ok (.iconst 0, 1) := by decide +kernel
theorem dX6_pieceAt_39 : decode cX6_pieceAt 39 = .ok (.istore 4, 2) := by decide +kernel
theorem dX6_pieceAt_41 : decode cX6_pieceAt 41 = .ok (.iconst 0, 1) := by decide +kernel
theorem dX6_pieceAt_42 : decode cX6_pieceAt 42 = .ok (.istore 5, 2) := by decide +kernel
theorem dX6_pieceAt_44 : decode cX6_pieceAt 44 = .ok (.iload 5, 2) := by decide +kernel
theorem dX6_pieceAt_46 : decode cX6_pieceAt 46 = .ok (.aload_n 0, 1) := by decide +kernel
theorem dX6_pieceAt_47 : decode cX6_pieceAt 47 = .ok (.getfield 38, 3) := by decide +kernel
theorem dX6_pieceAt_50 : decode cX6_pieceAt 50 = .ok (.if_icmp .ge 22, 3) := by decide +kernel
theorem dX6_pieceAt_53 : decode cX6_pieceAt 53 = .ok (.aload_n 0, 1) := by decide +kernel
theorem dX6_pieceAt_54 : decode cX6_pieceAt 54 = .ok (.iload 5, 2) := by decide +kernel
theorem dX6_pieceAt_56 : decode cX6_pieceAt 56 = .ok (.iload_n 3, 1) := by decide +kernel
theorem dX6_pieceAt_57 : decode cX6_pieceAt 57 = .ok (.invokevirtual 143, 3) := by decide +kernel
theorem dX6_pieceAt_60 : decode cX6_pieceAt 60 = .ok (.ifCond .eq 6, 3) := by decide +kernel
theorem dX6_pieceAt_63 : decode cX6_pieceAt 63 = .ok (.iinc 4 1, 3) := by decide +kernel
theorem dX6_pieceAt_66 : decode cX6_pieceAt 66 = .ok (.iinc 5 1, 3) := by decide +kernel
theorem dX6_pieceAt_69 : decode cX6_pieceAt 69 = .ok (.goto (-25), 3) := by decide +kernel
theorem dX6_pieceAt_72 : decode cX6_pieceAt 72 = .ok (.iload 4, 2) := by decide +kernel
theorem dX6_pieceAt_74 : decode cX6_pieceAt 74 = .ok (.iload_n 1, 1) := by decide +kernel
theorem dX6_pieceAt_75 : decode cX6_pieceAt 75 = .ok (.if_icmp .ne 5, 3) := by decide +kernel
theorem dX6_pieceAt_78 : decode cX6_pieceAt 78 = .ok (.iload_n 3, 1) := by decide +kernel
theorem dX6_pieceAt_79 : decode cX6_pieceAt 79 = .ok (.ireturn, 1) := by decide +kernel
theorem dX6_pieceAt_80 : decode cX6_pieceAt 80 = .ok (.iinc 3 1, 3) := by decide +kernel
theorem dX6_pieceAt_83 : decode cX6_pieceAt 83 = .ok (.goto (-53), 3) := by decide +kernel
theorem dX6_pieceAt_86 : decode cX6_pieceAt 86 = .ok (.iconst (-1), 1) := by decide +kernel
theorem dX6_pieceAt_87 : decode cX6_pieceAt 87 = .ok (.ireturn, 1) := by decide +kernel
theorem dX6_bestToLift_0 : decode cX6_bestToLift 0 = .ok (.iconst 0, 1) := by decide +kernel
theorem dX6_bestToLift_1 : decode cX6_bestToLift 1 = .ok (.istore 4, 2) := by decide +kernel
theorem dX6_bestToLift_3 : decode cX6_bestToLift 3 = .ok (.iload 4, 2) := by decide +kernel
theorem dX6_bestToLift_5 : decode cX6_bestToLift 5 = .ok (.aload_n 0, 1) := by decide +kernel
theorem dX6_bestToLift_6 : decode cX6_bestToLift 6 = .ok (.getfield 38, 3) := by decide +kernel
theorem dX6_bestToLift_9 : decode cX6_bestToLift 9 = .ok (.if_icmp .ge 24, 3) := by decide +kernel
theorem dX6_bestToLift_12 : decode cX6_bestToLift 12 = .ok (.aload_n 0, 1) := by decide +kernel
theorem dX6_bestToLift_13 : decode cX6_bestToLift 13 = .ok (.getfield 26, 3) := by decide +kernel
theorem dX6_bestToLift_16 : decode cX6_bestToLift 16 = .ok (.iload 4, 2) := by decide +kernel
theorem dX6_bestToLift_18 : decode cX6_bestToLift 18 = .ok (.aload_n 0, 1) := by decide +kernel
theorem dX6_bestToLift_19 : decode cX6_bestToLift 19 = .ok (.iload 4, 2) := by decide +kernel
theorem dX6_bestToLift_21 : decode cX6_bestToLift 21 = .ok (.iload_n 1, 1) := by decide +kernel
theorem dX6_bestToLift_22 : decode cX6_bestToLift 22 = .ok (.iload_n 2, 1) := by decide +kernel
theorem dX6_bestToLift_23 : decode cX6_bestToLift 23 = .ok (.invokevirtual 136, 3) := by decide +kernel
theorem dX6_bestToLift_26 : decode cX6_bestToLift 26 = .ok (.iastore, 1) := by decide +kernel
theorem dX6_bestToLift_27 : decode cX6_bestToLift 27 = .ok (.iinc 4 1, 3) := by decide +kernel
theorem dX6_bestToLift_30 : decode cX6_bestToLift 30 = .ok (.goto (-27), 3) := by decide +kernel
theorem dX6_bestToLift_33 : decode cX6_bestToLift 33 = .ok (.iconst 0, 1) := by decide +kernel
theorem dX6_bestToLift_34 : decode cX6_bestToLift 34 = .ok (.istore 4, 2) := by decide +kernel
theorem dX6_bestToLift_36 : decode cX6_bestToLift 36 = .ok (.aload_n 0, 1) := by decide +kernel
theorem dX6_bestToLift_37 : decode cX6_bestToLift 37 = .ok (.iconst 0, 1) := by decide +kernel
theorem dX6_bestToLift_38 : decode cX6_bestToLift 38 = .ok (.invokevirtual 146, 3) := by decide +kernel
theorem dX6_bestToLift_41 : decode cX6_bestToLift 41 = .ok (.istore 5, 2) := by decide +kernel
theorem dX6_bestToLift_43 : decode cX6_bestToLift 43 = .ok (.iconst 1, 1) := by decide +kernel
theorem dX6_bestToLift_44 : decode cX6_bestToLift 44 = .ok (.istore 6, 2) := by decide +kernel
theorem dX6_bestToLift_46 : decode cX6_bestToLift 46 = .ok (.iload 6, 2) := by decide +kernel
theorem dX6_bestToLift_48 : decode cX6_bestToLift 48 = .ok (.iload_n 3, 1) := by decide +kernel
theorem dX6_bestToLift_49 : decode cX6_bestToLift 49 = .ok (.if_icmp .gt 75, 3) := by decide +kernel
theorem dX6_bestToLift_52 : decode cX6_bestToLift 52 = .ok (.iconst 1, 1) := by decide +kernel
theorem dX6_bestToLift_53 : decode cX6_bestToLift 53 = .ok (.iload 6, 2) := by decide +kernel
theorem dX6_bestToLift_55 : decode cX6_bestToLift 55 = .ok (.ishl, 1) := by decide +kernel
theorem dX6_bestToLift_56 : decode cX6_bestToLift 56 = .ok (.iconst 1, 1) := by decide +kernel
theorem dX6_bestToLift_57 : decode cX6_bestToLift 57 = .ok (.isub, 1) := by decide +kernel
theorem dX6_bestToLift_58 : decode cX6_bestToLift 58 = .ok (.istore 7, 2) := by decide +kernel
theorem dX6_bestToLift_60 : decode cX6_bestToLift 60 = .ok (.iconst 0, 1) := by decide +kernel
theorem dX6_bestToLift_61 : decode cX6_bestToLift 61 = .ok (.istore 8, 2) := by decide +kernel
theorem dX6_bestToLift_63 : decode cX6_bestToLift 63 = .ok (.iload 8, 2) := by decide +kernel
theorem dX6_bestToLift_65 : decode cX6_bestToLift 65 = .ok (.sipush 220, 3) := by decide +kernel
theorem dX6_bestToLift_68 : decode cX6_bestToLift 68 = .ok (.if_icmp .ge 50, 3) := by decide +kernel
theorem dX6_bestToLift_71 : decode cX6_bestToLift 71 = .ok (.iload 7, 2) := by decide +kernel
theorem dX6_bestToLift_73 : decode cX6_bestToLift 73 = .ok (.iconst 1, 1) := by decide +kernel
theorem dX6_bestToLift_74 : decode cX6_bestToLift 74 = .ok (.aload_n 0, 1) := by decide +kernel
theorem dX6_bestToLift_75 : decode cX6_bestToLift 75 = .ok (.getfield 42, 3) := by decide +kernel
theorem dX6_bestToLift_78 : decode cX6_bestToLift 78 = .ok (.ishl, 1) := by decide +kernel
theorem dX6_bestToLift_79 : decode cX6_bestToLift 79 = .ok (.if_icmp .ge 39, 3) := by decide +kernel
theorem dX6_bestToLift_82 : decode cX6_bestToLift 82 = .ok (.aload_n 0, 1) := by decide +kernel
theorem dX6_bestToLift_83 : decode cX6_bestToLift 83 = .ok (.iload 7, 2) := by decide +kernel
theorem dX6_bestToLift_85 : decode cX6_bestToLift 85 = .ok (.invokevirtual 146, 3) := by decide +kernel
theorem dX6_bestToLift_88 : decode cX6_bestToLift 88 = .ok (.istore 9, 2) := by decide +kernel
theorem dX6_bestToLift_90 : decode cX6_bestToLift 90 = .ok (.iload 9, 2) := by decide +kernel
theorem dX6_bestToLift_92 : decode cX6_bestToLift 92 = .ok (.iload 5, 2) := by decide +kernel
theorem dX6_bestToLift_94 : decode cX6_bestToLift 94 = .ok (.if_icmp .le 11, 3) := by decide +kernel
theorem dX6_bestToLift_97 : decode cX6_bestToLift 97 = .ok (.iload 9, 2) := by decide +kernel
theorem dX6_bestToLift_99 : decode cX6_bestToLift 99 = .ok (.istore 5, 2) := by decide +kernel
theorem dX6_bestToLift_101 : decode cX6_bestToLift 101 = .ok (.iload 7, 2) := by decide +kernel
theorem dX6_bestToLift_103 : decode cX6_bestToLift 103 = .ok (.istore 4, 2) := by decide +kernel
theorem dX6_bestToLift_105 : decode cX6_bestToLift 105 = .ok (.iload 7, 2) := by decide +kernel
theorem dX6_bestToLift_107 : decode cX6_bestToLift 107 = .ok (.invokestatic 149, 3) := by decide +kernel
theorem dX6_bestToLift_110 : decode cX6_bestToLift 110 = .ok (.istore 7, 2) := by decide +kernel
theorem dX6_bestToLift_112 : decode cX6_bestToLift 112 = .ok (.iinc 8 1, 3) := by decide +kernel
theorem dX6_bestToLift_115 : decode cX6_bestToLift 115 = .ok (.goto (-52), 3) := by decide +kernel
theorem dX6_bestToLift_118 : decode cX6_bestToLift 118 = .ok (.iinc 6 1, 3) := by decide +kernel
theorem dX6_bestToLift_121 : decode cX6_bestToLift 121 = .ok (.goto (-75), 3) := by decide +kernel
theorem dX6_bestToLift_124 : decode cX6_bestToLift 124 = .ok (.iload 4, 2) := by decide +kernel
theorem dX6_bestToLift_126 : decode cX6_bestToLift 126 = .ok (.ireturn, 1) := by decide +kernel
theorem qw_160 : (Cond.code yX6_comesAhead cX6_comesAhead 3 (some .boolean) : Cond) ∈ TBL := List.mem_of_getElem? (i := 814) (by decide +kernel)
theorem qw_161 : (Cond.methodLink RX6 143 yX6_comesAhead : Cond) ∈ TBL := List.mem_of_getElem? (i := 811) (by decide +kernel)
theorem qw_162 : (Cond.instanceMethod yX6_comesAhead : Cond) ∈ TBL := List.mem_of_getElem? (i := 812) (by decide +kernel)
theorem qw_163 : (Cond.selects RX6 yX6_comesAhead yX6_comesAhead : Cond) ∈ TBL := List.mem_of_getElem? (i := 813) (by decide +kernel)
theorem qw_164 : (Cond.code yX6_openingOf cX6_openingOf 5 (some .int) : Cond) ∈ TBL := List.mem_of_getElem? (i := 710) (by decide +kernel)
theorem qw_165 : (Cond.methodLink RX6 140 yX6_openingOf : Cond) ∈ TBL := List.mem_of_getElem? (i := 810) (by decide +kernel)
theorem qw_166 : (Cond.instanceMethod yX6_openingOf : Cond) ∈ TBL := List.mem_of_getElem? (i := 708) (by decide +kernel)
theorem qw_167 : (Cond.selects RX6 yX6_openingOf yX6_openingOf : Cond) ∈ TBL := List.mem_of_getElem? (i := 709) (by decide +kernel)
theorem qw_168 : (Cond.code yX6_openWhenGone cX6_openWhenGone 4 (some .int) : Cond) ∈ TBL := List.mem_of_getElem? (i := 841) (by decide +kernel)
theorem qw_169 : (Cond.methodLink RX6 146 yX6_openWhenGone : Cond) ∈ TBL := List.mem_of_getElem? (i := 838) (by decide +kernel)
theorem qw_170 : (Cond.instanceMethod yX6_openWhenGone : Cond) ∈ TBL := List.mem_of_getElem? (i := 839) (by decide +kernel)
theorem qw_171 : (Cond.selects RX6 yX6_openWhenGone yX6_openWhenGone : Cond) ∈ TBL := List.mem_of_getElem? (i := 840) (by decide +kernel)
theorem qw_172 : (Cond.code yX6_nextOfSameSize cX6_nextOfSameSize 4 (some .int) : Cond) ∈ TBL := List.mem_of_getElem? (i := 844) (by decide +kernel)
theorem qw_173 : (Cond.methodLink RX6 149 yX6_nextOfSameSize : Cond) ∈ TBL := List.mem_of_getElem? (i := 842) (by decide +kernel)
theorem qw_174 : (Cond.static yX6_nextOfSameSize : Cond) ∈ TBL := List.mem_of_getElem? (i := 843) (by decide +kernel)
theorem qw_175 : (Cond.code yX6_layPieces cX6_layPieces 5 none : Cond) ∈ TBL := List.mem_of_getElem? (i := 565) (by decide +kernel)
theorem qw_176 : (Cond.methodLink RX6 43 yX6_layPieces : Cond) ∈ TBL := List.mem_of_getElem? (i := 562) (by decide +kernel)
theorem qw_177 : (Cond.instanceMethod yX6_layPieces : Cond) ∈ TBL := List.mem_of_getElem? (i := 563) (by decide +kernel)
theorem qw_178 : (Cond.selects RX6 yX6_layPieces yX6_layPieces : Cond) ∈ TBL := List.mem_of_getElem? (i := 564) (by decide +kernel)
theorem qw_179 : (Cond.code yX6_latestAbove cX6_latestAbove 6 (some .int) : Cond) ∈ TBL := List.mem_of_getElem? (i := 586) (by decide +kernel)
theorem qw_180 : (Cond.methodLink RX6 55 yX6_latestAbove : Cond) ∈ TBL := List.mem_of_getElem? (i := 584) (by decide +kernel)
theorem qw_181 : (Cond.static yX6_latestAbove : Cond) ∈ TBL := List.mem_of_getElem? (i := 585) (by decide +kernel)
theorem qw_182 : (Cond.code yX1_isTarget cX1_isTarget 4 (some .boolean) : Cond) ∈ TBL := List.mem_of_getElem? (i := 568) (by decide +kernel)
theorem qw_183 : (Cond.initialized RX1 : Cond) ∈ TBL := List.mem_of_getElem? (i := 37) (by decide +kernel)
theorem qw_184 : (Cond.instanceMethod yX1_isTarget : Cond) ∈ TBL := List.mem_of_getElem? (i := 566) (by decide +kernel)
theorem qw_185 : (Cond.selects RX1 yX1_isTarget yX1_isTarget : Cond) ∈ TBL := List.mem_of_getElem? (i := 567) (by decide +kernel)
theorem qw_186 : (Cond.code yX6_termOf cX6_termOf 6 (some .int) : Cond) ∈ TBL := List.mem_of_getElem? (i := 571) (by decide +kernel)
theorem qw_187 : (Cond.methodLink RX6 51 yX6_termOf : Cond) ∈ TBL := List.mem_of_getElem? (i := 569) (by decide +kernel)
theorem qw_188 : (Cond.static yX6_termOf : Cond) ∈ TBL := List.mem_of_getElem? (i := 570) (by decide +kernel)
theorem qw_189 : (Cond.code yX5_readNewName cX5_readNewName 3 (some .long) : Cond) ∈ TBL := List.mem_of_getElem? (i := 273) (by decide +kernel)
theorem qw_190 : (Cond.methodLink RX5 78 yX5_readNewName : Cond) ∈ TBL := List.mem_of_getElem? (i := 270) (by decide +kernel)
theorem qw_191 : (Cond.instanceMethod yX5_readNewName : Cond) ∈ TBL := List.mem_of_getElem? (i := 271) (by decide +kernel)
theorem qw_192 : (Cond.selects RX5 yX5_readNewName yX5_readNewName : Cond) ∈ TBL := List.mem_of_getElem? (i := 272) (by decide +kernel)
theorem qw_193 : (Cond.code yX5_pass cX5_pass 2 none : Cond) ∈ TBL := List.mem_of_getElem? (i := 303) (by decide +kernel)
theorem qw_194 : (Cond.methodLink RX5 90 yX5_pass : Cond) ∈ TBL := List.mem_of_getElem? (i := 300) (by decide +kernel)
theorem qw_195 : (Cond.instanceMethod yX5_pass : Cond) ∈ TBL := List.mem_of_getElem? (i := 301) (by decide +kernel)
theorem qw_196 : (Cond.selects RX5 yX5_pass yX5_pass : Cond) ∈ TBL := List.mem_of_getElem? (i := 302) (by decide +kernel)
theorem qw_197 : (Cond.code yX5_addName cX5_addName 5 none : Cond) ∈ TBL := List.mem_of_getElem? (i := 307) (by decide +kernel)
theorem qw_198 : (Cond.methodLink RX5 100 yX5_addName : Cond) ∈ TBL := List.mem_of_getElem? (i := 304) (by decide +kernel)
theorem qw_199 : (Cond.instanceMethod yX5_addName : Cond) ∈ TBL := List.mem_of_getElem? (i := 305) (by decide +kernel)
theorem qw_200 : (Cond.selects RX5 yX5_addName yX5_addName : Cond) ∈ TBL := List.mem_of_getElem? (i := 306) (by decide +kernel)
theorem qw_201 : (Cond.code yX5_readDate cX5_readDate 4 (some .int) : Cond) ∈ TBL := List.mem_of_getElem? (i := 285) (by decide +kernel)
theorem qw_202 : (Cond.methodLink RX5 86 yX5_readDate : Cond) ∈ TBL := List.mem_of_getElem? (i := 282) (by decide +kernel)
theorem qw_203 : (Cond.instanceMethod yX5_readDate : Cond) ∈ TBL := List.mem_of_getElem? (i := 283) (by decide +kernel)
theorem qw_204 : (Cond.selects RX5 yX5_readDate yX5_readDate : Cond) ∈ TBL := List.mem_of_getElem? (i := 284) (by decide +kernel)
theorem qw_205 : (Cond.code yX5_readPeopleOf cX5_readPeopleOf 5 (some .int) : Cond) ∈ TBL := List.mem_of_getElem? (i := 323) (by decide +kernel)
theorem qw_206 : (Cond.methodLink RX5 126 yX5_readPeopleOf : Cond) ∈ TBL := List.mem_of_getElem? (i := 320) (by decide +kernel)
theorem qw_207 : (Cond.instanceMethod yX5_readPeopleOf : Cond) ∈ TBL := List.mem_of_getElem? (i := 321) (by decide +kernel)
theorem qw_208 : (Cond.selects RX5 yX5_readPeopleOf yX5_readPeopleOf : Cond) ∈ TBL := List.mem_of_getElem? (i := 322) (by decide +kernel)
theorem rgP4_ce6b6f4 {D : va_G} {cl : List vw_C} {H : Heap} {c0 c1 c2 c3 : Nat × va_E} {R : va_W} (h : va_P D cl ([c0, c1, c2, c3] ++ R) H) : va_P D cl ([c0, c1, c3]) H := h.sub (ws' := [c0, c1, c3]) [0, 1, 3] rfl
theorem rgK4_9ad88fc {D : va_G} {cl : List vw_C} {U : State} {t0 t1 t2 t3 : ClassId × FieldType} (h : va_K D cl [t0, t1, t2, t3] U) : va_K D cl [t0, t2] U := h.sub (tys' := [t0, t2]) [0, 2] rfl
theorem rgP4_975726d {D : va_G} {cl : List vw_C} {H : Heap} {c0 c1 c2 c3 : Nat × va_E} {R : va_W} (h : va_P D cl ([c0, c1, c2, c3] ++ R) H) : va_P D cl ([c0, c2] ++ R) H := h.part (X := [c0, c1, c2, c3]) (cx := [c0, c2]) [0, 2] rfl
theorem rgK4_2a33748 {D : va_G} {cl : List vw_C} {U : State} {t0 t1 t2 t3 : ClassId × FieldType} (h : va_K D cl [t0, t1, t2, t3] U) : va_K D cl [t1] U := h.sub (tys' := [t1]) [1] rfl
theorem rgS4_ccff04d {A : Nat → Prop} {D : va_G} {cl : List vw_C} {H : Heap} {c0 c1 c2 c3 : Nat × va_E} {R : va_W} {d e : Nat × va_E} (hP : va_P D cl (([c0, c1, c2, c3] ++ R).set 3 d) H) (hD : va_D A (([c0, c1, c2, c3] ++ R).set 3 d)) (h : d = e) : va_P D cl ([c0, c1, c2, e] ++ R) H ∧ va_D A ([c0, c1, c2, e] ++ R) := by subst h; exact ⟨hP, hD⟩
theorem rgL3_c6e5ab0 {c0 c1 c2 : Nat × va_E} {R : va_W} : (([c0, c1, c2] ++ R : va_W))[0]? = some c0 := rfl
theorem rgP3_82d877d {D : va_G} {cl : List vw_C} {H : Heap} {c0 c1 c2 : Nat × va_E} {R : va_W} (h : va_P D cl ([c0, c1, c2] ++ R) H) : va_P D cl ([c0, c2]) H := h.sub (ws' := [c0, c2]) [0, 2] rfl
theorem rgK3_7ab6ad6 {D : va_G} {cl : List vw_C} {U : State} {t0 t1 t2 : ClassId × FieldType} (h : va_K D cl [t0, t1, t2] U) : va_K D cl [t1] U := h.sub (tys' := [t1]) [1] rfl
theorem rgP3_2980926 {D : va_G} {cl : List vw_C} {H : Heap} {c0 c1 c2 : Nat × va_E} {R : va_W} (h : va_P D cl ([c0, c1, c2] ++ R) H) : va_P D cl ([]) H := h.sub (ws' := []) [] rfl
theorem rgP3_89798e4 {D : va_G} {cl : List vw_C} {H : Heap} {c0 c1 c2 : Nat × va_E} {R : va_W} (h : va_P D cl ([c0, c1, c2] ++ R) H) : va_P D cl ([c0, c1] ++ R) H := h.part (X := [c0, c1, c2]) (cx := [c0, c1]) [0, 1] rfl
theorem rgK3_fa4d35d {D : va_G} {cl : List vw_C} {U : State} {t0 t1 t2 : ClassId × FieldType} (h : va_K D cl [t0, t1, t2] U) : va_K D cl [t0] U := h.sub (tys' := [t0]) [0] rfl
theorem rgL3_a8054e8 {c0 c1 c2 : Nat × va_E} {R : va_W} : (([c0, c1, c2] ++ R : va_W))[2]? = some c2 := rfl
theorem rgS3_7be8a0c {A : Nat → Prop} {D : va_G} {cl : List vw_C} {H : Heap} {c0 c1 c2 : Nat × va_E} {R : va_W} {d e : Nat × va_E} (hP : va_P D cl (([c0, c1, c2] ++ R).set 2 d) H) (hD : va_D A (([c0, c1, c2] ++ R).set 2 d)) (h : d = e) : va_P D cl ([c0, c1, e] ++ R) H ∧ va_D A ([c0, c1, e] ++ R) := by subst h; exact ⟨hP, hD⟩
theorem rgL23_1d0bf2f {c0 c1 c2 c3 c4 c5 c6 c7 c8 c9 c10 c11 c12 c13 c14 c15 c16 c17 c18 c19 c20 c21 c22 : Nat × va_E} {R : va_W} : (([c0, c1, c2, c3, c4, c5, c6, c7, c8, c9, c10, c11, c12, c13, c14, c15, c16, c17, c18, c19, c20, c21, c22] ++ R : va_W))[5]? = some c5 := rfl
theorem rgL23_e3204fb {c0 c1 c2 c3 c4 c5 c6 c7 c8 c9 c10 c11 c12 c13 c14 c15 c16 c17 c18 c19 c20 c21 c22 : Nat × va_E} {R : va_W} : (([c0, c1, c2, c3, c4, c5, c6, c7, c8, c9, c10, c11, c12, c13, c14, c15, c16, c17, c18, c19, c20, c21, c22] ++ R : va_W))[0]? = some c0 := rfl
theorem rgS23_2fb16fa {A : Nat → Prop} {D : va_G} {cl : List vw_C} {H : Heap} {c0 c1 c2 c3 c4 c5 c6 c7 c8 c9 c10 c11 c12 c13 c14 c15 c16 c17 c18 c19 c20 c21 c22 : Nat × va_E} {R : va_W} {d e : Nat × va_E} (hP : va_P D cl (([c0, c1, c2, c3, c4, c5, c6, c7, c8, c9, c10, c11, c12, c13, c14, c15, c16, c17, c18, c19, c20, c21, c22] ++ R).set 0 d) H) (hD : va_D A (([c0, c1, c2, c3, c4, c5, c6, c7, c8, c9, c10, c11, c12, c13, c14, c15, c16, c17, c18, c19, c20, c21, c22] ++ R).set 0 d)) (h : d = e) : va_P D cl ([e, c1, c2, c3, c4, c5, c6, c7, c8, c9, c10, c11, c12, c13, c14, c15, c16, c17, c18, c19, c20, c21, c22] ++ R) H ∧ va_D A ([e, c1, c2, c3, c4, c5, c6, c7, c8, c9, c10, c11, c12, c13, c14, c15, c16, c17, c18, c19, c20, c21, c22] ++ R) := by subst h; exact ⟨hP, hD⟩
theorem rgP23_6bbd89b {D : va_G} {cl : List vw_C} {H : Heap} {c0 c1 c2 c3 c4 c5 c6 c7 c8 c9 c10 c11 c12 c13 c14 c15 c16 c17 c18 c19 c20 c21 c22 : Nat × va_E} {R : va_W} (h : va_P D cl ([c0, c1, c2, c3, c4, c5, c6, c7, c8, c9, c10, c11, c12, c13, c14, c15, c16, c17, c18, c19, c20, c21, c22] ++ R) H) : va_P D cl ([c0, c1, c2, c16, c17]) H := h.sub (ws' := [c0, c1, c2, c16, c17]) [0, 1, 2, 16, 17] rfl
theorem rgK21_7829fbf {D : va_G} {cl : List vw_C} {U : State} {t0 t1 t2 t3 t4 t5 t6 t7 t8 t9 t10 t11 t12 t13 t14 t15 t16 t17 t18 t19 t20 : ClassId × FieldType} (h : va_K D cl [t0, t1, t2, t3, t4, t5, t6, t7, t8, t9, t10, t11, t12, t13, t14, t15, t16, t17, t18, t19, t20] U) : va_K D cl [t0, t1, t14] U := h.sub (tys' := [t0, t1, t14]) [0, 1, 14] rfl
theorem rgD23_964232c {A : Nat → Prop} {c0 c1 c2 c3 c4 c5 c6 c7 c8 c9 c10 c11 c12 c13 c14 c15 c16 c17 c18 c19 c20 c21 c22 : Nat × va_E} {R : va_W} (h : va_D A ([c0, c1, c2, c3, c4, c5, c6, c7, c8, c9, c10, c11, c12, c13, c14, c15, c16, c17, c18, c19, c20, c21, c22] ++ R)) : va_D A ([c0, c1, c2, c16, c17]) := h.sub (ws' := [c0, c1, c2, c16, c17]) [0, 1, 2, 16, 17] (by decide +kernel) rfl
theorem rgJ23_d35476e {A0 : Nat → Prop} {D : va_G} {cl : List vw_C} {H H1 : Heap} {c0 c1 c2 c3 c4 c5 c6 c7 c8 c9 c10 c11 c12 c13 c14 c15 c16 c17 c18 c19 c20 c21 c22 : Nat × va_E} {d0 d1 d2 d3 d4 : Nat × va_E} {R : va_W} (hP : va_P D cl ([c0, c1, c2, c3, c4, c5, c6, c7, c8, c9, c10, c11, c12, c13, c14, c15, c16, c17, c18, c19, c20, c21, c22] ++ R) H) (hD : va_D A0 ([c0, c1, c2, c3, c4, c5, c6, c7, c8, c9, c10, c11, c12, c13, c14, c15, c16, c17, c18, c19, c20, c21, c22] ++ R)) (hk : ∀ q : Nat, q < H.size → ¬ va_A ([c0, c1, c2, c16, c17]) H.size q → H1[q]? = H[q]?) (hF : ∀ q, va_A ([c0, c1, c2, c16, c17]) H.size q → A0 q) (hP1 : va_P D cl ([d0, d1, d2, d3, d4]) H1) (hD1 : va_D (va_A ([c0, c1, c2, c16, c17]) H.size) ([d0, d1, d2, d3, d4])) : va_P D cl ([d0, d1, d2, c3, c4, c5, c6, c7, c8, c9, c10, c11, c12, c13, c14, c15, d3, d4, c18, c19, c20, c21, c22] ++ R) H1 ∧ va_D A0 ([d0, d1, d2, c3, c4, c5, c6, c7, c8, c9, c10, c11, c12, c13, c14, c15, d3, d4, c18, c19, c20, c21, c22] ++ R) := by
  obtain ⟨h1, h2⟩ := va_joinQ (X := [c0, c1, c2, c3, c4, c5, c6, c7, c8, c9, c10, c11, c12, c13, c14, c15, c16, c17, c18, c19, c20, c21, c22]) (cx := [c0, c1, c2, c16, c17]) (wr := [c3, c4, c5, c6, c7, c8, c9, c10, c11, c12, c13, c14, c15, c18, c19, c20, c21, c22]) (w1 := [d0, d1, d2, d3, d4]) hP hD [0, 1, 2, 16, 17] [3, 4, 5, 6, 7, 8, 9, 10, 11, 12, 13, 14, 15, 18, 19, 20, 21, 22] rfl rfl (by decide +kernel) (by decide +kernel) hk hF hP1 hD1
  exact ⟨va_P.part (X := [c3, c4, c5, c6, c7, c8, c9, c10, c11, c12, c13, c14, c15, c18, c19, c20, c21, c22, d0, d1, d2, d3, d4]) (cx := [d0, d1, d2, c3, c4, c5, c6, c7, c8, c9, c10, c11, c12, c13, c14, c15, d3, d4, c18, c19, c20, c21, c22]) h1 [18, 19, 20, 0, 1, 2, 3, 4, 5, 6, 7, 8, 9, 10, 11, 12, 21, 22, 13, 14, 15, 16, 17] rfl, va_D.part (X := [c3, c4, c5, c6, c7, c8, c9, c10, c11, c12, c13, c14, c15, c18, c19, c20, c21, c22, d0, d1, d2, d3, d4]) (cx := [d0, d1, d2, c3, c4, c5, c6, c7, c8, c9, c10, c11, c12, c13, c14, c15, d3, d4, c18, c19, c20, c21, c22]) h2 [18, 19, 20, 0, 1, 2, 3, 4, 5, 6, 7, 8, 9, 10, 11, 12, 21, 22, 13, 14, 15, 16, 17] (by decide +kernel) rfl⟩
theorem rgK21_98db583 {D : va_G} {cl : List vw_C} {U : State} {t0 t1 t2 t3 t4 t5 t6 t7 t8 t9 t10 t11 t12 t13 t14 t15 t16 t17 t18 t19 t20 : ClassId × FieldType} (h : va_K D cl [t0, t1, t2, t3, t4, t5, t6, t7, t8, t9, t10, t11, t12, t13, t14, t15, t16, t17, t18, t19, t20] U) : va_K D cl [] U := h.sub (tys' := []) [] rfl
theorem rgL23_b5c1933 {c0 c1 c2 c3 c4 c5 c6 c7 c8 c9 c10 c11 c12 c13 c14 c15 c16 c17 c18 c19 c20 c21 c22 : Nat × va_E} {R : va_W} : (([c0, c1, c2, c3, c4, c5, c6, c7, c8, c9, c10, c11, c12, c13, c14, c15, c16, c17, c18, c19, c20, c21, c22] ++ R : va_W))[4]? = some c4 := rfl
theorem rgT21_f5cbfc1 {t0 t1 t2 t3 t4 t5 t6 t7 t8 t9 t10 t11 t12 t13 t14 t15 t16 t17 t18 t19 t20 : ClassId × FieldType} : (([t0, t1, t2, t3, t4, t5, t6, t7, t8, t9, t10, t11, t12, t13, t14, t15, t16, t17, t18, t19, t20] : List (ClassId × FieldType)))[3]? = some t3 := rfl
theorem rgL23_d20b1ca {c0 c1 c2 c3 c4 c5 c6 c7 c8 c9 c10 c11 c12 c13 c14 c15 c16 c17 c18 c19 c20 c21 c22 : Nat × va_E} {R : va_W} : (([c0, c1, c2, c3, c4, c5, c6, c7, c8, c9, c10, c11, c12, c13, c14, c15, c16, c17, c18, c19, c20, c21, c22] ++ R : va_W))[3]? = some c3 := rfl
theorem rgT21_6b53e59 {t0 t1 t2 t3 t4 t5 t6 t7 t8 t9 t10 t11 t12 t13 t14 t15 t16 t17 t18 t19 t20 : ClassId × FieldType} : (([t0, t1, t2, t3, t4, t5, t6, t7, t8, t9, t10, t11, t12, t13, t14, t15, t16, t17, t18, t19, t20] : List (ClassId × FieldType)))[2]? = some t2 := rfl
theorem rgP23_8ff27fe {D : va_G} {cl : List vw_C} {H : Heap} {c0 c1 c2 c3 c4 c5 c6 c7 c8 c9 c10 c11 c12 c13 c14 c15 c16 c17 c18 c19 c20 c21 c22 : Nat × va_E} {R : va_W} (h : va_P D cl ([c0, c1, c2, c3, c4, c5, c6, c7, c8, c9, c10, c11, c12, c13, c14, c15, c16, c17, c18, c19, c20, c21, c22] ++ R) H) : va_P D cl ([c16, c17] ++ R) H := h.part (X := [c0, c1, c2, c3, c4, c5, c6, c7, c8, c9, c10, c11, c12, c13, c14, c15, c16, c17, c18, c19, c20, c21, c22]) (cx := [c16, c17]) [16, 17] rfl
theorem rgK21_c28c502 {D : va_G} {cl : List vw_C} {U : State} {t0 t1 t2 t3 t4 t5 t6 t7 t8 t9 t10 t11 t12 t13 t14 t15 t16 t17 t18 t19 t20 : ClassId × FieldType} (h : va_K D cl [t0, t1, t2, t3, t4, t5, t6, t7, t8, t9, t10, t11, t12, t13, t14, t15, t16, t17, t18, t19, t20] U) : va_K D cl [t14] U := h.sub (tys' := [t14]) [14] rfl
theorem rgU23_d4b3d30 {c0 c1 c2 c3 c4 c5 c6 c7 c8 c9 c10 c11 c12 c13 c14 c15 c16 c17 c18 c19 c20 c21 c22 : Nat × va_E} {rows : va_W} {j : Nat} {v : Nat × va_E} (h : rows[j]? = some v) : ([c0, c1, c2, c3, c4, c5, c6, c7, c8, c9, c10, c11, c12, c13, c14, c15, c16, c17, c18, c19, c20, c21, c22] ++ rows)[23 + j]? = some v := rowUp rfl h
theorem rgT21_2fffd0a {t0 t1 t2 t3 t4 t5 t6 t7 t8 t9 t10 t11 t12 t13 t14 t15 t16 t17 t18 t19 t20 : ClassId × FieldType} : (([t0, t1, t2, t3, t4, t5, t6, t7, t8, t9, t10, t11, t12, t13, t14, t15, t16, t17, t18, t19, t20] : List (ClassId × FieldType)))[20]? = some t20 := rfl
theorem rgW23_e08f5e7 {A : Nat → Prop} {D : va_G} {cl : List vw_C} {H : Heap} {c0 c1 c2 c3 c4 c5 c6 c7 c8 c9 c10 c11 c12 c13 c14 c15 c16 c17 c18 c19 c20 c21 c22 : Nat × va_E} {rows rx : va_W} {j : Nat} {v : Nat × va_E} (hP : va_P D cl (([c0, c1, c2, c3, c4, c5, c6, c7, c8, c9, c10, c11, c12, c13, c14, c15, c16, c17, c18, c19, c20, c21, c22] ++ rows).set (23 + j) v) H) (hD : va_D A (([c0, c1, c2, c3, c4, c5, c6, c7, c8, c9, c10, c11, c12, c13, c14, c15, c16, c17, c18, c19, c20, c21, c22] ++ rows).set (23 + j) v)) (e : rows.set j v = rx) : va_P D cl ([c0, c1, c2, c3, c4, c5, c6, c7, c8, c9, c10, c11, c12, c13, c14, c15, c16, c17, c18, c19, c20, c21, c22] ++ rx) H ∧ va_D A ([c0, c1, c2, c3, c4, c5, c6, c7, c8, c9, c10, c11, c12, c13, c14, c15, c16, c17, c18, c19, c20, c21, c22] ++ rx) := by subst e; rw [rowSet (n := 23) rfl] at hP hD; exact ⟨hP, hD⟩
theorem rgP23_303f653 {D : va_G} {cl : List vw_C} {H : Heap} {c0 c1 c2 c3 c4 c5 c6 c7 c8 c9 c10 c11 c12 c13 c14 c15 c16 c17 c18 c19 c20 c21 c22 : Nat × va_E} {R : va_W} (h : va_P D cl ([c0, c1, c2, c3, c4, c5, c6, c7, c8, c9, c10, c11, c12, c13, c14, c15, c16, c17, c18, c19, c20, c21, c22] ++ R) H) : va_P D cl ([c5, c9, c10, c11, c12]) H := h.sub (ws' := [c5, c9, c10, c11, c12]) [5, 9, 10, 11, 12] rfl
theorem rgK21_75b2789 {D : va_G} {cl : List vw_C} {U : State} {t0 t1 t2 t3 t4 t5 t6 t7 t8 t9 t10 t11 t12 t13 t14 t15 t16 t17 t18 t19 t20 : ClassId × FieldType} (h : va_K D cl [t0, t1, t2, t3, t4, t5, t6, t7, t8, t9, t10, t11, t12, t13, t14, t15, t16, t17, t18, t19, t20] U) : va_K D cl [t7, t8, t9, t10] U := h.sub (tys' := [t7, t8, t9, t10]) [7, 8, 9, 10] rfl
theorem rgP23_f2cfb2c {D : va_G} {cl : List vw_C} {H : Heap} {c0 c1 c2 c3 c4 c5 c6 c7 c8 c9 c10 c11 c12 c13 c14 c15 c16 c17 c18 c19 c20 c21 c22 : Nat × va_E} {R : va_W} (h : va_P D cl ([c0, c1, c2, c3, c4, c5, c6, c7, c8, c9, c10, c11, c12, c13, c14, c15, c16, c17, c18, c19, c20, c21, c22] ++ R) H) : va_P D cl ([c5, c6, c7, c8, c11, c12, c13, c14, c15, c16, c18, c19, c20, c21, c22] ++ R) H := h.part (X := [c0, c1, c2, c3, c4, c5, c6, c7, c8, c9, c10, c11, c12, c13, c14, c15, c16, c17, c18, c19, c20, c21, c22]) (cx := [c5, c6, c7, c8, c11, c12, c13, c14, c15, c16, c18, c19, c20, c21, c22]) [5, 6, 7, 8, 11, 12, 13, 14, 15, 16, 18, 19, 20, 21, 22] rfl
theorem rgK21_f5e3a4e {D : va_G} {cl : List vw_C} {U : State} {t0 t1 t2 t3 t4 t5 t6 t7 t8 t9 t10 t11 t12 t13 t14 t15 t16 t17 t18 t19 t20 : ClassId × FieldType} (h : va_K D cl [t0, t1, t2, t3, t4, t5, t6, t7, t8, t9, t10, t11, t12, t13, t14, t15, t16, t17, t18, t19, t20] U) : va_K D cl [t4, t5, t6, t9, t10, t11, t12, t13, t15, t16, t17, t18, t19] U := h.sub (tys' := [t4, t5, t6, t9, t10, t11, t12, t13, t15, t16, t17, t18, t19]) [4, 5, 6, 9, 10, 11, 12, 13, 15, 16, 17, 18, 19] rfl
theorem rgL11_9734e9c {c0 c1 c2 c3 c4 c5 c6 c7 c8 c9 c10 : Nat × va_E} : (([c0, c1, c2, c3, c4, c5, c6, c7, c8, c9, c10] : va_W))[7]? = some c7 := rfl
theorem rgL11_6c8bafd {c0 c1 c2 c3 c4 c5 c6 c7 c8 c9 c10 : Nat × va_E} : (([c0, c1, c2, c3, c4, c5, c6, c7, c8, c9, c10] : va_W))[0]? = some c0 := rfl
theorem rgP11_1d2a21b {D : va_G} {cl : List vw_C} {H : Heap} {c0 c1 c2 c3 c4 c5 c6 c7 c8 c9 c10 : Nat × va_E} (h : va_P D cl ([c0, c1, c2, c3, c4, c5, c6, c7, c8, c9, c10]) H) : va_P D cl ([c1, c2, c3]) H := h.sub (ws' := [c1, c2, c3]) [1, 2, 3] rfl
theorem rgK7_1f732e3 {D : va_G} {cl : List vw_C} {U : State} {t0 t1 t2 t3 t4 t5 t6 : ClassId × FieldType} (h : va_K D cl [t0, t1, t2, t3, t4, t5, t6] U) : va_K D cl [t0, t1] U := h.sub (tys' := [t0, t1]) [0, 1] rfl
theorem rgD11_2320529 {A : Nat → Prop} {c0 c1 c2 c3 c4 c5 c6 c7 c8 c9 c10 : Nat × va_E} (h : va_D A ([c0, c1, c2, c3, c4, c5, c6, c7, c8, c9, c10])) : va_D A ([c1, c2, c3]) := h.sub (ws' := [c1, c2, c3]) [1, 2, 3] (by decide +kernel) rfl
theorem rgL11_ae006c6 {c0 c1 c2 c3 c4 c5 c6 c7 c8 c9 c10 : Nat × va_E} : (([c0, c1, c2, c3, c4, c5, c6, c7, c8, c9, c10] : va_W))[1]? = some c1 := rfl
theorem rgJ11_21c0446 {A0 : Nat → Prop} {D : va_G} {cl : List vw_C} {H H1 : Heap} {c0 c1 c2 c3 c4 c5 c6 c7 c8 c9 c10 : Nat × va_E} {d0 d1 d2 : Nat × va_E} (hP : va_P D cl ([c0, c1, c2, c3, c4, c5, c6, c7, c8, c9, c10]) H) (hD : va_D A0 ([c0, c1, c2, c3, c4, c5, c6, c7, c8, c9, c10])) (hk : ∀ q : Nat, q < H.size → ¬ va_A ([c1, c2, c3]) H.size q → H1[q]? = H[q]?) (hF : ∀ q, va_A ([c1, c2, c3]) H.size q → A0 q) (hP1 : va_P D cl ([d0, d1, d2]) H1) (hD1 : va_D (va_A ([c1, c2, c3]) H.size) ([d0, d1, d2])) : va_P D cl ([c0, d0, d1, d2, c4, c5, c6, c7, c8, c9, c10]) H1 ∧ va_D A0 ([c0, d0, d1, d2, c4, c5, c6, c7, c8, c9, c10]) := by
  obtain ⟨h1, h2⟩ := va_join (ws := [c0, c1, c2, c3, c4, c5, c6, c7, c8, c9, c10]) (wc := [c1, c2, c3]) (wr := [c0, c4, c5, c6, c7, c8, c9, c10]) (w1 := [d0, d1, d2]) hP hD [1, 2, 3] [0, 4, 5, 6, 7, 8, 9, 10] rfl rfl (by decide +kernel) (by decide +kernel) hk hF hP1 hD1
  exact ⟨va_P.sub (ws := [c0, c4, c5, c6, c7, c8, c9, c10, d0, d1, d2]) (ws' := [c0, d0, d1, d2, c4, c5, c6, c7, c8, c9, c10]) h1 [0, 8, 9, 10, 1, 2, 3, 4, 5, 6, 7] rfl, va_D.sub (ws := [c0, c4, c5, c6, c7, c8, c9, c10, d0, d1, d2]) (ws' := [c0, d0, d1, d2, c4, c5, c6, c7, c8, c9, c10]) h2 [0, 8, 9, 10, 1, 2, 3, 4, 5, 6, 7] (by decide +kernel) rfl⟩
theorem rgP11_8934fbc {D : va_G} {cl : List vw_C} {H : Heap} {c0 c1 c2 c3 c4 c5 c6 c7 c8 c9 c10 : Nat × va_E} (h : va_P D cl ([c0, c1, c2, c3, c4, c5, c6, c7, c8, c9, c10]) H) : va_P D cl ([c0, c1, c2, c3, c4]) H := h.sub (ws' := [c0, c1, c2, c3, c4]) [0, 1, 2, 3, 4] rfl
theorem rgK7_b547fd3 {D : va_G} {cl : List vw_C} {U : State} {t0 t1 t2 t3 t4 t5 t6 : ClassId × FieldType} (h : va_K D cl [t0, t1, t2, t3, t4, t5, t6] U) : va_K D cl [t0, t1, t2] U := h.sub (tys' := [t0, t1, t2]) [0, 1, 2] rfl
theorem rgD11_7307c38 {A : Nat → Prop} {c0 c1 c2 c3 c4 c5 c6 c7 c8 c9 c10 : Nat × va_E} (h : va_D A ([c0, c1, c2, c3, c4, c5, c6, c7, c8, c9, c10])) : va_D A ([c0, c1, c2, c3, c4]) := h.sub (ws' := [c0, c1, c2, c3, c4]) [0, 1, 2, 3, 4] (by decide +kernel) rfl
theorem rgJ11_dc22c10 {A0 : Nat → Prop} {D : va_G} {cl : List vw_C} {H H1 : Heap} {c0 c1 c2 c3 c4 c5 c6 c7 c8 c9 c10 : Nat × va_E} {d0 d1 d2 d3 d4 : Nat × va_E} (hP : va_P D cl ([c0, c1, c2, c3, c4, c5, c6, c7, c8, c9, c10]) H) (hD : va_D A0 ([c0, c1, c2, c3, c4, c5, c6, c7, c8, c9, c10])) (hk : ∀ q : Nat, q < H.size → ¬ va_A ([c0, c1, c2, c3, c4]) H.size q → H1[q]? = H[q]?) (hF : ∀ q, va_A ([c0, c1, c2, c3, c4]) H.size q → A0 q) (hP1 : va_P D cl ([d0, d1, d2, d3, d4]) H1) (hD1 : va_D (va_A ([c0, c1, c2, c3, c4]) H.size) ([d0, d1, d2, d3, d4])) : va_P D cl ([d0, d1, d2, d3, d4, c5, c6, c7, c8, c9, c10]) H1 ∧ va_D A0 ([d0, d1, d2, d3, d4, c5, c6, c7, c8, c9, c10]) := by
  obtain ⟨h1, h2⟩ := va_join (ws := [c0, c1, c2, c3, c4, c5, c6, c7, c8, c9, c10]) (wc := [c0, c1, c2, c3, c4]) (wr := [c5, c6, c7, c8, c9, c10]) (w1 := [d0, d1, d2, d3, d4]) hP hD [0, 1, 2, 3, 4] [5, 6, 7, 8, 9, 10] rfl rfl (by decide +kernel) (by decide +kernel) hk hF hP1 hD1
  exact ⟨va_P.sub (ws := [c5, c6, c7, c8, c9, c10, d0, d1, d2, d3, d4]) (ws' := [d0, d1, d2, d3, d4, c5, c6, c7, c8, c9, c10]) h1 [6, 7, 8, 9, 10, 0, 1, 2, 3, 4, 5] rfl, va_D.sub (ws := [c5, c6, c7, c8, c9, c10, d0, d1, d2, d3, d4]) (ws' := [d0, d1, d2, d3, d4, c5, c6, c7, c8, c9, c10]) h2 [6, 7, 8, 9, 10, 0, 1, 2, 3, 4, 5] (by decide +kernel) rfl⟩
theorem rgP11_f758a06 {D : va_G} {cl : List vw_C} {H : Heap} {c0 c1 c2 c3 c4 c5 c6 c7 c8 c9 c10 : Nat × va_E} (h : va_P D cl ([c0, c1, c2, c3, c4, c5, c6, c7, c8, c9, c10]) H) : va_P D cl ([c0, c1, c2, c3]) H := h.sub (ws' := [c0, c1, c2, c3]) [0, 1, 2, 3] rfl
theorem rgD11_6eb49fc {A : Nat → Prop} {c0 c1 c2 c3 c4 c5 c6 c7 c8 c9 c10 : Nat × va_E} (h : va_D A ([c0, c1, c2, c3, c4, c5, c6, c7, c8, c9, c10])) : va_D A ([c0, c1, c2, c3]) := h.sub (ws' := [c0, c1, c2, c3]) [0, 1, 2, 3] (by decide +kernel) rfl
theorem rgJ11_cdaeafa {A0 : Nat → Prop} {D : va_G} {cl : List vw_C} {H H1 : Heap} {c0 c1 c2 c3 c4 c5 c6 c7 c8 c9 c10 : Nat × va_E} {d0 d1 d2 d3 : Nat × va_E} (hP : va_P D cl ([c0, c1, c2, c3, c4, c5, c6, c7, c8, c9, c10]) H) (hD : va_D A0 ([c0, c1, c2, c3, c4, c5, c6, c7, c8, c9, c10])) (hk : ∀ q : Nat, q < H.size → ¬ va_A ([c0, c1, c2, c3]) H.size q → H1[q]? = H[q]?) (hF : ∀ q, va_A ([c0, c1, c2, c3]) H.size q → A0 q) (hP1 : va_P D cl ([d0, d1, d2, d3]) H1) (hD1 : va_D (va_A ([c0, c1, c2, c3]) H.size) ([d0, d1, d2, d3])) : va_P D cl ([d0, d1, d2, d3, c4, c5, c6, c7, c8, c9, c10]) H1 ∧ va_D A0 ([d0, d1, d2, d3, c4, c5, c6, c7, c8, c9, c10]) := by
  obtain ⟨h1, h2⟩ := va_join (ws := [c0, c1, c2, c3, c4, c5, c6, c7, c8, c9, c10]) (wc := [c0, c1, c2, c3]) (wr := [c4, c5, c6, c7, c8, c9, c10]) (w1 := [d0, d1, d2, d3]) hP hD [0, 1, 2, 3] [4, 5, 6, 7, 8, 9, 10] rfl rfl (by decide +kernel) (by decide +kernel) hk hF hP1 hD1
  exact ⟨va_P.sub (ws := [c4, c5, c6, c7, c8, c9, c10, d0, d1, d2, d3]) (ws' := [d0, d1, d2, d3, c4, c5, c6, c7, c8, c9, c10]) h1 [7, 8, 9, 10, 0, 1, 2, 3, 4, 5, 6] rfl, va_D.sub (ws := [c4, c5, c6, c7, c8, c9, c10, d0, d1, d2, d3]) (ws' := [d0, d1, d2, d3, c4, c5, c6, c7, c8, c9, c10]) h2 [7, 8, 9, 10, 0, 1, 2, 3, 4, 5, 6] (by decide +kernel) rfl⟩
theorem rgK7_1b59772 {D : va_G} {cl : List vw_C} {U : State} {t0 t1 t2 t3 t4 t5 t6 : ClassId × FieldType} (h : va_K D cl [t0, t1, t2, t3, t4, t5, t6] U) : va_K D cl [] U := h.sub (tys' := []) [] rfl
theorem rgL11_13b73f1 {c0 c1 c2 c3 c4 c5 c6 c7 c8 c9 c10 : Nat × va_E} : (([c0, c1, c2, c3, c4, c5, c6, c7, c8, c9, c10] : va_W))[8]? = some c8 := rfl
theorem rgT7_3ac7fec {t0 t1 t2 t3 t4 t5 t6 : ClassId × FieldType} : (([t0, t1, t2, t3, t4, t5, t6] : List (ClassId × FieldType)))[5]? = some t5 := rfl
theorem rgS11_cf10d17 {A : Nat → Prop} {D : va_G} {cl : List vw_C} {H : Heap} {c0 c1 c2 c3 c4 c5 c6 c7 c8 c9 c10 : Nat × va_E} {d e : Nat × va_E} (hP : va_P D cl (([c0, c1, c2, c3, c4, c5, c6, c7, c8, c9, c10]).set 8 d) H) (hD : va_D A (([c0, c1, c2, c3, c4, c5, c6, c7, c8, c9, c10]).set 8 d)) (h : d = e) : va_P D cl ([c0, c1, c2, c3, c4, c5, c6, c7, e, c9, c10]) H ∧ va_D A ([c0, c1, c2, c3, c4, c5, c6, c7, e, c9, c10]) := by subst h; exact ⟨hP, hD⟩
theorem rgL11_6a66537 {c0 c1 c2 c3 c4 c5 c6 c7 c8 c9 c10 : Nat × va_E} : (([c0, c1, c2, c3, c4, c5, c6, c7, c8, c9, c10] : va_W))[9]? = some c9 := rfl
theorem rgL11_9a1600d {c0 c1 c2 c3 c4 c5 c6 c7 c8 c9 c10 : Nat × va_E} : (([c0, c1, c2, c3, c4, c5, c6, c7, c8, c9, c10] : va_W))[10]? = some c10 := rfl
theorem rgT7_aa56713 {t0 t1 t2 t3 t4 t5 t6 : ClassId × FieldType} : (([t0, t1, t2, t3, t4, t5, t6] : List (ClassId × FieldType)))[6]? = some t6 := rfl
theorem rgS11_d782f99 {A : Nat → Prop} {D : va_G} {cl : List vw_C} {H : Heap} {c0 c1 c2 c3 c4 c5 c6 c7 c8 c9 c10 : Nat × va_E} {d e : Nat × va_E} (hP : va_P D cl (([c0, c1, c2, c3, c4, c5, c6, c7, c8, c9, c10]).set 10 d) H) (hD : va_D A (([c0, c1, c2, c3, c4, c5, c6, c7, c8, c9, c10]).set 10 d)) (h : d = e) : va_P D cl ([c0, c1, c2, c3, c4, c5, c6, c7, c8, c9, e]) H ∧ va_D A ([c0, c1, c2, c3, c4, c5, c6, c7, c8, c9, e]) := by subst h; exact ⟨hP, hD⟩
theorem rgS11_2ed6a70 {A : Nat → Prop} {D : va_G} {cl : List vw_C} {H : Heap} {c0 c1 c2 c3 c4 c5 c6 c7 c8 c9 c10 : Nat × va_E} {d e : Nat × va_E} (hP : va_P D cl (([c0, c1, c2, c3, c4, c5, c6, c7, c8, c9, c10]).set 7 d) H) (hD : va_D A (([c0, c1, c2, c3, c4, c5, c6, c7, c8, c9, c10]).set 7 d)) (h : d = e) : va_P D cl ([c0, c1, c2, c3, c4, c5, c6, e, c8, c9, c10]) H ∧ va_D A ([c0, c1, c2, c3, c4, c5, c6, e, c8, c9, c10]) := by subst h; exact ⟨hP, hD⟩
theorem rgP11_d56c163 {D : va_G} {cl : List vw_C} {H : Heap} {c0 c1 c2 c3 c4 c5 c6 c7 c8 c9 c10 : Nat × va_E} (h : va_P D cl ([c0, c1, c2, c3, c4, c5, c6, c7, c8, c9, c10]) H) : va_P D cl ([c0, c4, c5, c6]) H := h.sub (ws' := [c0, c4, c5, c6]) [0, 4, 5, 6] rfl
theorem rgK7_d4890ae {D : va_G} {cl : List vw_C} {U : State} {t0 t1 t2 t3 t4 t5 t6 : ClassId × FieldType} (h : va_K D cl [t0, t1, t2, t3, t4, t5, t6] U) : va_K D cl [t2, t3, t4] U := h.sub (tys' := [t2, t3, t4]) [2, 3, 4] rfl
theorem rgD11_83208e9 {A : Nat → Prop} {c0 c1 c2 c3 c4 c5 c6 c7 c8 c9 c10 : Nat × va_E} (h : va_D A ([c0, c1, c2, c3, c4, c5, c6, c7, c8, c9, c10])) : va_D A ([c0, c4, c5, c6]) := h.sub (ws' := [c0, c4, c5, c6]) [0, 4, 5, 6] (by decide +kernel) rfl
theorem rgJ11_6c2858c {A0 : Nat → Prop} {D : va_G} {cl : List vw_C} {H H1 : Heap} {c0 c1 c2 c3 c4 c5 c6 c7 c8 c9 c10 : Nat × va_E} {d0 d1 d2 d3 : Nat × va_E} (hP : va_P D cl ([c0, c1, c2, c3, c4, c5, c6, c7, c8, c9, c10]) H) (hD : va_D A0 ([c0, c1, c2, c3, c4, c5, c6, c7, c8, c9, c10])) (hk : ∀ q : Nat, q < H.size → ¬ va_A ([c0, c4, c5, c6]) H.size q → H1[q]? = H[q]?) (hF : ∀ q, va_A ([c0, c4, c5, c6]) H.size q → A0 q) (hP1 : va_P D cl ([d0, d1, d2, d3]) H1) (hD1 : va_D (va_A ([c0, c4, c5, c6]) H.size) ([d0, d1, d2, d3])) : va_P D cl ([d0, c1, c2, c3, d1, d2, d3, c7, c8, c9, c10]) H1 ∧ va_D A0 ([d0, c1, c2, c3, d1, d2, d3, c7, c8, c9, c10]) := by
  obtain ⟨h1, h2⟩ := va_join (ws := [c0, c1, c2, c3, c4, c5, c6, c7, c8, c9, c10]) (wc := [c0, c4, c5, c6]) (wr := [c1, c2, c3, c7, c8, c9, c10]) (w1 := [d0, d1, d2, d3]) hP hD [0, 4, 5, 6] [1, 2, 3, 7, 8, 9, 10] rfl rfl (by decide +kernel) (by decide +kernel) hk hF hP1 hD1
  exact ⟨va_P.sub (ws := [c1, c2, c3, c7, c8, c9, c10, d0, d1, d2, d3]) (ws' := [d0, c1, c2, c3, d1, d2, d3, c7, c8, c9, c10]) h1 [7, 0, 1, 2, 8, 9, 10, 3, 4, 5, 6] rfl, va_D.sub (ws := [c1, c2, c3, c7, c8, c9, c10, d0, d1, d2, d3]) (ws' := [d0, c1, c2, c3, d1, d2, d3, c7, c8, c9, c10]) h2 [7, 0, 1, 2, 8, 9, 10, 3, 4, 5, 6] (by decide +kernel) rfl⟩
theorem rgP11_d67a011 {D : va_G} {cl : List vw_C} {H : Heap} {c0 c1 c2 c3 c4 c5 c6 c7 c8 c9 c10 : Nat × va_E} (h : va_P D cl ([c0, c1, c2, c3, c4, c5, c6, c7, c8, c9, c10]) H) : va_P D cl ([c0]) H := h.sub (ws' := [c0]) [0] rfl
theorem rgD11_477d17b {A : Nat → Prop} {c0 c1 c2 c3 c4 c5 c6 c7 c8 c9 c10 : Nat × va_E} (h : va_D A ([c0, c1, c2, c3, c4, c5, c6, c7, c8, c9, c10])) : va_D A ([c0]) := h.sub (ws' := [c0]) [0] (by decide +kernel) rfl
theorem rgJ11_332d6be {A0 : Nat → Prop} {D : va_G} {cl : List vw_C} {H H1 : Heap} {c0 c1 c2 c3 c4 c5 c6 c7 c8 c9 c10 : Nat × va_E} {d0 : Nat × va_E} (hP : va_P D cl ([c0, c1, c2, c3, c4, c5, c6, c7, c8, c9, c10]) H) (hD : va_D A0 ([c0, c1, c2, c3, c4, c5, c6, c7, c8, c9, c10])) (hk : ∀ q : Nat, q < H.size → ¬ va_A ([c0]) H.size q → H1[q]? = H[q]?) (hF : ∀ q, va_A ([c0]) H.size q → A0 q) (hP1 : va_P D cl ([d0]) H1) (hD1 : va_D (va_A ([c0]) H.size) ([d0])) : va_P D cl ([d0, c1, c2, c3, c4, c5, c6, c7, c8, c9, c10]) H1 ∧ va_D A0 ([d0, c1, c2, c3, c4, c5, c6, c7, c8, c9, c10]) := by
  obtain ⟨h1, h2⟩ := va_join (ws := [c0, c1, c2, c3, c4, c5, c6, c7, c8, c9, c10]) (wc := [c0]) (wr := [c1, c2, c3, c4, c5, c6, c7, c8, c9, c10]) (w1 := [d0]) hP hD [0] [1, 2, 3, 4, 5, 6, 7, 8, 9, 10] rfl rfl (by decide +kernel) (by decide +kernel) hk hF hP1 hD1
  exact ⟨va_P.sub (ws := [c1, c2, c3, c4, c5, c6, c7, c8, c9, c10, d0]) (ws' := [d0, c1, c2, c3, c4, c5, c6, c7, c8, c9, c10]) h1 [10, 0, 1, 2, 3, 4, 5, 6, 7, 8, 9] rfl, va_D.sub (ws := [c1, c2, c3, c4, c5, c6, c7, c8, c9, c10, d0]) (ws' := [d0, c1, c2, c3, c4, c5, c6, c7, c8, c9, c10]) h2 [10, 0, 1, 2, 3, 4, 5, 6, 7, 8, 9] (by decide +kernel) rfl⟩
theorem rgL9_1eb08b1 {c0 c1 c2 c3 c4 c5 c6 c7 c8 : Nat × va_E} : (([c0, c1, c2, c3, c4, c5, c6, c7, c8] : va_W))[7]? = some c7 := rfl
theorem rgL9_97de23c {c0 c1 c2 c3 c4 c5 c6 c7 c8 : Nat × va_E} : (([c0, c1, c2, c3, c4, c5, c6, c7, c8] : va_W))[0]? = some c0 := rfl
theorem rgP9_bc50c9e {D : va_G} {cl : List vw_C} {H : Heap} {c0 c1 c2 c3 c4 c5 c6 c7 c8 : Nat × va_E} (h : va_P D cl ([c0, c1, c2, c3, c4, c5, c6, c7, c8]) H) : va_P D cl ([c1, c2, c3]) H := h.sub (ws' := [c1, c2, c3]) [1, 2, 3] rfl
theorem rgK6_0ca43e9 {D : va_G} {cl : List vw_C} {U : State} {t0 t1 t2 t3 t4 t5 : ClassId × FieldType} (h : va_K D cl [t0, t1, t2, t3, t4, t5] U) : va_K D cl [t0, t1] U := h.sub (tys' := [t0, t1]) [0, 1] rfl
theorem rgD9_1b87c1d {A : Nat → Prop} {c0 c1 c2 c3 c4 c5 c6 c7 c8 : Nat × va_E} (h : va_D A ([c0, c1, c2, c3, c4, c5, c6, c7, c8])) : va_D A ([c1, c2, c3]) := h.sub (ws' := [c1, c2, c3]) [1, 2, 3] (by decide +kernel) rfl
theorem rgL9_8416470 {c0 c1 c2 c3 c4 c5 c6 c7 c8 : Nat × va_E} : (([c0, c1, c2, c3, c4, c5, c6, c7, c8] : va_W))[1]? = some c1 := rfl
theorem rgJ9_c471e7c {A0 : Nat → Prop} {D : va_G} {cl : List vw_C} {H H1 : Heap} {c0 c1 c2 c3 c4 c5 c6 c7 c8 : Nat × va_E} {d0 d1 d2 : Nat × va_E} (hP : va_P D cl ([c0, c1, c2, c3, c4, c5, c6, c7, c8]) H) (hD : va_D A0 ([c0, c1, c2, c3, c4, c5, c6, c7, c8])) (hk : ∀ q : Nat, q < H.size → ¬ va_A ([c1, c2, c3]) H.size q → H1[q]? = H[q]?) (hF : ∀ q, va_A ([c1, c2, c3]) H.size q → A0 q) (hP1 : va_P D cl ([d0, d1, d2]) H1) (hD1 : va_D (va_A ([c1, c2, c3]) H.size) ([d0, d1, d2])) : va_P D cl ([c0, d0, d1, d2, c4, c5, c6, c7, c8]) H1 ∧ va_D A0 ([c0, d0, d1, d2, c4, c5, c6, c7, c8]) := by
  obtain ⟨h1, h2⟩ := va_join (ws := [c0, c1, c2, c3, c4, c5, c6, c7, c8]) (wc := [c1, c2, c3]) (wr := [c0, c4, c5, c6, c7, c8]) (w1 := [d0, d1, d2]) hP hD [1, 2, 3] [0, 4, 5, 6, 7, 8] rfl rfl (by decide +kernel) (by decide +kernel) hk hF hP1 hD1
  exact ⟨va_P.sub (ws := [c0, c4, c5, c6, c7, c8, d0, d1, d2]) (ws' := [c0, d0, d1, d2, c4, c5, c6, c7, c8]) h1 [0, 6, 7, 8, 1, 2, 3, 4, 5] rfl, va_D.sub (ws := [c0, c4, c5, c6, c7, c8, d0, d1, d2]) (ws' := [c0, d0, d1, d2, c4, c5, c6, c7, c8]) h2 [0, 6, 7, 8, 1, 2, 3, 4, 5] (by decide +kernel) rfl⟩
theorem rgP9_60efad1 {D : va_G} {cl : List vw_C} {H : Heap} {c0 c1 c2 c3 c4 c5 c6 c7 c8 : Nat × va_E} (h : va_P D cl ([c0, c1, c2, c3, c4, c5, c6, c7, c8]) H) : va_P D cl ([c0, c1, c2, c3, c4]) H := h.sub (ws' := [c0, c1, c2, c3, c4]) [0, 1, 2, 3, 4] rfl
theorem rgK6_96ec0d8 {D : va_G} {cl : List vw_C} {U : State} {t0 t1 t2 t3 t4 t5 : ClassId × FieldType} (h : va_K D cl [t0, t1, t2, t3, t4, t5] U) : va_K D cl [t0, t1, t2] U := h.sub (tys' := [t0, t1, t2]) [0, 1, 2] rfl
theorem rgD9_c0d146e {A : Nat → Prop} {c0 c1 c2 c3 c4 c5 c6 c7 c8 : Nat × va_E} (h : va_D A ([c0, c1, c2, c3, c4, c5, c6, c7, c8])) : va_D A ([c0, c1, c2, c3, c4]) := h.sub (ws' := [c0, c1, c2, c3, c4]) [0, 1, 2, 3, 4] (by decide +kernel) rfl
theorem rgJ9_35323dd {A0 : Nat → Prop} {D : va_G} {cl : List vw_C} {H H1 : Heap} {c0 c1 c2 c3 c4 c5 c6 c7 c8 : Nat × va_E} {d0 d1 d2 d3 d4 : Nat × va_E} (hP : va_P D cl ([c0, c1, c2, c3, c4, c5, c6, c7, c8]) H) (hD : va_D A0 ([c0, c1, c2, c3, c4, c5, c6, c7, c8])) (hk : ∀ q : Nat, q < H.size → ¬ va_A ([c0, c1, c2, c3, c4]) H.size q → H1[q]? = H[q]?) (hF : ∀ q, va_A ([c0, c1, c2, c3, c4]) H.size q → A0 q) (hP1 : va_P D cl ([d0, d1, d2, d3, d4]) H1) (hD1 : va_D (va_A ([c0, c1, c2, c3, c4]) H.size) ([d0, d1, d2, d3, d4])) : va_P D cl ([d0, d1, d2, d3, d4, c5, c6, c7, c8]) H1 ∧ va_D A0 ([d0, d1, d2, d3, d4, c5, c6, c7, c8]) := by
  obtain ⟨h1, h2⟩ := va_join (ws := [c0, c1, c2, c3, c4, c5, c6, c7, c8]) (wc := [c0, c1, c2, c3, c4]) (wr := [c5, c6, c7, c8]) (w1 := [d0, d1, d2, d3, d4]) hP hD [0, 1, 2, 3, 4] [5, 6, 7, 8] rfl rfl (by decide +kernel) (by decide +kernel) hk hF hP1 hD1
  exact ⟨va_P.sub (ws := [c5, c6, c7, c8, d0, d1, d2, d3, d4]) (ws' := [d0, d1, d2, d3, d4, c5, c6, c7, c8]) h1 [4, 5, 6, 7, 8, 0, 1, 2, 3] rfl, va_D.sub (ws := [c5, c6, c7, c8, d0, d1, d2, d3, d4]) (ws' := [d0, d1, d2, d3, d4, c5, c6, c7, c8]) h2 [4, 5, 6, 7, 8, 0, 1, 2, 3] (by decide +kernel) rfl⟩
theorem rgP9_fbc4554 {D : va_G} {cl : List vw_C} {H : Heap} {c0 c1 c2 c3 c4 c5 c6 c7 c8 : Nat × va_E} (h : va_P D cl ([c0, c1, c2, c3, c4, c5, c6, c7, c8]) H) : va_P D cl ([c0, c1, c2, c3]) H := h.sub (ws' := [c0, c1, c2, c3]) [0, 1, 2, 3] rfl
theorem rgD9_0e61245 {A : Nat → Prop} {c0 c1 c2 c3 c4 c5 c6 c7 c8 : Nat × va_E} (h : va_D A ([c0, c1, c2, c3, c4, c5, c6, c7, c8])) : va_D A ([c0, c1, c2, c3]) := h.sub (ws' := [c0, c1, c2, c3]) [0, 1, 2, 3] (by decide +kernel) rfl
theorem rgJ9_c22b2e3 {A0 : Nat → Prop} {D : va_G} {cl : List vw_C} {H H1 : Heap} {c0 c1 c2 c3 c4 c5 c6 c7 c8 : Nat × va_E} {d0 d1 d2 d3 : Nat × va_E} (hP : va_P D cl ([c0, c1, c2, c3, c4, c5, c6, c7, c8]) H) (hD : va_D A0 ([c0, c1, c2, c3, c4, c5, c6, c7, c8])) (hk : ∀ q : Nat, q < H.size → ¬ va_A ([c0, c1, c2, c3]) H.size q → H1[q]? = H[q]?) (hF : ∀ q, va_A ([c0, c1, c2, c3]) H.size q → A0 q) (hP1 : va_P D cl ([d0, d1, d2, d3]) H1) (hD1 : va_D (va_A ([c0, c1, c2, c3]) H.size) ([d0, d1, d2, d3])) : va_P D cl ([d0, d1, d2, d3, c4, c5, c6, c7, c8]) H1 ∧ va_D A0 ([d0, d1, d2, d3, c4, c5, c6, c7, c8]) := by
  obtain ⟨h1, h2⟩ := va_join (ws := [c0, c1, c2, c3, c4, c5, c6, c7, c8]) (wc := [c0, c1, c2, c3]) (wr := [c4, c5, c6, c7, c8]) (w1 := [d0, d1, d2, d3]) hP hD [0, 1, 2, 3] [4, 5, 6, 7, 8] rfl rfl (by decide +kernel) (by decide +kernel) hk hF hP1 hD1
  exact ⟨va_P.sub (ws := [c4, c5, c6, c7, c8, d0, d1, d2, d3]) (ws' := [d0, d1, d2, d3, c4, c5, c6, c7, c8]) h1 [5, 6, 7, 8, 0, 1, 2, 3, 4] rfl, va_D.sub (ws := [c4, c5, c6, c7, c8, d0, d1, d2, d3]) (ws' := [d0, d1, d2, d3, c4, c5, c6, c7, c8]) h2 [5, 6, 7, 8, 0, 1, 2, 3, 4] (by decide +kernel) rfl⟩
theorem rgL9_852c3b0 {c0 c1 c2 c3 c4 c5 c6 c7 c8 : Nat × va_E} : (([c0, c1, c2, c3, c4, c5, c6, c7, c8] : va_W))[8]? = some c8 := rfl
theorem rgT6_f6e22b4 {t0 t1 t2 t3 t4 t5 : ClassId × FieldType} : (([t0, t1, t2, t3, t4, t5] : List (ClassId × FieldType)))[5]? = some t5 := rfl
theorem rgS9_f080df2 {A : Nat → Prop} {D : va_G} {cl : List vw_C} {H : Heap} {c0 c1 c2 c3 c4 c5 c6 c7 c8 : Nat × va_E} {d e : Nat × va_E} (hP : va_P D cl (([c0, c1, c2, c3, c4, c5, c6, c7, c8]).set 8 d) H) (hD : va_D A (([c0, c1, c2, c3, c4, c5, c6, c7, c8]).set 8 d)) (h : d = e) : va_P D cl ([c0, c1, c2, c3, c4, c5, c6, c7, e]) H ∧ va_D A ([c0, c1, c2, c3, c4, c5, c6, c7, e]) := by subst h; exact ⟨hP, hD⟩
theorem rgK6_eadb845 {D : va_G} {cl : List vw_C} {U : State} {t0 t1 t2 t3 t4 t5 : ClassId × FieldType} (h : va_K D cl [t0, t1, t2, t3, t4, t5] U) : va_K D cl [] U := h.sub (tys' := []) [] rfl
theorem rgS9_55c93b5 {A : Nat → Prop} {D : va_G} {cl : List vw_C} {H : Heap} {c0 c1 c2 c3 c4 c5 c6 c7 c8 : Nat × va_E} {d e : Nat × va_E} (hP : va_P D cl (([c0, c1, c2, c3, c4, c5, c6, c7, c8]).set 7 d) H) (hD : va_D A (([c0, c1, c2, c3, c4, c5, c6, c7, c8]).set 7 d)) (h : d = e) : va_P D cl ([c0, c1, c2, c3, c4, c5, c6, e, c8]) H ∧ va_D A ([c0, c1, c2, c3, c4, c5, c6, e, c8]) := by subst h; exact ⟨hP, hD⟩
theorem rgP9_97901ea {D : va_G} {cl : List vw_C} {H : Heap} {c0 c1 c2 c3 c4 c5 c6 c7 c8 : Nat × va_E} (h : va_P D cl ([c0, c1, c2, c3, c4, c5, c6, c7, c8]) H) : va_P D cl ([c0, c4, c5, c6]) H := h.sub (ws' := [c0, c4, c5, c6]) [0, 4, 5, 6] rfl
theorem rgK6_3fadc8a {D : va_G} {cl : List vw_C} {U : State} {t0 t1 t2 t3 t4 t5 : ClassId × FieldType} (h : va_K D cl [t0, t1, t2, t3, t4, t5] U) : va_K D cl [t2, t3, t4] U := h.sub (tys' := [t2, t3, t4]) [2, 3, 4] rfl
theorem rgD9_80b6470 {A : Nat → Prop} {c0 c1 c2 c3 c4 c5 c6 c7 c8 : Nat × va_E} (h : va_D A ([c0, c1, c2, c3, c4, c5, c6, c7, c8])) : va_D A ([c0, c4, c5, c6]) := h.sub (ws' := [c0, c4, c5, c6]) [0, 4, 5, 6] (by decide +kernel) rfl
theorem rgJ9_4463bd3 {A0 : Nat → Prop} {D : va_G} {cl : List vw_C} {H H1 : Heap} {c0 c1 c2 c3 c4 c5 c6 c7 c8 : Nat × va_E} {d0 d1 d2 d3 : Nat × va_E} (hP : va_P D cl ([c0, c1, c2, c3, c4, c5, c6, c7, c8]) H) (hD : va_D A0 ([c0, c1, c2, c3, c4, c5, c6, c7, c8])) (hk : ∀ q : Nat, q < H.size → ¬ va_A ([c0, c4, c5, c6]) H.size q → H1[q]? = H[q]?) (hF : ∀ q, va_A ([c0, c4, c5, c6]) H.size q → A0 q) (hP1 : va_P D cl ([d0, d1, d2, d3]) H1) (hD1 : va_D (va_A ([c0, c4, c5, c6]) H.size) ([d0, d1, d2, d3])) : va_P D cl ([d0, c1, c2, c3, d1, d2, d3, c7, c8]) H1 ∧ va_D A0 ([d0, c1, c2, c3, d1, d2, d3, c7, c8]) := by
  obtain ⟨h1, h2⟩ := va_join (ws := [c0, c1, c2, c3, c4, c5, c6, c7, c8]) (wc := [c0, c4, c5, c6]) (wr := [c1, c2, c3, c7, c8]) (w1 := [d0, d1, d2, d3]) hP hD [0, 4, 5, 6] [1, 2, 3, 7, 8] rfl rfl (by decide +kernel) (by decide +kernel) hk hF hP1 hD1
  exact ⟨va_P.sub (ws := [c1, c2, c3, c7, c8, d0, d1, d2, d3]) (ws' := [d0, c1, c2, c3, d1, d2, d3, c7, c8]) h1 [5, 0, 1, 2, 6, 7, 8, 3, 4] rfl, va_D.sub (ws := [c1, c2, c3, c7, c8, d0, d1, d2, d3]) (ws' := [d0, c1, c2, c3, d1, d2, d3, c7, c8]) h2 [5, 0, 1, 2, 6, 7, 8, 3, 4] (by decide +kernel) rfl⟩
theorem rgP9_cb41b5f {D : va_G} {cl : List vw_C} {H : Heap} {c0 c1 c2 c3 c4 c5 c6 c7 c8 : Nat × va_E} (h : va_P D cl ([c0, c1, c2, c3, c4, c5, c6, c7, c8]) H) : va_P D cl ([c0]) H := h.sub (ws' := [c0]) [0] rfl
theorem rgD9_428f3ed {A : Nat → Prop} {c0 c1 c2 c3 c4 c5 c6 c7 c8 : Nat × va_E} (h : va_D A ([c0, c1, c2, c3, c4, c5, c6, c7, c8])) : va_D A ([c0]) := h.sub (ws' := [c0]) [0] (by decide +kernel) rfl
theorem rgJ9_deacaee {A0 : Nat → Prop} {D : va_G} {cl : List vw_C} {H H1 : Heap} {c0 c1 c2 c3 c4 c5 c6 c7 c8 : Nat × va_E} {d0 : Nat × va_E} (hP : va_P D cl ([c0, c1, c2, c3, c4, c5, c6, c7, c8]) H) (hD : va_D A0 ([c0, c1, c2, c3, c4, c5, c6, c7, c8])) (hk : ∀ q : Nat, q < H.size → ¬ va_A ([c0]) H.size q → H1[q]? = H[q]?) (hF : ∀ q, va_A ([c0]) H.size q → A0 q) (hP1 : va_P D cl ([d0]) H1) (hD1 : va_D (va_A ([c0]) H.size) ([d0])) : va_P D cl ([d0, c1, c2, c3, c4, c5, c6, c7, c8]) H1 ∧ va_D A0 ([d0, c1, c2, c3, c4, c5, c6, c7, c8]) := by
  obtain ⟨h1, h2⟩ := va_join (ws := [c0, c1, c2, c3, c4, c5, c6, c7, c8]) (wc := [c0]) (wr := [c1, c2, c3, c4, c5, c6, c7, c8]) (w1 := [d0]) hP hD [0] [1, 2, 3, 4, 5, 6, 7, 8] rfl rfl (by decide +kernel) (by decide +kernel) hk hF hP1 hD1
  exact ⟨va_P.sub (ws := [c1, c2, c3, c4, c5, c6, c7, c8, d0]) (ws' := [d0, c1, c2, c3, c4, c5, c6, c7, c8]) h1 [8, 0, 1, 2, 3, 4, 5, 6, 7] rfl, va_D.sub (ws := [c1, c2, c3, c4, c5, c6, c7, c8, d0]) (ws' := [d0, c1, c2, c3, c4, c5, c6, c7, c8]) h2 [8, 0, 1, 2, 3, 4, 5, 6, 7] (by decide +kernel) rfl⟩
theorem rgL13_37f2d2a {c0 c1 c2 c3 c4 c5 c6 c7 c8 c9 c10 c11 c12 : Nat × va_E} : (([c0, c1, c2, c3, c4, c5, c6, c7, c8, c9, c10, c11, c12] : va_W))[7]? = some c7 := rfl
theorem rgL13_890e5ad {c0 c1 c2 c3 c4 c5 c6 c7 c8 c9 c10 c11 c12 : Nat × va_E} : (([c0, c1, c2, c3, c4, c5, c6, c7, c8, c9, c10, c11, c12] : va_W))[0]? = some c0 := rfl
theorem rgP13_17b4e51 {D : va_G} {cl : List vw_C} {H : Heap} {c0 c1 c2 c3 c4 c5 c6 c7 c8 c9 c10 c11 c12 : Nat × va_E} (h : va_P D cl ([c0, c1, c2, c3, c4, c5, c6, c7, c8, c9, c10, c11, c12]) H) : va_P D cl ([c1, c2, c3]) H := h.sub (ws' := [c1, c2, c3]) [1, 2, 3] rfl
theorem rgK9_2a876ff {D : va_G} {cl : List vw_C} {U : State} {t0 t1 t2 t3 t4 t5 t6 t7 t8 : ClassId × FieldType} (h : va_K D cl [t0, t1, t2, t3, t4, t5, t6, t7, t8] U) : va_K D cl [t0, t1] U := h.sub (tys' := [t0, t1]) [0, 1] rfl
theorem rgD13_e5bb7df {A : Nat → Prop} {c0 c1 c2 c3 c4 c5 c6 c7 c8 c9 c10 c11 c12 : Nat × va_E} (h : va_D A ([c0, c1, c2, c3, c4, c5, c6, c7, c8, c9, c10, c11, c12])) : va_D A ([c1, c2, c3]) := h.sub (ws' := [c1, c2, c3]) [1, 2, 3] (by decide +kernel) rfl
theorem rgL13_042e8a6 {c0 c1 c2 c3 c4 c5 c6 c7 c8 c9 c10 c11 c12 : Nat × va_E} : (([c0, c1, c2, c3, c4, c5, c6, c7, c8, c9, c10, c11, c12] : va_W))[1]? = some c1 := rfl
theorem rgJ13_e1b1c38 {A0 : Nat → Prop} {D : va_G} {cl : List vw_C} {H H1 : Heap} {c0 c1 c2 c3 c4 c5 c6 c7 c8 c9 c10 c11 c12 : Nat × va_E} {d0 d1 d2 : Nat × va_E} (hP : va_P D cl ([c0, c1, c2, c3, c4, c5, c6, c7, c8, c9, c10, c11, c12]) H) (hD : va_D A0 ([c0, c1, c2, c3, c4, c5, c6, c7, c8, c9, c10, c11, c12])) (hk : ∀ q : Nat, q < H.size → ¬ va_A ([c1, c2, c3]) H.size q → H1[q]? = H[q]?) (hF : ∀ q, va_A ([c1, c2, c3]) H.size q → A0 q) (hP1 : va_P D cl ([d0, d1, d2]) H1) (hD1 : va_D (va_A ([c1, c2, c3]) H.size) ([d0, d1, d2])) : va_P D cl ([c0, d0, d1, d2, c4, c5, c6, c7, c8, c9, c10, c11, c12]) H1 ∧ va_D A0 ([c0, d0, d1, d2, c4, c5, c6, c7, c8, c9, c10, c11, c12]) := by
  obtain ⟨h1, h2⟩ := va_join (ws := [c0, c1, c2, c3, c4, c5, c6, c7, c8, c9, c10, c11, c12]) (wc := [c1, c2, c3]) (wr := [c0, c4, c5, c6, c7, c8, c9, c10, c11, c12]) (w1 := [d0, d1, d2]) hP hD [1, 2, 3] [0, 4, 5, 6, 7, 8, 9, 10, 11, 12] rfl rfl (by decide +kernel) (by decide +kernel) hk hF hP1 hD1
  exact ⟨va_P.sub (ws := [c0, c4, c5, c6, c7, c8, c9, c10, c11, c12, d0, d1, d2]) (ws' := [c0, d0, d1, d2, c4, c5, c6, c7, c8, c9, c10, c11, c12]) h1 [0, 10, 11, 12, 1, 2, 3, 4, 5, 6, 7, 8, 9] rfl, va_D.sub (ws := [c0, c4, c5, c6, c7, c8, c9, c10, c11, c12, d0, d1, d2]) (ws' := [c0, d0, d1, d2, c4, c5, c6, c7, c8, c9, c10, c11, c12]) h2 [0, 10, 11, 12, 1, 2, 3, 4, 5, 6, 7, 8, 9] (by decide +kernel) rfl⟩
theorem rgP13_083a1f4 {D : va_G} {cl : List vw_C} {H : Heap} {c0 c1 c2 c3 c4 c5 c6 c7 c8 c9 c10 c11 c12 : Nat × va_E} (h : va_P D cl ([c0, c1, c2, c3, c4, c5, c6, c7, c8, c9, c10, c11, c12]) H) : va_P D cl ([c0, c1, c2, c3, c4]) H := h.sub (ws' := [c0, c1, c2, c3, c4]) [0, 1, 2, 3, 4] rfl
theorem rgK9_8c12c1d {D : va_G} {cl : List vw_C} {U : State} {t0 t1 t2 t3 t4 t5 t6 t7 t8 : ClassId × FieldType} (h : va_K D cl [t0, t1, t2, t3, t4, t5, t6, t7, t8] U) : va_K D cl [t0, t1, t2] U := h.sub (tys' := [t0, t1, t2]) [0, 1, 2] rfl
theorem rgD13_99fac62 {A : Nat → Prop} {c0 c1 c2 c3 c4 c5 c6 c7 c8 c9 c10 c11 c12 : Nat × va_E} (h : va_D A ([c0, c1, c2, c3, c4, c5, c6, c7, c8, c9, c10, c11, c12])) : va_D A ([c0, c1, c2, c3, c4]) := h.sub (ws' := [c0, c1, c2, c3, c4]) [0, 1, 2, 3, 4] (by decide +kernel) rfl
theorem rgJ13_cb5dedb {A0 : Nat → Prop} {D : va_G} {cl : List vw_C} {H H1 : Heap} {c0 c1 c2 c3 c4 c5 c6 c7 c8 c9 c10 c11 c12 : Nat × va_E} {d0 d1 d2 d3 d4 : Nat × va_E} (hP : va_P D cl ([c0, c1, c2, c3, c4, c5, c6, c7, c8, c9, c10, c11, c12]) H) (hD : va_D A0 ([c0, c1, c2, c3, c4, c5, c6, c7, c8, c9, c10, c11, c12])) (hk : ∀ q : Nat, q < H.size → ¬ va_A ([c0, c1, c2, c3, c4]) H.size q → H1[q]? = H[q]?) (hF : ∀ q, va_A ([c0, c1, c2, c3, c4]) H.size q → A0 q) (hP1 : va_P D cl ([d0, d1, d2, d3, d4]) H1) (hD1 : va_D (va_A ([c0, c1, c2, c3, c4]) H.size) ([d0, d1, d2, d3, d4])) : va_P D cl ([d0, d1, d2, d3, d4, c5, c6, c7, c8, c9, c10, c11, c12]) H1 ∧ va_D A0 ([d0, d1, d2, d3, d4, c5, c6, c7, c8, c9, c10, c11, c12]) := by
  obtain ⟨h1, h2⟩ := va_join (ws := [c0, c1, c2, c3, c4, c5, c6, c7, c8, c9, c10, c11, c12]) (wc := [c0, c1, c2, c3, c4]) (wr := [c5, c6, c7, c8, c9, c10, c11, c12]) (w1 := [d0, d1, d2, d3, d4]) hP hD [0, 1, 2, 3, 4] [5, 6, 7, 8, 9, 10, 11, 12] rfl rfl (by decide +kernel) (by decide +kernel) hk hF hP1 hD1
  exact ⟨va_P.sub (ws := [c5, c6, c7, c8, c9, c10, c11, c12, d0, d1, d2, d3, d4]) (ws' := [d0, d1, d2, d3, d4, c5, c6, c7, c8, c9, c10, c11, c12]) h1 [8, 9, 10, 11, 12, 0, 1, 2, 3, 4, 5, 6, 7] rfl, va_D.sub (ws := [c5, c6, c7, c8, c9, c10, c11, c12, d0, d1, d2, d3, d4]) (ws' := [d0, d1, d2, d3, d4, c5, c6, c7, c8, c9, c10, c11, c12]) h2 [8, 9, 10, 11, 12, 0, 1, 2, 3, 4, 5, 6, 7] (by decide +kernel) rfl⟩
theorem rgL13_cc99607 {c0 c1 c2 c3 c4 c5 c6 c7 c8 c9 c10 c11 c12 : Nat × va_E} : (([c0, c1, c2, c3, c4, c5, c6, c7, c8, c9, c10, c11, c12] : va_W))[11]? = some c11 := rfl
theorem rgP13_688883d {D : va_G} {cl : List vw_C} {H : Heap} {c0 c1 c2 c3 c4 c5 c6 c7 c8 c9 c10 c11 c12 : Nat × va_E} (h : va_P D cl ([c0, c1, c2, c3, c4, c5, c6, c7, c8, c9, c10, c11, c12]) H) : va_P D cl ([c0, c1, c2, c3]) H := h.sub (ws' := [c0, c1, c2, c3]) [0, 1, 2, 3] rfl
theorem rgD13_143f4da {A : Nat → Prop} {c0 c1 c2 c3 c4 c5 c6 c7 c8 c9 c10 c11 c12 : Nat × va_E} (h : va_D A ([c0, c1, c2, c3, c4, c5, c6, c7, c8, c9, c10, c11, c12])) : va_D A ([c0, c1, c2, c3]) := h.sub (ws' := [c0, c1, c2, c3]) [0, 1, 2, 3] (by decide +kernel) rfl
theorem rgJ13_d0dfb98 {A0 : Nat → Prop} {D : va_G} {cl : List vw_C} {H H1 : Heap} {c0 c1 c2 c3 c4 c5 c6 c7 c8 c9 c10 c11 c12 : Nat × va_E} {d0 d1 d2 d3 : Nat × va_E} (hP : va_P D cl ([c0, c1, c2, c3, c4, c5, c6, c7, c8, c9, c10, c11, c12]) H) (hD : va_D A0 ([c0, c1, c2, c3, c4, c5, c6, c7, c8, c9, c10, c11, c12])) (hk : ∀ q : Nat, q < H.size → ¬ va_A ([c0, c1, c2, c3]) H.size q → H1[q]? = H[q]?) (hF : ∀ q, va_A ([c0, c1, c2, c3]) H.size q → A0 q) (hP1 : va_P D cl ([d0, d1, d2, d3]) H1) (hD1 : va_D (va_A ([c0, c1, c2, c3]) H.size) ([d0, d1, d2, d3])) : va_P D cl ([d0, d1, d2, d3, c4, c5, c6, c7, c8, c9, c10, c11, c12]) H1 ∧ va_D A0 ([d0, d1, d2, d3, c4, c5, c6, c7, c8, c9, c10, c11, c12]) := by
  obtain ⟨h1, h2⟩ := va_join (ws := [c0, c1, c2, c3, c4, c5, c6, c7, c8, c9, c10, c11, c12]) (wc := [c0, c1, c2, c3]) (wr := [c4, c5, c6, c7, c8, c9, c10, c11, c12]) (w1 := [d0, d1, d2, d3]) hP hD [0, 1, 2, 3] [4, 5, 6, 7, 8, 9, 10, 11, 12] rfl rfl (by decide +kernel) (by decide +kernel) hk hF hP1 hD1
  exact ⟨va_P.sub (ws := [c4, c5, c6, c7, c8, c9, c10, c11, c12, d0, d1, d2, d3]) (ws' := [d0, d1, d2, d3, c4, c5, c6, c7, c8, c9, c10, c11, c12]) h1 [9, 10, 11, 12, 0, 1, 2, 3, 4, 5, 6, 7, 8] rfl, va_D.sub (ws := [c4, c5, c6, c7, c8, c9, c10, c11, c12, d0, d1, d2, d3]) (ws' := [d0, d1, d2, d3, c4, c5, c6, c7, c8, c9, c10, c11, c12]) h2 [9, 10, 11, 12, 0, 1, 2, 3, 4, 5, 6, 7, 8] (by decide +kernel) rfl⟩
theorem rgL13_551ea76 {c0 c1 c2 c3 c4 c5 c6 c7 c8 c9 c10 c11 c12 : Nat × va_E} : (([c0, c1, c2, c3, c4, c5, c6, c7, c8, c9, c10, c11, c12] : va_W))[12]? = some c12 := rfl
theorem rgS13_979e4b8 {A : Nat → Prop} {D : va_G} {cl : List vw_C} {H : Heap} {c0 c1 c2 c3 c4 c5 c6 c7 c8 c9 c10 c11 c12 : Nat × va_E} {d e : Nat × va_E} (hP : va_P D cl (([c0, c1, c2, c3, c4, c5, c6, c7, c8, c9, c10, c11, c12]).set 12 d) H) (hD : va_D A (([c0, c1, c2, c3, c4, c5, c6, c7, c8, c9, c10, c11, c12]).set 12 d)) (h : d = e) : va_P D cl ([c0, c1, c2, c3, c4, c5, c6, c7, c8, c9, c10, c11, e]) H ∧ va_D A ([c0, c1, c2, c3, c4, c5, c6, c7, c8, c9, c10, c11, e]) := by subst h; exact ⟨hP, hD⟩
theorem rgL13_f102f36 {c0 c1 c2 c3 c4 c5 c6 c7 c8 c9 c10 c11 c12 : Nat × va_E} : (([c0, c1, c2, c3, c4, c5, c6, c7, c8, c9, c10, c11, c12] : va_W))[8]? = some c8 := rfl
theorem rgS13_f10bd06 {A : Nat → Prop} {D : va_G} {cl : List vw_C} {H : Heap} {c0 c1 c2 c3 c4 c5 c6 c7 c8 c9 c10 c11 c12 : Nat × va_E} {d e : Nat × va_E} (hP : va_P D cl (([c0, c1, c2, c3, c4, c5, c6, c7, c8, c9, c10, c11, c12]).set 8 d) H) (hD : va_D A (([c0, c1, c2, c3, c4, c5, c6, c7, c8, c9, c10, c11, c12]).set 8 d)) (h : d = e) : va_P D cl ([c0, c1, c2, c3, c4, c5, c6, c7, e, c9, c10, c11, c12]) H ∧ va_D A ([c0, c1, c2, c3, c4, c5, c6, c7, e, c9, c10, c11, c12]) := by subst h; exact ⟨hP, hD⟩
theorem rgP13_2c0acea {D : va_G} {cl : List vw_C} {H : Heap} {c0 c1 c2 c3 c4 c5 c6 c7 c8 c9 c10 c11 c12 : Nat × va_E} (h : va_P D cl ([c0, c1, c2, c3, c4, c5, c6, c7, c8, c9, c10, c11, c12]) H) : va_P D cl ([c0, c1, c2, c3, c4, c5, c6]) H := h.sub (ws' := [c0, c1, c2, c3, c4, c5, c6]) [0, 1, 2, 3, 4, 5, 6] rfl
theorem rgK9_ac80f80 {D : va_G} {cl : List vw_C} {U : State} {t0 t1 t2 t3 t4 t5 t6 t7 t8 : ClassId × FieldType} (h : va_K D cl [t0, t1, t2, t3, t4, t5, t6, t7, t8] U) : va_K D cl [t0, t1, t2, t3, t4] U := h.sub (tys' := [t0, t1, t2, t3, t4]) [0, 1, 2, 3, 4] rfl
theorem rgD13_2c0914f {A : Nat → Prop} {c0 c1 c2 c3 c4 c5 c6 c7 c8 c9 c10 c11 c12 : Nat × va_E} (h : va_D A ([c0, c1, c2, c3, c4, c5, c6, c7, c8, c9, c10, c11, c12])) : va_D A ([c0, c1, c2, c3, c4, c5, c6]) := h.sub (ws' := [c0, c1, c2, c3, c4, c5, c6]) [0, 1, 2, 3, 4, 5, 6] (by decide +kernel) rfl
theorem rgJ13_7c0c7c9 {A0 : Nat → Prop} {D : va_G} {cl : List vw_C} {H H1 : Heap} {c0 c1 c2 c3 c4 c5 c6 c7 c8 c9 c10 c11 c12 : Nat × va_E} {d0 d1 d2 d3 d4 d5 d6 : Nat × va_E} (hP : va_P D cl ([c0, c1, c2, c3, c4, c5, c6, c7, c8, c9, c10, c11, c12]) H) (hD : va_D A0 ([c0, c1, c2, c3, c4, c5, c6, c7, c8, c9, c10, c11, c12])) (hk : ∀ q : Nat, q < H.size → ¬ va_A ([c0, c1, c2, c3, c4, c5, c6]) H.size q → H1[q]? = H[q]?) (hF : ∀ q, va_A ([c0, c1, c2, c3, c4, c5, c6]) H.size q → A0 q) (hP1 : va_P D cl ([d0, d1, d2, d3, d4, d5, d6]) H1) (hD1 : va_D (va_A ([c0, c1, c2, c3, c4, c5, c6]) H.size) ([d0, d1, d2, d3, d4, d5, d6])) : va_P D cl ([d0, d1, d2, d3, d4, d5, d6, c7, c8, c9, c10, c11, c12]) H1 ∧ va_D A0 ([d0, d1, d2, d3, d4, d5, d6, c7, c8, c9, c10, c11, c12]) := by
  obtain ⟨h1, h2⟩ := va_join (ws := [c0, c1, c2, c3, c4, c5, c6, c7, c8, c9, c10, c11, c12]) (wc := [c0, c1, c2, c3, c4, c5, c6]) (wr := [c7, c8, c9, c10, c11, c12]) (w1 := [d0, d1, d2, d3, d4, d5, d6]) hP hD [0, 1, 2, 3, 4, 5, 6] [7, 8, 9, 10, 11, 12] rfl rfl (by decide +kernel) (by decide +kernel) hk hF hP1 hD1
  exact ⟨va_P.sub (ws := [c7, c8, c9, c10, c11, c12, d0, d1, d2, d3, d4, d5, d6]) (ws' := [d0, d1, d2, d3, d4, d5, d6, c7, c8, c9, c10, c11, c12]) h1 [6, 7, 8, 9, 10, 11, 12, 0, 1, 2, 3, 4, 5] rfl, va_D.sub (ws := [c7, c8, c9, c10, c11, c12, d0, d1, d2, d3, d4, d5, d6]) (ws' := [d0, d1, d2, d3, d4, d5, d6, c7, c8, c9, c10, c11, c12]) h2 [6, 7, 8, 9, 10, 11, 12, 0, 1, 2, 3, 4, 5] (by decide +kernel) rfl⟩
theorem rgL13_1206a9c {c0 c1 c2 c3 c4 c5 c6 c7 c8 c9 c10 c11 c12 : Nat × va_E} : (([c0, c1, c2, c3, c4, c5, c6, c7, c8, c9, c10, c11, c12] : va_W))[9]? = some c9 := rfl
theorem rgS13_b3ba14e {A : Nat → Prop} {D : va_G} {cl : List vw_C} {H : Heap} {c0 c1 c2 c3 c4 c5 c6 c7 c8 c9 c10 c11 c12 : Nat × va_E} {d e : Nat × va_E} (hP : va_P D cl (([c0, c1, c2, c3, c4, c5, c6, c7, c8, c9, c10, c11, c12]).set 9 d) H) (hD : va_D A (([c0, c1, c2, c3, c4, c5, c6, c7, c8, c9, c10, c11, c12]).set 9 d)) (h : d = e) : va_P D cl ([c0, c1, c2, c3, c4, c5, c6, c7, c8, e, c10, c11, c12]) H ∧ va_D A ([c0, c1, c2, c3, c4, c5, c6, c7, c8, e, c10, c11, c12]) := by subst h; exact ⟨hP, hD⟩
theorem rgL13_e69bf83 {c0 c1 c2 c3 c4 c5 c6 c7 c8 c9 c10 c11 c12 : Nat × va_E} : (([c0, c1, c2, c3, c4, c5, c6, c7, c8, c9, c10, c11, c12] : va_W))[10]? = some c10 := rfl
theorem rgS13_ab58875 {A : Nat → Prop} {D : va_G} {cl : List vw_C} {H : Heap} {c0 c1 c2 c3 c4 c5 c6 c7 c8 c9 c10 c11 c12 : Nat × va_E} {d e : Nat × va_E} (hP : va_P D cl (([c0, c1, c2, c3, c4, c5, c6, c7, c8, c9, c10, c11, c12]).set 10 d) H) (hD : va_D A (([c0, c1, c2, c3, c4, c5, c6, c7, c8, c9, c10, c11, c12]).set 10 d)) (h : d = e) : va_P D cl ([c0, c1, c2, c3, c4, c5, c6, c7, c8, c9, e, c11, c12]) H ∧ va_D A ([c0, c1, c2, c3, c4, c5, c6, c7, c8, c9, e, c11, c12]) := by subst h; exact ⟨hP, hD⟩
theorem rgS13_5107f5d {A : Nat → Prop} {D : va_G} {cl : List vw_C} {H : Heap} {c0 c1 c2 c3 c4 c5 c6 c7 c8 c9 c10 c11 c12 : Nat × va_E} {d e : Nat × va_E} (hP : va_P D cl (([c0, c1, c2, c3, c4, c5, c6, c7, c8, c9, c10, c11, c12]).set 7 d) H) (hD : va_D A (([c0, c1, c2, c3, c4, c5, c6, c7, c8, c9, c10, c11, c12]).set 7 d)) (h : d = e) : va_P D cl ([c0, c1, c2, c3, c4, c5, c6, e, c8, c9, c10, c11, c12]) H ∧ va_D A ([c0, c1, c2, c3, c4, c5, c6, e, c8, c9, c10, c11, c12]) := by subst h; exact ⟨hP, hD⟩
theorem rgP13_3115942 {D : va_G} {cl : List vw_C} {H : Heap} {c0 c1 c2 c3 c4 c5 c6 c7 c8 c9 c10 c11 c12 : Nat × va_E} (h : va_P D cl ([c0, c1, c2, c3, c4, c5, c6, c7, c8, c9, c10, c11, c12]) H) : va_P D cl ([c0, c4, c5, c6]) H := h.sub (ws' := [c0, c4, c5, c6]) [0, 4, 5, 6] rfl
theorem rgK9_f236e41 {D : va_G} {cl : List vw_C} {U : State} {t0 t1 t2 t3 t4 t5 t6 t7 t8 : ClassId × FieldType} (h : va_K D cl [t0, t1, t2, t3, t4, t5, t6, t7, t8] U) : va_K D cl [t2, t3, t4] U := h.sub (tys' := [t2, t3, t4]) [2, 3, 4] rfl
theorem rgD13_8026d88 {A : Nat → Prop} {c0 c1 c2 c3 c4 c5 c6 c7 c8 c9 c10 c11 c12 : Nat × va_E} (h : va_D A ([c0, c1, c2, c3, c4, c5, c6, c7, c8, c9, c10, c11, c12])) : va_D A ([c0, c4, c5, c6]) := h.sub (ws' := [c0, c4, c5, c6]) [0, 4, 5, 6] (by decide +kernel) rfl
theorem rgJ13_5f5eb83 {A0 : Nat → Prop} {D : va_G} {cl : List vw_C} {H H1 : Heap} {c0 c1 c2 c3 c4 c5 c6 c7 c8 c9 c10 c11 c12 : Nat × va_E} {d0 d1 d2 d3 : Nat × va_E} (hP : va_P D cl ([c0, c1, c2, c3, c4, c5, c6, c7, c8, c9, c10, c11, c12]) H) (hD : va_D A0 ([c0, c1, c2, c3, c4, c5, c6, c7, c8, c9, c10, c11, c12])) (hk : ∀ q : Nat, q < H.size → ¬ va_A ([c0, c4, c5, c6]) H.size q → H1[q]? = H[q]?) (hF : ∀ q, va_A ([c0, c4, c5, c6]) H.size q → A0 q) (hP1 : va_P D cl ([d0, d1, d2, d3]) H1) (hD1 : va_D (va_A ([c0, c4, c5, c6]) H.size) ([d0, d1, d2, d3])) : va_P D cl ([d0, c1, c2, c3, d1, d2, d3, c7, c8, c9, c10, c11, c12]) H1 ∧ va_D A0 ([d0, c1, c2, c3, d1, d2, d3, c7, c8, c9, c10, c11, c12]) := by
  obtain ⟨h1, h2⟩ := va_join (ws := [c0, c1, c2, c3, c4, c5, c6, c7, c8, c9, c10, c11, c12]) (wc := [c0, c4, c5, c6]) (wr := [c1, c2, c3, c7, c8, c9, c10, c11, c12]) (w1 := [d0, d1, d2, d3]) hP hD [0, 4, 5, 6] [1, 2, 3, 7, 8, 9, 10, 11, 12] rfl rfl (by decide +kernel) (by decide +kernel) hk hF hP1 hD1
  exact ⟨va_P.sub (ws := [c1, c2, c3, c7, c8, c9, c10, c11, c12, d0, d1, d2, d3]) (ws' := [d0, c1, c2, c3, d1, d2, d3, c7, c8, c9, c10, c11, c12]) h1 [9, 0, 1, 2, 10, 11, 12, 3, 4, 5, 6, 7, 8] rfl, va_D.sub (ws := [c1, c2, c3, c7, c8, c9, c10, c11, c12, d0, d1, d2, d3]) (ws' := [d0, c1, c2, c3, d1, d2, d3, c7, c8, c9, c10, c11, c12]) h2 [9, 0, 1, 2, 10, 11, 12, 3, 4, 5, 6, 7, 8] (by decide +kernel) rfl⟩
theorem rgP13_c385d03 {D : va_G} {cl : List vw_C} {H : Heap} {c0 c1 c2 c3 c4 c5 c6 c7 c8 c9 c10 c11 c12 : Nat × va_E} (h : va_P D cl ([c0, c1, c2, c3, c4, c5, c6, c7, c8, c9, c10, c11, c12]) H) : va_P D cl ([c0]) H := h.sub (ws' := [c0]) [0] rfl
theorem rgD13_9e851cf {A : Nat → Prop} {c0 c1 c2 c3 c4 c5 c6 c7 c8 c9 c10 c11 c12 : Nat × va_E} (h : va_D A ([c0, c1, c2, c3, c4, c5, c6, c7, c8, c9, c10, c11, c12])) : va_D A ([c0]) := h.sub (ws' := [c0]) [0] (by decide +kernel) rfl
theorem rgJ13_5034f5f {A0 : Nat → Prop} {D : va_G} {cl : List vw_C} {H H1 : Heap} {c0 c1 c2 c3 c4 c5 c6 c7 c8 c9 c10 c11 c12 : Nat × va_E} {d0 : Nat × va_E} (hP : va_P D cl ([c0, c1, c2, c3, c4, c5, c6, c7, c8, c9, c10, c11, c12]) H) (hD : va_D A0 ([c0, c1, c2, c3, c4, c5, c6, c7, c8, c9, c10, c11, c12])) (hk : ∀ q : Nat, q < H.size → ¬ va_A ([c0]) H.size q → H1[q]? = H[q]?) (hF : ∀ q, va_A ([c0]) H.size q → A0 q) (hP1 : va_P D cl ([d0]) H1) (hD1 : va_D (va_A ([c0]) H.size) ([d0])) : va_P D cl ([d0, c1, c2, c3, c4, c5, c6, c7, c8, c9, c10, c11, c12]) H1 ∧ va_D A0 ([d0, c1, c2, c3, c4, c5, c6, c7, c8, c9, c10, c11, c12]) := by
  obtain ⟨h1, h2⟩ := va_join (ws := [c0, c1, c2, c3, c4, c5, c6, c7, c8, c9, c10, c11, c12]) (wc := [c0]) (wr := [c1, c2, c3, c4, c5, c6, c7, c8, c9, c10, c11, c12]) (w1 := [d0]) hP hD [0] [1, 2, 3, 4, 5, 6, 7, 8, 9, 10, 11, 12] rfl rfl (by decide +kernel) (by decide +kernel) hk hF hP1 hD1
  exact ⟨va_P.sub (ws := [c1, c2, c3, c4, c5, c6, c7, c8, c9, c10, c11, c12, d0]) (ws' := [d0, c1, c2, c3, c4, c5, c6, c7, c8, c9, c10, c11, c12]) h1 [12, 0, 1, 2, 3, 4, 5, 6, 7, 8, 9, 10, 11] rfl, va_D.sub (ws := [c1, c2, c3, c4, c5, c6, c7, c8, c9, c10, c11, c12, d0]) (ws' := [d0, c1, c2, c3, c4, c5, c6, c7, c8, c9, c10, c11, c12]) h2 [12, 0, 1, 2, 3, 4, 5, 6, 7, 8, 9, 10, 11] (by decide +kernel) rfl⟩
set_option maxHeartbeats 4000000 in
set_option maxRecDepth 100000 in
theorem k_X6_pieceAt (l : Launch) (dC : Nat → ClassId) (dI : Nat → Nat → Nat) (g : Gv) (sz : Nat) (a0 : Nat) (a1 : Int32) (a2 : Int32) (a0_0 : Nat) (a0_1 : Nat) (a0_2 : Nat) (a0_3 : Nat) (a0_4 : Nat) (a0_5 : Nat) (a0_6 : Int32) (a0_7 : Int32) (a0_1_c : ClassId) (a0_1_f : Nat → Int32) (a0_3_c : ClassId) (a0_3_f : Nat → Option Nat) (a0_5_c : ClassId) (a0_5_f : Nat → Int32) (rows : va_W) (h_a0_6 : 0 ≤ a0_6.toInt ∧ a0_6.toInt ≤ 24) (h_a0_7 : 0 ≤ a0_7.toInt ∧ a0_7.toInt ≤ 12) (h_a0_3_f : GR g.2.2.2.2.1 24 12 a0_3_f rows) : Met l yX6_pieceAt (.code yX6_pieceAt cX6_pieceAt 6 (some .int) :: TBL) ({ frames := 2, cells := 0, slots := 0, locals := 54 }) (va_Pc [.ref a0, .int a1, .int a2] (fun U => U.heap.size = sz ∧ va_P (dC, dI) vwCl (([(a0, .inr (5, [.ref a0_0, .ref a0_1, .ref a0_2, .ref a0_3, .ref a0_4, .ref a0_5, .int a0_6, .int a0_7])), (a0_1, .inl (a0_1_c, 24, .inl a0_1_f)), (a0_3, .inl (a0_3_c, 12, .inr (.inr (.inr (.inr a0_3_f))))), (a0_5, .inl (a0_5_c, 24, .inl a0_5_f))] : va_W) ++ rows) U.heap ∧ va_K (dC, dI) vwCl [(a0_1_c, .int), (a0_3_c, .array .int), (a0_5_c, .int)] U ∧ va_D (fun _ => True) (([(a0, .inr (5, [.ref a0_0, .ref a0_1, .ref a0_2, .ref a0_3, .ref a0_4, .ref a0_5, .int a0_6, .int a0_7])), (a0_1, .inl (a0_1_c, 24, .inl a0_1_f)), (a0_3, .inl (a0_3_c, 12, .inr (.inr (.inr (.inr a0_3_f))))), (a0_5, .inl (a0_5_c, 24, .inl a0_5_f))] : va_W) ++ rows) ∧ Ev g (va_A (([(a0, .inr (5, [.ref a0_0, .ref a0_1, .ref a0_2, .ref a0_3, .ref a0_4, .ref a0_5, .int a0_6, .int a0_7])), (a0_1, .inl (a0_1_c, 24, .inl a0_1_f)), (a0_3, .inl (a0_3_c, 12, .inr (.inr (.inr (.inr a0_3_f))))), (a0_5, .inl (a0_5_c, 24, .inl a0_5_f))] : va_W) ++ rows) sz) U)) (va_Qi (fun (r : Int32) (u : Int32) => u = r) (fun (u : Int32) (t : State) => ∃ (za0_5_f : Nat → Int32), va_P (dC, dI) vwCl (([(a0, .inr (5, [.ref a0_0, .ref a0_1, .ref a0_2, .ref a0_3, .ref a0_4, .ref a0_5, .int a0_6, .int a0_7])), (a0_1, .inl (a0_1_c, 24, .inl a0_1_f)), (a0_3, .inl (a0_3_c, 12, .inr (.inr (.inr (.inr a0_3_f))))), (a0_5, .inl (a0_5_c, 24, .inl za0_5_f))] : va_W) ++ rows) t.heap ∧ va_K (dC, dI) vwCl [] t ∧ va_D (va_A (([(a0, .inr (5, [.ref a0_0, .ref a0_1, .ref a0_2, .ref a0_3, .ref a0_4, .ref a0_5, .int a0_6, .int a0_7])), (a0_1, .inl (a0_1_c, 24, .inl a0_1_f)), (a0_3, .inl (a0_3_c, 12, .inr (.inr (.inr (.inr a0_3_f))))), (a0_5, .inl (a0_5_c, 24, .inl a0_5_f))] : va_W) ++ rows) sz) (([(a0, .inr (5, [.ref a0_0, .ref a0_1, .ref a0_2, .ref a0_3, .ref a0_4, .ref a0_5, .int a0_6, .int a0_7])), (a0_1, .inl (a0_1_c, 24, .inl a0_1_f)), (a0_3, .inl (a0_3_c, 12, .inr (.inr (.inr (.inr a0_3_f))))), (a0_5, .inl (a0_5_c, 24, .inl za0_5_f))] : va_W) ++ rows)) (va_A (([(a0, .inr (5, [.ref a0_0, .ref a0_1, .ref a0_2, .ref a0_3, .ref a0_4, .ref a0_5, .int a0_6, .int a0_7])), (a0_1, .inl (a0_1_c, 24, .inl a0_1_f)), (a0_3, .inl (a0_3_c, 12, .inr (.inr (.inr (.inr a0_3_f))))), (a0_5, .inl (a0_5_c, 24, .inl a0_5_f))] : va_W) ++ rows) sz)) 0 0 (va_A (([(a0, .inr (5, [.ref a0_0, .ref a0_1, .ref a0_2, .ref a0_3, .ref a0_4, .ref a0_5, .int a0_6, .int a0_7])), (a0_1, .inl (a0_1_c, 24, .inl a0_1_f)), (a0_3, .inl (a0_3_c, 12, .inr (.inr (.inr (.inr a0_3_f))))), (a0_5, .inl (a0_5_c, 24, .inl a0_5_f))] : va_W) ++ rows) sz) := by
  refine Met.ofW (cc := cX6_pieceAt) (maxL := 6) (ret := (some .int)) (by decide) rfl ?_
  intro p e s m args below meth c s₁ B hml hv
  obtain ⟨rfl, hsz, hP, hK, hD0, hE⟩ := hv
  have hx := B.exec
  have hb := B.bytes
  have hr := B.returns
  have hts0 := atoms_spec (ws := (.code yX6_pieceAt cX6_pieceAt 6 (some .int) :: TBL)) B.pre
  have hts := fun (w : Cond) (h : w ∈ TBL) => hts0 w (List.mem_cons_of_mem _ h)
  have hown : s.vm.findClass RX6 = some m.cls := findClass_of_methodNamed B.named
  have hlocks := B.notSynchronized
  have hN := hE.1
  subst hsz
  have hD := hD0.self (sz := s.heap.size)
  generalize hAe : va_A (([(a0, .inr (5, [.ref a0_0, .ref a0_1, .ref a0_2, .ref a0_3, .ref a0_4, .ref a0_5, .int a0_6, .int a0_7])), (a0_1, .inl (a0_1_c, 24, .inl a0_1_f)), (a0_3, .inl (a0_3_c, 12, .inr (.inr (.inr (.inr a0_3_f))))), (a0_5, .inl (a0_5_c, 24, .inl a0_5_f))] : va_W) ++ rows) s.heap.size = A at hD hE ⊢
  have hA : ∀ q : Nat, s.heap.size ≤ q → A q := fun q h => by rw [← hAe]; exact Or.inr h
  have hS : va_S A s.heap s.heap [] := va_S.rf
  replace hP : va_P (dC, dI) vwCl (([(a0, .inr (5, [.ref a0_0, .ref a0_1, .ref a0_2, .ref a0_3, .ref a0_4, .ref a0_5, .int a0_6, .int a0_7])), (a0_1, .inl (a0_1_c, 24, .inl a0_1_f)), (a0_3, .inl (a0_3_c, 12, .inr (.inr (.inr (.inr a0_3_f))))), (a0_5, .inl (a0_5_c, 24, .inl a0_5_f))] : va_W) ++ rows) s.heap := hP
  have hl := lv_entry ([.ref a0, .int a1, .int a2]) (n := 6) (Nat.le_of_ble_eq_true rfl)
  rw [lg_entry_eq]
  generalize (lg_sl ([.ref a0, .int a1, .int a2]) ++ List.replicate (6 - (lg_sl ([.ref a0, .int a1, .int a2])).length) Slot.unset).toArray = ls at hl ⊢
  have hl : lv_has ls 6 [(0, .ref a0), (1, .int a1), (2, .int a2)] := hl
  have hK := cyK hK (hts (.arrayClass .int) qw_54) hE.2.2.2.2.2.2.2.2.2.2.2.2.1
  replace hK : va_K (dC, dI) vwCl [(a0_1_c, .int), (a0_3_c, .array .int), (a0_5_c, .int), (g.2.2.2.2.1, .int)] s := hK
  have b_a1 := i32b a1
  have b_a2 := i32b a2
  have hRS : RS g.2.2.2.2.1 rows rows := RS.rf
  refine lv_iconst (v := 0) hx hb dX6_pieceAt_0 (by decide) ?_
  refine lv_istore_n (lv' := [(3, .int 0), (0, .ref a0), (1, .int a1), (2, .int a2)]) hx hb dX6_pieceAt_1 rfl hl (by decide) rfl (fun ls hl => ?_)
  have qc0 : (0 : Int32).toInt = 0 := by decide
  refine wloop (fun n H locs ls => ∃ (l2_3 : Int32) (w2_3 : Nat → Int32), n = (2147483647 - l2_3.toInt).toNat ∧ (0 ≤ l2_3.toInt) ∧ lv_has ls 6 [(3, .int l2_3), (0, .ref a0), (1, .int a1), (2, .int a2)] ∧ va_P (dC, dI) vwCl (([(a0, .inr (5, [.ref a0_0, .ref a0_1, .ref a0_2, .ref a0_3, .ref a0_4, .ref a0_5, .int a0_6, .int a0_7])), (a0_1, .inl (a0_1_c, 24, .inl a0_1_f)), (a0_3, .inl (a0_3_c, 12, .inr (.inr (.inr (.inr a0_3_f))))), (a0_5, .inl (a0_5_c, 24, .inl w2_3))] : va_W) ++ rows) H ∧ va_D A (([(a0, .inr (5, [.ref a0_0, .ref a0_1, .ref a0_2, .ref a0_3, .ref a0_4, .ref a0_5, .int a0_6, .int a0_7])), (a0_1, .inl (a0_1_c, 24, .inl a0_1_f)), (a0_3, .inl (a0_3_c, 12, .inr (.inr (.inr (.inr a0_3_f))))), (a0_5, .inl (a0_5_c, 24, .inl w2_3))] : va_W) ++ rows) ∧ va_S A s.heap H locs) ?_ ((2147483647 - (0 : Int32).toInt).toNat) _ _ _ ⟨0, a0_5_f, rfl, (by omega), lv_sub hl [0, 1, 2, 3] rfl, hP, hD, hS⟩
  intro n2 H locs ls hI ih2
  obtain ⟨l2_3, w2_3, hn2, g_l2_3, hl, hP, hD, hS⟩ := hI
  have b_l2_3 := i32b l2_3
  refine lv_iload_n hx hb dX6_pieceAt_2 rfl (lv_at hl 0 rfl) ?_
  refine lv_aload_n hx hb dX6_pieceAt_3 rfl (lv_at hl 1 rfl) ?_
  refine va_get (D := (dC, dI)) (ci := 5) (v := .int a0_6) (C := RX6) (T := TX6) (N := 8) hx hb hts inlX6 hown hK hP 0 rgL4_6945f2e rfl 6 (by decide) (hts (.fieldLink RX6 38 "ClosedUntil$Timetable" "pieces" "I") qw_124) (fun _ h9 => h9) rfl dX6_pieceAt_4 ?_
  refine lv_icmp_ge (tgt := 28) hx hb dX6_pieceAt_7 (by decide) (fun c7_1 => ?_) (fun c7_1 => ?_)
  · have c7_1 : a0_6.toInt ≤ l2_3.toInt := (cv_le rfl rfl).mp c7_1
    refine lv_iconst (v := 0) hx hb dX6_pieceAt_28 (by decide) ?_
    refine lv_istore_n (lv' := [(3, .int 0), (0, .ref a0), (1, .int a1), (2, .int a2)]) hx hb dX6_pieceAt_29 rfl hl (by decide) rfl (fun ls hl => ?_)
    have qc0 : (0 : Int32).toInt = 0 := by decide
    refine wloop (fun n H locs ls => ∃ (l30_3 : Int32), n = (2147483647 - l30_3.toInt).toNat ∧ (0 ≤ l30_3.toInt) ∧ lv_has ls 6 [(3, .int l30_3), (0, .ref a0), (1, .int a1), (2, .int a2)] ∧ va_P (dC, dI) vwCl (([(a0, .inr (5, [.ref a0_0, .ref a0_1, .ref a0_2, .ref a0_3, .ref a0_4, .ref a0_5, .int a0_6, .int a0_7])), (a0_1, .inl (a0_1_c, 24, .inl a0_1_f)), (a0_3, .inl (a0_3_c, 12, .inr (.inr (.inr (.inr a0_3_f))))), (a0_5, .inl (a0_5_c, 24, .inl w2_3))] : va_W) ++ rows) H ∧ va_D A (([(a0, .inr (5, [.ref a0_0, .ref a0_1, .ref a0_2, .ref a0_3, .ref a0_4, .ref a0_5, .int a0_6, .int a0_7])), (a0_1, .inl (a0_1_c, 24, .inl a0_1_f)), (a0_3, .inl (a0_3_c, 12, .inr (.inr (.inr (.inr a0_3_f))))), (a0_5, .inl (a0_5_c, 24, .inl w2_3))] : va_W) ++ rows) ∧ va_S A s.heap H locs) ?_ ((2147483647 - (0 : Int32).toInt).toNat) _ _ _ ⟨0, rfl, (by omega), lv_sub hl [0, 1, 2, 3] rfl, hP, hD, hS⟩
    intro n30 H locs ls hI ih30
    obtain ⟨l30_3, hn30, g_l30_3, hl, hP, hD, hS⟩ := hI
    have b_l30_3 := i32b l30_3
    refine lv_iload_n hx hb dX6_pieceAt_30 rfl (lv_at hl 0 rfl) ?_
    refine lv_aload_n hx hb dX6_pieceAt_31 rfl (lv_at hl 1 rfl) ?_
    refine va_get (D := (dC, dI)) (ci := 5) (v := .int a0_6) (C := RX6) (T := TX6) (N := 8) hx hb hts inlX6 hown hK hP 0 rgL4_6945f2e rfl 6 (by decide) (hts (.fieldLink RX6 38 "ClosedUntil$Timetable" "pieces" "I") qw_124) (fun _ h9 => h9) rfl dX6_pieceAt_32 ?_
    refine lv_icmp_ge (tgt := 86) hx hb dX6_pieceAt_35 (by decide) (fun c35_2 => ?_) (fun c35_2 => ?_)
    · have c35_2 : a0_6.toInt ≤ l30_3.toInt := (cv_le rfl rfl).mp c35_2
      refine lv_iconst (v := (-1)) hx hb dX6_pieceAt_86 (by decide) ?_
      have qcm1 : ((-1) : Int32).toInt = (-1) := by decide
      refine W.widen (k := 0) (n := 0) (Nat.le_of_ble_eq_true rfl) (Nat.le_of_ble_eq_true rfl) ?_
      have hP9 := hP
      have hD9 := hD
      have hK9 := (rgK4_6738937 hK)
      exact W.iret (v := (-1)) hx hb hr (fun t ht hW => ⟨⟨(-1), (-1), rfl, rfl, w2_3, atB ht hP9, va_K.moved hW.alike hK9, hD9⟩, hS.F ht⟩) hS.2.2 dX6_pieceAt_87
    · have c35_2 : ¬ (a0_6.toInt ≤ l30_3.toInt) := mt (cv_le rfl rfl).mpr c35_2
      refine lv_iconst (v := 0) hx hb dX6_pieceAt_38 (by decide) ?_
      refine lv_istore (lv' := [(4, .int 0), (3, .int l30_3), (0, .ref a0), (1, .int a1), (2, .int a2)]) hx hb dX6_pieceAt_39 hl (by decide) rfl (fun ls hl => ?_)
      refine lv_iconst (v := 0) hx hb dX6_pieceAt_41 (by decide) ?_
      refine lv_istore (lv' := [(5, .int 0), (4, .int 0), (3, .int l30_3), (0, .ref a0), (1, .int a1), (2, .int a2)]) hx hb dX6_pieceAt_42 hl (by decide) rfl (fun ls hl => ?_)
      have qc0 : (0 : Int32).toInt = 0 := by decide
      refine wloop (fun n H locs ls => ∃ (l44_5 : Int32) (l44_4 : Int32), n = (2147483647 - l44_5.toInt).toNat ∧ (0 ≤ l44_5.toInt) ∧ lv_has ls 6 [(5, .int l44_5), (4, .int l44_4), (3, .int l30_3), (0, .ref a0), (1, .int a1), (2, .int a2)] ∧ va_P (dC, dI) vwCl (([(a0, .inr (5, [.ref a0_0, .ref a0_1, .ref a0_2, .ref a0_3, .ref a0_4, .ref a0_5, .int a0_6, .int a0_7])), (a0_1, .inl (a0_1_c, 24, .inl a0_1_f)), (a0_3, .inl (a0_3_c, 12, .inr (.inr (.inr (.inr a0_3_f))))), (a0_5, .inl (a0_5_c, 24, .inl w2_3))] : va_W) ++ rows) H ∧ va_D A (([(a0, .inr (5, [.ref a0_0, .ref a0_1, .ref a0_2, .ref a0_3, .ref a0_4, .ref a0_5, .int a0_6, .int a0_7])), (a0_1, .inl (a0_1_c, 24, .inl a0_1_f)), (a0_3, .inl (a0_3_c, 12, .inr (.inr (.inr (.inr a0_3_f))))), (a0_5, .inl (a0_5_c, 24, .inl w2_3))] : va_W) ++ rows) ∧ va_S A s.heap H locs) ?_ ((2147483647 - (0 : Int32).toInt).toNat) _ _ _ ⟨0, 0, rfl, (by omega), lv_sub hl [0, 1, 2, 3, 4, 5] rfl, hP, hD, hS⟩
      intro n44 H locs ls hI ih44
      obtain ⟨l44_5, l44_4, hn44, g_l44_5, hl, hP, hD, hS⟩ := hI
      have b_l44_5 := i32b l44_5
      have b_l44_4 := i32b l44_4
      refine lv_iload hx hb dX6_pieceAt_44 (lv_at hl 0 rfl) ?_
      refine lv_aload_n hx hb dX6_pieceAt_46 rfl (lv_at hl 3 rfl) ?_
      refine va_get (D := (dC, dI)) (ci := 5) (v := .int a0_6) (C := RX6) (T := TX6) (N := 8) hx hb hts inlX6 hown hK hP 0 rgL4_6945f2e rfl 6 (by decide) (hts (.fieldLink RX6 38 "ClosedUntil$Timetable" "pieces" "I") qw_124) (fun _ h9 => h9) rfl dX6_pieceAt_47 ?_
      refine lv_icmp_ge (tgt := 72) hx hb dX6_pieceAt_50 (by decide) (fun c50_3 => ?_) (fun c50_3 => ?_)
      · have c50_3 : a0_6.toInt ≤ l44_5.toInt := (cv_le rfl rfl).mp c50_3
        refine lv_iload hx hb dX6_pieceAt_72 (lv_at hl 1 rfl) ?_
        refine lv_iload_n hx hb dX6_pieceAt_74 rfl (lv_at hl 4 rfl) ?_
        refine lv_icmp_ne (tgt := 80) hx hb dX6_pieceAt_75 (by decide) (fun c75_4 => ?_) (fun c75_4 => ?_)
        · have c75_4 : ¬ (l44_4.toInt = a1.toInt) := mt (cv_eq rfl rfl).mpr c75_4
          obtain ⟨x5, e_x5⟩ : ∃ y : Int32, y = l30_3 + 1 := ⟨_, rfl⟩
          refine lv_iinc (v := x5) (lv' := [(3, .int x5), (5, .int l44_5), (4, .int l44_4), (0, .ref a0), (1, .int a1), (2, .int a2)]) hx hb dX6_pieceAt_80 hl (k := 2) rfl (by rw [e_x5]; rfl) (by decide) rfl (fun ls hl => ?_)
          try have e_x5 := ti_add e_x5 rfl (show (1 : Int32).toInt = 1 by decide) (by omega)
          refine lv_goto (tgt := 30) hx hb dX6_pieceAt_83 (by decide) ?_
          exact ih30 ((2147483647 - x5.toInt).toNat) _ _ _ (by omega) ⟨x5, rfl, (by omega), lv_sub hl [0, 3, 4, 5] rfl, hP, hD, hS⟩
        · have c75_4 : l44_4.toInt = a1.toInt := (cv_eq rfl rfl).mp c75_4
          refine lv_iload_n hx hb dX6_pieceAt_78 rfl (lv_at hl 2 rfl) ?_
          refine W.widen (k := 0) (n := 0) (Nat.le_of_ble_eq_true rfl) (Nat.le_of_ble_eq_true rfl) ?_
          have hP9 := hP
          have hD9 := hD
          have hK9 := (rgK4_6738937 hK)
          exact W.iret (v := l30_3) hx hb hr (fun t ht hW => ⟨⟨l30_3, l30_3, rfl, rfl, w2_3, atB ht hP9, va_K.moved hW.alike hK9, hD9⟩, hS.F ht⟩) hS.2.2 dX6_pieceAt_79
      · have c50_3 : ¬ (a0_6.toInt ≤ l44_5.toInt) := mt (cv_le rfl rfl).mpr c50_3
        refine lv_aload_n hx hb dX6_pieceAt_53 rfl (lv_at hl 3 rfl) ?_
        refine lv_iload hx hb dX6_pieceAt_54 (lv_at hl 0 rfl) ?_
        refine lv_iload_n hx hb dX6_pieceAt_56 rfl (lv_at hl 2 rfl) ?_
        have hPc := (rgP4_ce6b6f4 hP)
        have hKc := (rgK4_9ad88fc hK)
        refine vp_callSi ((va_runV (As := [.int l44_5, .int l30_3]) (rest := []) ⟨hx, hb, hml, hown, hts⟩ (k_X6_comesAhead l dC dI g (a0) (l44_5) (l30_3) (a0_0) (a0_1) (a0_2) (a0_3) (a0_4) (a0_5) (a0_6) (a0_7) (a0_1_c) (a0_1_f) (a0_5_c) (w2_3) (by omega) (by omega) (by omega) (by omega)) (cwV 2 hts (gwV qw_161 qw_162 qw_163 qw_133 qw_160) rfl rfl rfl (by decide +kernel) ⟨Nat.le_of_ble_eq_true rfl, Nat.le_of_ble_eq_true rfl⟩) ⟨fun a U g9 mk q => ⟨q.1, q.2.1, va_K.moved (u := U) (U := U.calling g9 mk a) (Vm.Alike.refl U.vm) q.2.2.1, Ev.bl q.2.2.2⟩, va_recv hK hP (ci := 5) (q0 := 0) rfl rgL4_6945f2e, fun U hU hW => ⟨rfl, atB hU hPc, va_K.moved hW.alike hKc, hE.go hS (fun _ h => h.elim) hU hW⟩⟩ rfl rfl hl.1 rfl (lv_room (Nat.le_of_ble_eq_true rfl)) dX6_pieceAt_57 ⟨Nat.le_of_ble_eq_true rfl, Nat.le_of_ble_eq_true rfl⟩)).run (fun r6 h_r6 => ?_)
        have h_r6 : (r6 = 0 ∨ r6 = 1) := h_r6
        have b_r6 := z01 (show r6 = 0 ∨ r6 = 1 from h_r6)
        refine lv_if_eq (tgt := 66) hx hb dX6_pieceAt_60 (by decide) (fun c60_7 => ?_) (fun c60_7 => ?_)
        · have c60_7 : r6.toInt = 0 := (cv_eq rfl (by decide)).mp c60_7
          obtain ⟨x8, e_x8⟩ : ∃ y : Int32, y = l44_5 + 1 := ⟨_, rfl⟩
          refine lv_iinc (v := x8) (lv' := [(5, .int x8), (4, .int l44_4), (3, .int l30_3), (0, .ref a0), (1, .int a1), (2, .int a2)]) hx hb dX6_pieceAt_66 hl (k := 0) rfl (by rw [e_x8]; rfl) (by decide) rfl (fun ls hl => ?_)
          try have e_x8 := ti_add e_x8 rfl (show (1 : Int32).toInt = 1 by decide) (by omega)
          refine lv_goto (tgt := 44) hx hb dX6_pieceAt_69 (by decide) ?_
          exact ih44 ((2147483647 - x8.toInt).toNat) _ _ _ (by omega) ⟨x8, l44_4, rfl, (by omega), lv_sub hl [0, 1, 2, 3, 4, 5] rfl, hP, hD, hS⟩
        · have c60_7 : ¬ (r6.toInt = 0) := mt (cv_eq rfl (by decide)).mpr c60_7
          obtain ⟨x9, e_x9⟩ : ∃ y : Int32, y = l44_4 + 1 := ⟨_, rfl⟩
          refine lv_iinc (v := x9) (lv' := [(4, .int x9), (5, .int l44_5), (3, .int l30_3), (0, .ref a0), (1, .int a1), (2, .int a2)]) hx hb dX6_pieceAt_63 hl (k := 1) rfl (by rw [e_x9]; rfl) (by decide) rfl (fun ls hl => ?_)
          try have e_x9 := ti_add e_x9 rfl (show (1 : Int32).toInt = 1 by decide) (by omega)
          obtain ⟨x10, e_x10⟩ : ∃ y : Int32, y = l44_5 + 1 := ⟨_, rfl⟩
          refine lv_iinc (v := x10) (lv' := [(5, .int x10), (4, .int x9), (3, .int l30_3), (0, .ref a0), (1, .int a1), (2, .int a2)]) hx hb dX6_pieceAt_66 hl (k := 1) rfl (by rw [e_x10]; rfl) (by decide) rfl (fun ls hl => ?_)
          try have e_x10 := ti_add e_x10 rfl (show (1 : Int32).toInt = 1 by decide) (by omega)
          refine lv_goto (tgt := 44) hx hb dX6_pieceAt_69 (by decide) ?_
          exact ih44 ((2147483647 - x10.toInt).toNat) _ _ _ (by omega) ⟨x10, x9, rfl, (by omega), lv_sub hl [0, 1, 2, 3, 4, 5] rfl, hP, hD, hS⟩
  · have c7_1 : ¬ (a0_6.toInt ≤ l2_3.toInt) := mt (cv_le rfl rfl).mpr c7_1
    refine lv_aload_n hx hb dX6_pieceAt_10 rfl (lv_at hl 1 rfl) ?_
    refine va_get (D := (dC, dI)) (ci := 5) (v := .ref a0_5) (C := RX6) (T := TX6) (N := 8) hx hb hts inlX6 hown hK hP 0 rgL4_6945f2e rfl 5 (by decide) (hts (.fieldLink RX6 29 "ClosedUntil$Timetable" "openings" "[I") qw_153) (fun _ h9 => h9) rfl dX6_pieceAt_11 ?_
    refine lv_iload_n hx hb dX6_pieceAt_14 rfl (lv_at hl 0 rfl) ?_
    refine lv_aload_n hx hb dX6_pieceAt_15 rfl (lv_at hl 1 rfl) ?_
    refine lv_iload_n hx hb dX6_pieceAt_16 rfl (lv_at hl 0 rfl) ?_
    refine lv_iload_n hx hb dX6_pieceAt_17 rfl (lv_at hl 3 rfl) ?_
    have hPc := (rgP4_975726d hP)
    have hKc := (rgK4_2a33748 hK)
    refine vp_callSi ((va_runV (As := [.int l2_3, .int a2]) (rest := [.int l2_3, .ref a0_5]) ⟨hx, hb, hml, hown, hts⟩ (k_X6_openingOf l dC dI g (a0) (l2_3) (a2) (a0_0) (a0_1) (a0_2) (a0_3) (a0_4) (a0_5) (a0_6) (a0_7) (a0_3_c) (a0_3_f) (rows) (by omega) (by omega) (RS.gr hRS h_a0_3_f) (by omega)) (cwV 2 hts (gwV qw_165 qw_166 qw_167 qw_133 qw_164) rfl rfl rfl (by decide +kernel) ⟨Nat.le_of_ble_eq_true rfl, Nat.le_of_ble_eq_true rfl⟩) ⟨fun a U g9 mk q => ⟨q.1, q.2.1, va_K.moved (u := U) (U := U.calling g9 mk a) (Vm.Alike.refl U.vm) q.2.2.1, Ev.bl q.2.2.2⟩, va_recv hK hP (ci := 5) (q0 := 0) rfl rgL4_6945f2e, fun U hU hW => ⟨rfl, atB hU hPc, va_K.moved hW.alike hKc, hE.go hS (fun _ h => h.elim) hU hW⟩⟩ rfl rfl hl.1 rfl (lv_room (Nat.le_of_ble_eq_true rfl)) dX6_pieceAt_18 ⟨Nat.le_of_ble_eq_true rfl, Nat.le_of_ble_eq_true rfl⟩)).run (fun r11 h_r11 => ?_)
    have b_r11 := i32b r11
    refine va_iast hx hb hK hP hD hS 3 2 rgL4_05dcacb rgT4_df3fd44 (vinI (by omega) (by omega)) dX6_pieceAt_21 (fun H locs hP9 hD9 hS9 => ?_)
    obtain ⟨y12, e_y12⟩ : ∃ y, (upd w2_3 l2_3.toNatClampNeg r11) = y := ⟨_, rfl⟩
    clear hP hD hS
    obtain ⟨hP, hD⟩ := rgS4_ccff04d (e := (a0_5, .inl (a0_5_c, 24, .inl y12))) hP9 hD9 (congrArg (fun z9 => (((a0_5, .inl (a0_5_c, 24, .inl z9)) : Nat × va_E))) e_y12)
    have hS := hS9; clear hP9 hD9 hS9
    obtain ⟨x13, e_x13⟩ : ∃ y : Int32, y = l2_3 + 1 := ⟨_, rfl⟩
    refine lv_iinc (v := x13) (lv' := [(3, .int x13), (0, .ref a0), (1, .int a1), (2, .int a2)]) hx hb dX6_pieceAt_22 hl (k := 0) rfl (by rw [e_x13]; rfl) (by decide) rfl (fun ls hl => ?_)
    try have e_x13 := ti_add e_x13 rfl (show (1 : Int32).toInt = 1 by decide) (by omega)
    refine lv_goto (tgt := 2) hx hb dX6_pieceAt_25 (by decide) ?_
    exact ih2 ((2147483647 - x13.toInt).toNat) _ _ _ (by omega) ⟨x13, y12, rfl, (by omega), lv_sub hl [0, 1, 2, 3] rfl, hP, hD, hS⟩
set_option maxHeartbeats 4000000 in
set_option maxRecDepth 100000 in
theorem k_X6_bestToLift (l : Launch) (dC : Nat → ClassId) (dI : Nat → Nat → Nat) (g : Gv) (sz : Nat) (a0 : Nat) (a1 : Int32) (a2 : Int32) (a3 : Int32) (a0_0 : Nat) (a0_1 : Nat) (a0_2 : Nat) (a0_3 : Nat) (a0_4 : Nat) (a0_5 : Nat) (a0_6 : Int32) (a0_7 : Int32) (a0_3_c : ClassId) (a0_3_f : Nat → Option Nat) (a0_4_c : ClassId) (a0_4_f : Nat → Int32) (rows : va_W) (h_a0_6 : 0 ≤ a0_6.toInt ∧ a0_6.toInt ≤ 24) (h_a0_7 : 0 ≤ a0_7.toInt ∧ a0_7.toInt ≤ 12) (h_a0_3_f : GR g.2.2.2.2.1 24 12 a0_3_f rows) (hm : a3.toInt ≤ 3) : Met l yX6_bestToLift (.code yX6_bestToLift cX6_bestToLift 10 (some .int) :: TBL) ({ frames := 2, cells := 0, slots := 0, locals := 46 }) (va_Pc [.ref a0, .int a1, .int a2, .int a3] (fun U => U.heap.size = sz ∧ va_P (dC, dI) vwCl (([(a0, .inr (5, [.ref a0_0, .ref a0_1, .ref a0_2, .ref a0_3, .ref a0_4, .ref a0_5, .int a0_6, .int a0_7])), (a0_3, .inl (a0_3_c, 12, .inr (.inr (.inr (.inr a0_3_f))))), (a0_4, .inl (a0_4_c, 24, .inl a0_4_f))] : va_W) ++ rows) U.heap ∧ va_K (dC, dI) vwCl [(a0_3_c, .array .int), (a0_4_c, .int)] U ∧ va_D (fun _ => True) (([(a0, .inr (5, [.ref a0_0, .ref a0_1, .ref a0_2, .ref a0_3, .ref a0_4, .ref a0_5, .int a0_6, .int a0_7])), (a0_3, .inl (a0_3_c, 12, .inr (.inr (.inr (.inr a0_3_f))))), (a0_4, .inl (a0_4_c, 24, .inl a0_4_f))] : va_W) ++ rows) ∧ Ev g (va_A (([(a0, .inr (5, [.ref a0_0, .ref a0_1, .ref a0_2, .ref a0_3, .ref a0_4, .ref a0_5, .int a0_6, .int a0_7])), (a0_3, .inl (a0_3_c, 12, .inr (.inr (.inr (.inr a0_3_f))))), (a0_4, .inl (a0_4_c, 24, .inl a0_4_f))] : va_W) ++ rows) sz) U)) (va_Qi (fun (r : Int32) (u : Int32) => u = r) (fun (u : Int32) (t : State) => ∃ (za0_4_f : Nat → Int32), va_P (dC, dI) vwCl (([(a0, .inr (5, [.ref a0_0, .ref a0_1, .ref a0_2, .ref a0_3, .ref a0_4, .ref a0_5, .int a0_6, .int a0_7])), (a0_3, .inl (a0_3_c, 12, .inr (.inr (.inr (.inr a0_3_f))))), (a0_4, .inl (a0_4_c, 24, .inl za0_4_f))] : va_W) ++ rows) t.heap ∧ va_K (dC, dI) vwCl [] t ∧ va_D (va_A (([(a0, .inr (5, [.ref a0_0, .ref a0_1, .ref a0_2, .ref a0_3, .ref a0_4, .ref a0_5, .int a0_6, .int a0_7])), (a0_3, .inl (a0_3_c, 12, .inr (.inr (.inr (.inr a0_3_f))))), (a0_4, .inl (a0_4_c, 24, .inl a0_4_f))] : va_W) ++ rows) sz) (([(a0, .inr (5, [.ref a0_0, .ref a0_1, .ref a0_2, .ref a0_3, .ref a0_4, .ref a0_5, .int a0_6, .int a0_7])), (a0_3, .inl (a0_3_c, 12, .inr (.inr (.inr (.inr a0_3_f))))), (a0_4, .inl (a0_4_c, 24, .inl za0_4_f))] : va_W) ++ rows)) (va_A (([(a0, .inr (5, [.ref a0_0, .ref a0_1, .ref a0_2, .ref a0_3, .ref a0_4, .ref a0_5, .int a0_6, .int a0_7])), (a0_3, .inl (a0_3_c, 12, .inr (.inr (.inr (.inr a0_3_f))))), (a0_4, .inl (a0_4_c, 24, .inl a0_4_f))] : va_W) ++ rows) sz)) 0 0 (va_A (([(a0, .inr (5, [.ref a0_0, .ref a0_1, .ref a0_2, .ref a0_3, .ref a0_4, .ref a0_5, .int a0_6, .int a0_7])), (a0_3, .inl (a0_3_c, 12, .inr (.inr (.inr (.inr a0_3_f))))), (a0_4, .inl (a0_4_c, 24, .inl a0_4_f))] : va_W) ++ rows) sz) := by
  refine Met.ofW (cc := cX6_bestToLift) (maxL := 10) (ret := (some .int)) (by decide) rfl ?_
  intro p e s m args below meth c s₁ B hml hv
  obtain ⟨rfl, hsz, hP, hK, hD0, hE⟩ := hv
  have hx := B.exec
  have hb := B.bytes
  have hr := B.returns
  have hts0 := atoms_spec (ws := (.code yX6_bestToLift cX6_bestToLift 10 (some .int) :: TBL)) B.pre
  have hts := fun (w : Cond) (h : w ∈ TBL) => hts0 w (List.mem_cons_of_mem _ h)
  have hown : s.vm.findClass RX6 = some m.cls := findClass_of_methodNamed B.named
  have hlocks := B.notSynchronized
  have hN := hE.1
  subst hsz
  have hD := hD0.self (sz := s.heap.size)
  generalize hAe : va_A (([(a0, .inr (5, [.ref a0_0, .ref a0_1, .ref a0_2, .ref a0_3, .ref a0_4, .ref a0_5, .int a0_6, .int a0_7])), (a0_3, .inl (a0_3_c, 12, .inr (.inr (.inr (.inr a0_3_f))))), (a0_4, .inl (a0_4_c, 24, .inl a0_4_f))] : va_W) ++ rows) s.heap.size = A at hD hE ⊢
  have hA : ∀ q : Nat, s.heap.size ≤ q → A q := fun q h => by rw [← hAe]; exact Or.inr h
  have hS : va_S A s.heap s.heap [] := va_S.rf
  replace hP : va_P (dC, dI) vwCl (([(a0, .inr (5, [.ref a0_0, .ref a0_1, .ref a0_2, .ref a0_3, .ref a0_4, .ref a0_5, .int a0_6, .int a0_7])), (a0_3, .inl (a0_3_c, 12, .inr (.inr (.inr (.inr a0_3_f))))), (a0_4, .inl (a0_4_c, 24, .inl a0_4_f))] : va_W) ++ rows) s.heap := hP
  have hl := lv_entry ([.ref a0, .int a1, .int a2, .int a3]) (n := 10) (Nat.le_of_ble_eq_true rfl)
  rw [lg_entry_eq]
  generalize (lg_sl ([.ref a0, .int a1, .int a2, .int a3]) ++ List.replicate (10 - (lg_sl ([.ref a0, .int a1, .int a2, .int a3])).length) Slot.unset).toArray = ls at hl ⊢
  have hl : lv_has ls 10 [(0, .ref a0), (1, .int a1), (2, .int a2), (3, .int a3)] := hl
  have hK := cyK hK (hts (.arrayClass .int) qw_54) hE.2.2.2.2.2.2.2.2.2.2.2.2.1
  replace hK : va_K (dC, dI) vwCl [(a0_3_c, .array .int), (a0_4_c, .int), (g.2.2.2.2.1, .int)] s := hK
  have b_a1 := i32b a1
  have b_a2 := i32b a2
  have b_a3 := i32b a3
  have hRS : RS g.2.2.2.2.1 rows rows := RS.rf
  refine lv_iconst (v := 0) hx hb dX6_bestToLift_0 (by decide) ?_
  refine lv_istore (lv' := [(4, .int 0), (0, .ref a0), (1, .int a1), (2, .int a2), (3, .int a3)]) hx hb dX6_bestToLift_1 hl (by decide) rfl (fun ls hl => ?_)
  have qc0 : (0 : Int32).toInt = 0 := by decide
  refine wloop (fun n H locs ls => ∃ (l3_4 : Int32) (w3_2 : Nat → Int32), n = (2147483647 - l3_4.toInt).toNat ∧ (0 ≤ l3_4.toInt) ∧ lv_has ls 10 [(4, .int l3_4), (0, .ref a0), (1, .int a1), (2, .int a2), (3, .int a3)] ∧ va_P (dC, dI) vwCl (([(a0, .inr (5, [.ref a0_0, .ref a0_1, .ref a0_2, .ref a0_3, .ref a0_4, .ref a0_5, .int a0_6, .int a0_7])), (a0_3, .inl (a0_3_c, 12, .inr (.inr (.inr (.inr a0_3_f))))), (a0_4, .inl (a0_4_c, 24, .inl w3_2))] : va_W) ++ rows) H ∧ va_D A (([(a0, .inr (5, [.ref a0_0, .ref a0_1, .ref a0_2, .ref a0_3, .ref a0_4, .ref a0_5, .int a0_6, .int a0_7])), (a0_3, .inl (a0_3_c, 12, .inr (.inr (.inr (.inr a0_3_f))))), (a0_4, .inl (a0_4_c, 24, .inl w3_2))] : va_W) ++ rows) ∧ va_S A s.heap H locs) ?_ ((2147483647 - (0 : Int32).toInt).toNat) _ _ _ ⟨0, a0_4_f, rfl, (by omega), lv_sub hl [0, 1, 2, 3, 4] rfl, hP, hD, hS⟩
  intro n3 H locs ls hI ih3
  obtain ⟨l3_4, w3_2, hn3, g_l3_4, hl, hP, hD, hS⟩ := hI
  have b_l3_4 := i32b l3_4
  refine lv_iload hx hb dX6_bestToLift_3 (lv_at hl 0 rfl) ?_
  refine lv_aload_n hx hb dX6_bestToLift_5 rfl (lv_at hl 1 rfl) ?_
  refine va_get (D := (dC, dI)) (ci := 5) (v := .int a0_6) (C := RX6) (T := TX6) (N := 8) hx hb hts inlX6 hown hK hP 0 rgL3_c6e5ab0 rfl 6 (by decide) (hts (.fieldLink RX6 38 "ClosedUntil$Timetable" "pieces" "I") qw_124) (fun _ h9 => h9) rfl dX6_bestToLift_6 ?_
  refine lv_icmp_ge (tgt := 33) hx hb dX6_bestToLift_9 (by decide) (fun c9_1 => ?_) (fun c9_1 => ?_)
  · have c9_1 : a0_6.toInt ≤ l3_4.toInt := (cv_le rfl rfl).mp c9_1
    refine lv_iconst (v := 0) hx hb dX6_bestToLift_33 (by decide) ?_
    refine lv_istore (lv' := [(4, .int 0), (0, .ref a0), (1, .int a1), (2, .int a2), (3, .int a3)]) hx hb dX6_bestToLift_34 hl (by decide) rfl (fun ls hl => ?_)
    refine lv_aload_n hx hb dX6_bestToLift_36 rfl (lv_at hl 1 rfl) ?_
    refine lv_iconst (v := 0) hx hb dX6_bestToLift_37 (by decide) ?_
    have qc0 : (0 : Int32).toInt = 0 := by decide
    have hPc := (rgP3_82d877d hP)
    have hKc := (rgK3_7ab6ad6 hK)
    refine vp_callSi ((va_runV (As := [.int 0]) (rest := []) ⟨hx, hb, hml, hown, hts⟩ (k_X6_openWhenGone l dC dI g (a0) (0) (a0_0) (a0_1) (a0_2) (a0_3) (a0_4) (a0_5) (a0_6) (a0_7) (a0_4_c) (w3_2) (by omega) (by omega)) (cwV 1 hts (gwV qw_169 qw_170 qw_171 qw_133 qw_168) rfl rfl rfl (by decide +kernel) ⟨Nat.le_of_ble_eq_true rfl, Nat.le_of_ble_eq_true rfl⟩) ⟨fun a U g9 mk q => ⟨q.1, q.2.1, va_K.moved (u := U) (U := U.calling g9 mk a) (Vm.Alike.refl U.vm) q.2.2.1, Ev.bl q.2.2.2⟩, va_recv hK hP (ci := 5) (q0 := 0) rfl rgL3_c6e5ab0, fun U hU hW => ⟨rfl, atB hU hPc, va_K.moved hW.alike hKc, hE.go hS (fun _ h => h.elim) hU hW⟩⟩ rfl rfl hl.1 rfl (lv_room (Nat.le_of_ble_eq_true rfl)) dX6_bestToLift_38 ⟨Nat.le_of_ble_eq_true rfl, Nat.le_of_ble_eq_true rfl⟩)).run (fun r2 h_r2 => ?_)
    have b_r2 := i32b r2
    refine lv_istore (lv' := [(5, .int r2), (4, .int 0), (0, .ref a0), (1, .int a1), (2, .int a2), (3, .int a3)]) hx hb dX6_bestToLift_41 hl (by decide) rfl (fun ls hl => ?_)
    refine lv_iconst (v := 1) hx hb dX6_bestToLift_43 (by decide) ?_
    refine lv_istore (lv' := [(6, .int 1), (5, .int r2), (4, .int 0), (0, .ref a0), (1, .int a1), (2, .int a2), (3, .int a3)]) hx hb dX6_bestToLift_44 hl (by decide) rfl (fun ls hl => ?_)
    have qc0 : (0 : Int32).toInt = 0 := by decide
    have qc1 : (1 : Int32).toInt = 1 := by decide
    refine wloop (fun n H locs ls => ∃ (l46_6 : Int32) (l46_5 : Int32) (l46_4 : Int32), n = (2147483647 - l46_6.toInt).toNat ∧ (1 ≤ l46_6.toInt) ∧ lv_has ls 10 [(6, .int l46_6), (5, .int l46_5), (4, .int l46_4), (0, .ref a0), (1, .int a1), (2, .int a2), (3, .int a3)] ∧ va_P (dC, dI) vwCl (([(a0, .inr (5, [.ref a0_0, .ref a0_1, .ref a0_2, .ref a0_3, .ref a0_4, .ref a0_5, .int a0_6, .int a0_7])), (a0_3, .inl (a0_3_c, 12, .inr (.inr (.inr (.inr a0_3_f))))), (a0_4, .inl (a0_4_c, 24, .inl w3_2))] : va_W) ++ rows) H ∧ va_D A (([(a0, .inr (5, [.ref a0_0, .ref a0_1, .ref a0_2, .ref a0_3, .ref a0_4, .ref a0_5, .int a0_6, .int a0_7])), (a0_3, .inl (a0_3_c, 12, .inr (.inr (.inr (.inr a0_3_f))))), (a0_4, .inl (a0_4_c, 24, .inl w3_2))] : va_W) ++ rows) ∧ va_S A s.heap H locs) ?_ ((2147483647 - (1 : Int32).toInt).toNat) _ _ _ ⟨1, r2, 0, rfl, (by omega), lv_sub hl [0, 1, 2, 3, 4, 5, 6] rfl, hP, hD, hS⟩
    intro n46 H locs ls hI ih46
    obtain ⟨l46_6, l46_5, l46_4, hn46, g_l46_6, hl, hP, hD, hS⟩ := hI
    have b_l46_6 := i32b l46_6
    have b_l46_5 := i32b l46_5
    have b_l46_4 := i32b l46_4
    refine lv_iload hx hb dX6_bestToLift_46 (lv_at hl 0 rfl) ?_
    refine lv_iload_n hx hb dX6_bestToLift_48 rfl (lv_at hl 6 rfl) ?_
    refine lv_icmp_gt (tgt := 124) hx hb dX6_bestToLift_49 (by decide) (fun c49_3 => ?_) (fun c49_3 => ?_)
    · have c49_3 : a3.toInt < l46_6.toInt := (cv_lt rfl rfl).mp c49_3
      refine lv_iload hx hb dX6_bestToLift_124 (lv_at hl 2 rfl) ?_
      refine W.widen (k := 0) (n := 0) (Nat.le_of_ble_eq_true rfl) (Nat.le_of_ble_eq_true rfl) ?_
      have hP9 := hP
      have hD9 := hD
      have hK9 := (rgK3_e7c053f hK)
      exact W.iret (v := l46_4) hx hb hr (fun t ht hW => ⟨⟨l46_4, l46_4, rfl, rfl, w3_2, atB ht hP9, va_K.moved hW.alike hK9, hD9⟩, hS.F ht⟩) hS.2.2 dX6_bestToLift_126
    · have c49_3 : ¬ (a3.toInt < l46_6.toInt) := mt (cv_lt rfl rfl).mpr c49_3
      refine lv_iconst (v := 1) hx hb dX6_bestToLift_52 (by decide) ?_
      refine lv_iload hx hb dX6_bestToLift_53 (lv_at hl 0 rfl) ?_
      refine lv_ishl hx hb dX6_bestToLift_55 ?_
      refine lv_topi (fun x4 e_x4 => ?_)
      refine lv_iconst (v := 1) hx hb dX6_bestToLift_56 (by decide) ?_
      refine lv_isub hx hb dX6_bestToLift_57 ?_
      refine lv_topi (fun x5 e_x5 => ?_)
      try have e_x5 := ti_sub e_x5 rfl (show (1 : Int32).toInt = 1 by decide) (by omega)
      refine lv_istore (lv' := [(7, .int x5), (6, .int l46_6), (5, .int l46_5), (4, .int l46_4), (0, .ref a0), (1, .int a1), (2, .int a2), (3, .int a3)]) hx hb dX6_bestToLift_58 hl (by decide) rfl (fun ls hl => ?_)
      refine lv_iconst (v := 0) hx hb dX6_bestToLift_60 (by decide) ?_
      refine lv_istore (lv' := [(8, .int 0), (7, .int x5), (6, .int l46_6), (5, .int l46_5), (4, .int l46_4), (0, .ref a0), (1, .int a1), (2, .int a2), (3, .int a3)]) hx hb dX6_bestToLift_61 hl (by decide) rfl (fun ls hl => ?_)
      have qc0 : (0 : Int32).toInt = 0 := by decide
      refine wloop (fun n H locs ls => ∃ (l63_8 : Int32) (l63_7 : Int32) (l63_5 : Int32) (l63_4 : Int32), n = (2147483647 - l63_8.toInt).toNat ∧ (0 ≤ l63_8.toInt) ∧ lv_has ls 10 [(8, .int l63_8), (7, .int l63_7), (6, .int l46_6), (5, .int l63_5), (4, .int l63_4), (0, .ref a0), (1, .int a1), (2, .int a2), (3, .int a3)] ∧ va_P (dC, dI) vwCl (([(a0, .inr (5, [.ref a0_0, .ref a0_1, .ref a0_2, .ref a0_3, .ref a0_4, .ref a0_5, .int a0_6, .int a0_7])), (a0_3, .inl (a0_3_c, 12, .inr (.inr (.inr (.inr a0_3_f))))), (a0_4, .inl (a0_4_c, 24, .inl w3_2))] : va_W) ++ rows) H ∧ va_D A (([(a0, .inr (5, [.ref a0_0, .ref a0_1, .ref a0_2, .ref a0_3, .ref a0_4, .ref a0_5, .int a0_6, .int a0_7])), (a0_3, .inl (a0_3_c, 12, .inr (.inr (.inr (.inr a0_3_f))))), (a0_4, .inl (a0_4_c, 24, .inl w3_2))] : va_W) ++ rows) ∧ va_S A s.heap H locs) ?_ ((2147483647 - (0 : Int32).toInt).toNat) _ _ _ ⟨0, x5, l46_5, l46_4, rfl, (by omega), lv_sub hl [0, 1, 2, 3, 4, 5, 6, 7, 8] rfl, hP, hD, hS⟩
      intro n63 H locs ls hI ih63
      obtain ⟨l63_8, l63_7, l63_5, l63_4, hn63, g_l63_8, hl, hP, hD, hS⟩ := hI
      have b_l63_8 := i32b l63_8
      have b_l63_7 := i32b l63_7
      have b_l63_5 := i32b l63_5
      have b_l63_4 := i32b l63_4
      refine lv_iload hx hb dX6_bestToLift_63 (lv_at hl 0 rfl) ?_
      refine lv_sipush (v := 220) hx hb dX6_bestToLift_65 (by decide) ?_
      refine lv_icmp_ge (tgt := 118) hx hb dX6_bestToLift_68 (by decide) (fun c68_6 => ?_) (fun c68_6 => ?_)
      · have c68_6 : 220 ≤ l63_8.toInt := (cv_le (by decide) rfl).mp c68_6
        obtain ⟨x7, e_x7⟩ : ∃ y : Int32, y = l46_6 + 1 := ⟨_, rfl⟩
        refine lv_iinc (v := x7) (lv' := [(6, .int x7), (8, .int l63_8), (7, .int l63_7), (5, .int l63_5), (4, .int l63_4), (0, .ref a0), (1, .int a1), (2, .int a2), (3, .int a3)]) hx hb dX6_bestToLift_118 hl (k := 2) rfl (by rw [e_x7]; rfl) (by decide) rfl (fun ls hl => ?_)
        try have e_x7 := ti_add e_x7 rfl (show (1 : Int32).toInt = 1 by decide) (by omega)
        refine lv_goto (tgt := 46) hx hb dX6_bestToLift_121 (by decide) ?_
        exact ih46 ((2147483647 - x7.toInt).toNat) _ _ _ (by omega) ⟨x7, l63_5, l63_4, rfl, (by omega), lv_sub hl [0, 3, 4, 5, 6, 7, 8] rfl, hP, hD, hS⟩
      · have c68_6 : ¬ (220 ≤ l63_8.toInt) := mt (cv_le (by decide) rfl).mpr c68_6
        refine lv_iload hx hb dX6_bestToLift_71 (lv_at hl 1 rfl) ?_
        refine lv_iconst (v := 1) hx hb dX6_bestToLift_73 (by decide) ?_
        refine lv_aload_n hx hb dX6_bestToLift_74 rfl (lv_at hl 5 rfl) ?_
        refine va_get (D := (dC, dI)) (ci := 5) (v := .int a0_7) (C := RX6) (T := TX6) (N := 8) hx hb hts inlX6 hown hK hP 0 rgL3_c6e5ab0 rfl 7 (by decide) (hts (.fieldLink RX6 42 "ClosedUntil$Timetable" "closures" "I") qw_148) (fun _ h9 => h9) rfl dX6_bestToLift_75 ?_
        refine lv_ishl hx hb dX6_bestToLift_78 ?_
        refine lv_topi (fun x8 e_x8 => ?_)
        refine lv_icmp_ge (tgt := 118) hx hb dX6_bestToLift_79 (by decide) (fun c79_9 => ?_) (fun c79_9 => ?_)
        · have c79_9 : x8.toInt ≤ l63_7.toInt := (cv_le rfl rfl).mp c79_9
          obtain ⟨x10, e_x10⟩ : ∃ y : Int32, y = l46_6 + 1 := ⟨_, rfl⟩
          refine lv_iinc (v := x10) (lv' := [(6, .int x10), (8, .int l63_8), (7, .int l63_7), (5, .int l63_5), (4, .int l63_4), (0, .ref a0), (1, .int a1), (2, .int a2), (3, .int a3)]) hx hb dX6_bestToLift_118 hl (k := 2) rfl (by rw [e_x10]; rfl) (by decide) rfl (fun ls hl => ?_)
          try have e_x10 := ti_add e_x10 rfl (show (1 : Int32).toInt = 1 by decide) (by omega)
          refine lv_goto (tgt := 46) hx hb dX6_bestToLift_121 (by decide) ?_
          exact ih46 ((2147483647 - x10.toInt).toNat) _ _ _ (by omega) ⟨x10, l63_5, l63_4, rfl, (by omega), lv_sub hl [0, 3, 4, 5, 6, 7, 8] rfl, hP, hD, hS⟩
        · have c79_9 : ¬ (x8.toInt ≤ l63_7.toInt) := mt (cv_le rfl rfl).mpr c79_9
          refine lv_aload_n hx hb dX6_bestToLift_82 rfl (lv_at hl 5 rfl) ?_
          refine lv_iload hx hb dX6_bestToLift_83 (lv_at hl 1 rfl) ?_
          have hPc := (rgP3_82d877d hP)
          have hKc := (rgK3_7ab6ad6 hK)
          refine vp_callSi ((va_runV (As := [.int l63_7]) (rest := []) ⟨hx, hb, hml, hown, hts⟩ (k_X6_openWhenGone l dC dI g (a0) (l63_7) (a0_0) (a0_1) (a0_2) (a0_3) (a0_4) (a0_5) (a0_6) (a0_7) (a0_4_c) (w3_2) (by omega) (by omega)) (cwV 1 hts (gwV qw_169 qw_170 qw_171 qw_133 qw_168) rfl rfl rfl (by decide +kernel) ⟨Nat.le_of_ble_eq_true rfl, Nat.le_of_ble_eq_true rfl⟩) ⟨fun a U g9 mk q => ⟨q.1, q.2.1, va_K.moved (u := U) (U := U.calling g9 mk a) (Vm.Alike.refl U.vm) q.2.2.1, Ev.bl q.2.2.2⟩, va_recv hK hP (ci := 5) (q0 := 0) rfl rgL3_c6e5ab0, fun U hU hW => ⟨rfl, atB hU hPc, va_K.moved hW.alike hKc, hE.go hS (fun _ h => h.elim) hU hW⟩⟩ rfl rfl hl.1 rfl (lv_room (Nat.le_of_ble_eq_true rfl)) dX6_bestToLift_85 ⟨Nat.le_of_ble_eq_true rfl, Nat.le_of_ble_eq_true rfl⟩)).run (fun r11 h_r11 => ?_)
          have b_r11 := i32b r11
          refine lv_istore (lv' := [(9, .int r11), (8, .int l63_8), (7, .int l63_7), (6, .int l46_6), (5, .int l63_5), (4, .int l63_4), (0, .ref a0), (1, .int a1), (2, .int a2), (3, .int a3)]) hx hb dX6_bestToLift_88 hl (by decide) rfl (fun ls hl => ?_)
          refine lv_iload hx hb dX6_bestToLift_90 (lv_at hl 0 rfl) ?_
          refine lv_iload hx hb dX6_bestToLift_92 (lv_at hl 4 rfl) ?_
          refine lv_icmp_le (tgt := 105) hx hb dX6_bestToLift_94 (by decide) (fun c94_12 => ?_) (fun c94_12 => ?_)
          · have c94_12 : r11.toInt ≤ l63_5.toInt := (cv_le rfl rfl).mp c94_12
            refine lv_iload hx hb dX6_bestToLift_105 (lv_at hl 2 rfl) ?_
            have hPc := (rgP3_2980926 hP)
            have hKc := (rgK3_e7c053f hK)
            refine vp_callSi ((va_runS (As := [.int l63_7]) (rest := []) ⟨hx, hb, hml, hown, hts⟩ (k_X6_nextOfSameSize l dC dI g (l63_7) ) (va_cwS 1 hts (gwS qw_173 qw_174 qw_133 qw_172) rfl rfl rfl (by decide +kernel) ⟨Nat.le_of_ble_eq_true rfl, Nat.le_of_ble_eq_true rfl⟩) ⟨fun a U g9 mk q => ⟨q.1, q.2.1, va_K.moved (u := U) (U := U.calling g9 mk a) (Vm.Alike.refl U.vm) q.2.2.1, Ev.bl q.2.2.2⟩, fun U hU hW => ⟨rfl, atB hU hPc, va_K.moved hW.alike hKc, hE.go hS (fun _ h => h.elim) hU hW⟩⟩ rfl rfl hl.1 rfl (lv_room (Nat.le_of_ble_eq_true rfl)) dX6_bestToLift_107 ⟨Nat.le_of_ble_eq_true rfl, Nat.le_of_ble_eq_true rfl⟩)).run (fun r13 h_r13 => ?_)
            have b_r13 := i32b r13
            refine lv_istore (lv' := [(7, .int r13), (9, .int r11), (8, .int l63_8), (6, .int l46_6), (5, .int l63_5), (4, .int l63_4), (0, .ref a0), (1, .int a1), (2, .int a2), (3, .int a3)]) hx hb dX6_bestToLift_110 hl (by decide) rfl (fun ls hl => ?_)
            obtain ⟨x14, e_x14⟩ : ∃ y : Int32, y = l63_8 + 1 := ⟨_, rfl⟩
            refine lv_iinc (v := x14) (lv' := [(8, .int x14), (7, .int r13), (9, .int r11), (6, .int l46_6), (5, .int l63_5), (4, .int l63_4), (0, .ref a0), (1, .int a1), (2, .int a2), (3, .int a3)]) hx hb dX6_bestToLift_112 hl (k := 2) rfl (by rw [e_x14]; rfl) (by decide) rfl (fun ls hl => ?_)
            try have e_x14 := ti_add e_x14 rfl (show (1 : Int32).toInt = 1 by decide) (by omega)
            refine lv_goto (tgt := 63) hx hb dX6_bestToLift_115 (by decide) ?_
            exact ih63 ((2147483647 - x14.toInt).toNat) _ _ _ (by omega) ⟨x14, r13, l63_5, l63_4, rfl, (by omega), lv_sub hl [0, 1, 3, 4, 5, 6, 7, 8, 9] rfl, hP, hD, hS⟩
          · have c94_12 : ¬ (r11.toInt ≤ l63_5.toInt) := mt (cv_le rfl rfl).mpr c94_12
            refine lv_iload hx hb dX6_bestToLift_97 (lv_at hl 0 rfl) ?_
            refine lv_istore (lv' := [(5, .int r11), (9, .int r11), (8, .int l63_8), (7, .int l63_7), (6, .int l46_6), (4, .int l63_4), (0, .ref a0), (1, .int a1), (2, .int a2), (3, .int a3)]) hx hb dX6_bestToLift_99 hl (by decide) rfl (fun ls hl => ?_)
            refine lv_iload hx hb dX6_bestToLift_101 (lv_at hl 3 rfl) ?_
            refine lv_istore (lv' := [(4, .int l63_7), (5, .int r11), (9, .int r11), (8, .int l63_8), (7, .int l63_7), (6, .int l46_6), (0, .ref a0), (1, .int a1), (2, .int a2), (3, .int a3)]) hx hb dX6_bestToLift_103 hl (by decide) rfl (fun ls hl => ?_)
            refine lv_iload hx hb dX6_bestToLift_105 (lv_at hl 4 rfl) ?_
            have hPc := (rgP3_2980926 hP)
            have hKc := (rgK3_e7c053f hK)
            refine vp_callSi ((va_runS (As := [.int l63_7]) (rest := []) ⟨hx, hb, hml, hown, hts⟩ (k_X6_nextOfSameSize l dC dI g (l63_7) ) (va_cwS 1 hts (gwS qw_173 qw_174 qw_133 qw_172) rfl rfl rfl (by decide +kernel) ⟨Nat.le_of_ble_eq_true rfl, Nat.le_of_ble_eq_true rfl⟩) ⟨fun a U g9 mk q => ⟨q.1, q.2.1, va_K.moved (u := U) (U := U.calling g9 mk a) (Vm.Alike.refl U.vm) q.2.2.1, Ev.bl q.2.2.2⟩, fun U hU hW => ⟨rfl, atB hU hPc, va_K.moved hW.alike hKc, hE.go hS (fun _ h => h.elim) hU hW⟩⟩ rfl rfl hl.1 rfl (lv_room (Nat.le_of_ble_eq_true rfl)) dX6_bestToLift_107 ⟨Nat.le_of_ble_eq_true rfl, Nat.le_of_ble_eq_true rfl⟩)).run (fun r15 h_r15 => ?_)
            have b_r15 := i32b r15
            refine lv_istore (lv' := [(7, .int r15), (4, .int l63_7), (5, .int r11), (9, .int r11), (8, .int l63_8), (6, .int l46_6), (0, .ref a0), (1, .int a1), (2, .int a2), (3, .int a3)]) hx hb dX6_bestToLift_110 hl (by decide) rfl (fun ls hl => ?_)
            obtain ⟨x16, e_x16⟩ : ∃ y : Int32, y = l63_8 + 1 := ⟨_, rfl⟩
            refine lv_iinc (v := x16) (lv' := [(8, .int x16), (7, .int r15), (4, .int l63_7), (5, .int r11), (9, .int r11), (6, .int l46_6), (0, .ref a0), (1, .int a1), (2, .int a2), (3, .int a3)]) hx hb dX6_bestToLift_112 hl (k := 4) rfl (by rw [e_x16]; rfl) (by decide) rfl (fun ls hl => ?_)
            try have e_x16 := ti_add e_x16 rfl (show (1 : Int32).toInt = 1 by decide) (by omega)
            refine lv_goto (tgt := 63) hx hb dX6_bestToLift_115 (by decide) ?_
            exact ih63 ((2147483647 - x16.toInt).toNat) _ _ _ (by omega) ⟨x16, r15, r11, l63_7, rfl, (by omega), lv_sub hl [0, 1, 5, 3, 2, 6, 7, 8, 9] rfl, hP, hD, hS⟩
  · have c9_1 : ¬ (a0_6.toInt ≤ l3_4.toInt) := mt (cv_le rfl rfl).mpr c9_1
    refine lv_aload_n hx hb dX6_bestToLift_12 rfl (lv_at hl 1 rfl) ?_
    refine va_get (D := (dC, dI)) (ci := 5) (v := .ref a0_4) (C := RX6) (T := TX6) (N := 8) hx hb hts inlX6 hown hK hP 0 rgL3_c6e5ab0 rfl 4 (by decide) (hts (.fieldLink RX6 26 "ClosedUntil$Timetable" "closers" "[I") qw_154) (fun _ h9 => h9) rfl dX6_bestToLift_13 ?_
    refine lv_iload hx hb dX6_bestToLift_16 (lv_at hl 0 rfl) ?_
    refine lv_aload_n hx hb dX6_bestToLift_18 rfl (lv_at hl 1 rfl) ?_
    refine lv_iload hx hb dX6_bestToLift_19 (lv_at hl 0 rfl) ?_
    refine lv_iload_n hx hb dX6_bestToLift_21 rfl (lv_at hl 2 rfl) ?_
    refine lv_iload_n hx hb dX6_bestToLift_22 rfl (lv_at hl 3 rfl) ?_
    have hPc := (rgP3_89798e4 hP)
    have hKc := (rgK3_fa4d35d hK)
    refine vp_callSi ((va_runV (As := [.int l3_4, .int a1, .int a2]) (rest := [.int l3_4, .ref a0_4]) ⟨hx, hb, hml, hown, hts⟩ (k_X6_closersOf l dC dI g (a0) (l3_4) (a1) (a2) (a0_0) (a0_1) (a0_2) (a0_3) (a0_4) (a0_5) (a0_6) (a0_7) (a0_3_c) (a0_3_f) (rows) (by omega) (by omega) (RS.gr hRS h_a0_3_f) (by omega)) (cwV 3 hts (gwV qw_150 qw_151 qw_152 qw_133 qw_149) rfl rfl rfl (by decide +kernel) ⟨Nat.le_of_ble_eq_true rfl, Nat.le_of_ble_eq_true rfl⟩) ⟨fun a U g9 mk q => ⟨q.1, q.2.1, va_K.moved (u := U) (U := U.calling g9 mk a) (Vm.Alike.refl U.vm) q.2.2.1, Ev.bl q.2.2.2⟩, va_recv hK hP (ci := 5) (q0 := 0) rfl rgL3_c6e5ab0, fun U hU hW => ⟨rfl, atB hU hPc, va_K.moved hW.alike hKc, hE.go hS (fun _ h => h.elim) hU hW⟩⟩ rfl rfl hl.1 rfl (lv_room (Nat.le_of_ble_eq_true rfl)) dX6_bestToLift_23 ⟨Nat.le_of_ble_eq_true rfl, Nat.le_of_ble_eq_true rfl⟩)).run (fun r17 h_r17 => ?_)
    have b_r17 := i32b r17
    refine va_iast hx hb hK hP hD hS 2 1 rgL3_a8054e8 rgT3_9bdde83 (vinI (by omega) (by omega)) dX6_bestToLift_26 (fun H locs hP9 hD9 hS9 => ?_)
    obtain ⟨y18, e_y18⟩ : ∃ y, (upd w3_2 l3_4.toNatClampNeg r17) = y := ⟨_, rfl⟩
    clear hP hD hS
    obtain ⟨hP, hD⟩ := rgS3_7be8a0c (e := (a0_4, .inl (a0_4_c, 24, .inl y18))) hP9 hD9 (congrArg (fun z9 => (((a0_4, .inl (a0_4_c, 24, .inl z9)) : Nat × va_E))) e_y18)
    have hS := hS9; clear hP9 hD9 hS9
    obtain ⟨x19, e_x19⟩ : ∃ y : Int32, y = l3_4 + 1 := ⟨_, rfl⟩
    refine lv_iinc (v := x19) (lv' := [(4, .int x19), (0, .ref a0), (1, .int a1), (2, .int a2), (3, .int a3)]) hx hb dX6_bestToLift_27 hl (k := 0) rfl (by rw [e_x19]; rfl) (by decide) rfl (fun ls hl => ?_)
    try have e_x19 := ti_add e_x19 rfl (show (1 : Int32).toInt = 1 by decide) (by omega)
    refine lv_goto (tgt := 3) hx hb dX6_bestToLift_30 (by decide) ?_
    exact ih3 ((2147483647 - x19.toInt).toNat) _ _ _ (by omega) ⟨x19, y18, rfl, (by omega), lv_sub hl [0, 1, 2, 3, 4] rfl, hP, hD, hS⟩
set_option maxHeartbeats 4000000 in
set_option maxRecDepth 100000 in
theorem k_X6_fill (l : Launch) (dC : Nat → ClassId) (dI : Nat → Nat → Nat) (g : Gv) (sz : Nat) (a0 : Nat) (a1 : Nat) (a2 : Nat) (a0_0 : Nat) (a0_1 : Nat) (a0_2 : Nat) (a0_3 : Nat) (a0_4 : Nat) (a0_5 : Nat) (a0_6 : Int32) (a0_7 : Int32) (a0_0_c : ClassId) (a0_0_f : Nat → Int32) (a0_1_c : ClassId) (a0_1_f : Nat → Int32) (a0_2_c : ClassId) (a0_2_f : Nat → Option Nat) (a0_3_c : ClassId) (a0_3_f : Nat → Option Nat) (a1_0 : Int32) (a1_1 : Nat) (a1_2 : Int32) (a1_3 : Nat) (a1_4 : Int32) (a1_5 : Nat) (a1_6 : Nat) (a1_7 : Nat) (a1_8 : Int32) (a1_9 : Nat) (a1_10 : Nat) (a1_11 : Nat) (a1_12 : Nat) (a1_13 : Nat) (a1_1_c : ClassId) (a1_1_f : Nat → Int32) (a1_3_c : ClassId) (a1_3_f : Nat → Int32) (a1_5_c : ClassId) (a1_5_f : Nat → Int32) (a1_6_c : ClassId) (a1_6_f : Nat → Int32) (a1_7_c : ClassId) (a1_7_f : Nat → Int32) (a1_9_c : ClassId) (a1_9_f : Nat → Int32) (a1_10_c : ClassId) (a1_10_f : Nat → Int32) (a1_11_c : ClassId) (a1_11_f : Nat → Int32) (a1_12_c : ClassId) (a1_12_f : Nat → Option Nat) (a1_13_c : ClassId) (a1_13_f : Nat → Int32) (a2_0 : Nat) (a2_1 : Nat) (a2_2 : Nat) (a2_3 : Nat) (a2_4 : Nat) (a2_5 : Nat) (a2_0_c : ClassId) (a2_0_f : Nat → Int32) (a2_1_c : ClassId) (a2_1_f : Nat → Int32) (a2_2_c : ClassId) (a2_2_f : Nat → Int32) (a2_3_c : ClassId) (a2_3_f : Nat → Int32) (a2_4_c : ClassId) (a2_4_f : Nat → Option Nat) (a2_5_c : ClassId) (a2_5_f : Nat → Option Nat) (rows : va_W) (h_a0_6 : 0 ≤ a0_6.toInt ∧ a0_6.toInt ≤ 24) (h_a0_7 : 0 ≤ a0_7.toInt ∧ a0_7.toInt ≤ 12) (h_a0_2_f : GR g.2.2.2.2.1 24 12 a0_2_f rows) (h_a0_3_f : GR g.2.2.2.2.1 24 12 a0_3_f rows) (h_a1_0 : 0 ≤ a1_0.toInt ∧ a1_0.toInt ≤ 8) (h_a1_2 : 0 ≤ a1_2.toInt ∧ a1_2.toInt ≤ 4) (h_a1_4 : 0 ≤ a1_4.toInt ∧ a1_4.toInt ≤ 24) (h_a1_8 : 0 ≤ a1_8.toInt ∧ a1_8.toInt ≤ 12) (h_a1_12_f : GR g.2.2.2.2.1 3 12 a1_12_f rows) (h_a2_3_f : vr 0 5 a2_3_f) (h_a2_4_f : GR g.2.2.2.2.1 5 12 a2_4_f rows) (h_a2_5_f : GR g.2.2.2.2.1 5 12 a2_5_f rows) (hho : HOk a1_9_f a1_10_f a1_8) : Met l yX6_fill (.code yX6_fill cX6_fill 5 none :: TBL) ({ frames := 5, cells := 0, slots := 0, locals := 124 }) (va_Pc [.ref a0, .ref a1, .ref a2] (fun U => U.heap.size = sz ∧ va_P (dC, dI) vwCl (([(a0, .inr (5, [.ref a0_0, .ref a0_1, .ref a0_2, .ref a0_3, .ref a0_4, .ref a0_5, .int a0_6, .int a0_7])), (a0_0, .inl (a0_0_c, 24, .inl a0_0_f)), (a0_1, .inl (a0_1_c, 24, .inl a0_1_f)), (a0_2, .inl (a0_2_c, 12, .inr (.inr (.inr (.inr a0_2_f))))), (a0_3, .inl (a0_3_c, 12, .inr (.inr (.inr (.inr a0_3_f))))), (a1, .inr (0, [.int a1_0, .ref a1_1, .int a1_2, .ref a1_3, .int a1_4, .ref a1_5, .ref a1_6, .ref a1_7, .int a1_8, .ref a1_9, .ref a1_10, .ref a1_11, .ref a1_12, .ref a1_13])), (a1_1, .inl (a1_1_c, 8, .inl a1_1_f)), (a1_3, .inl (a1_3_c, 4, .inl a1_3_f)), (a1_5, .inl (a1_5_c, 24, .inl a1_5_f)), (a1_6, .inl (a1_6_c, 24, .inl a1_6_f)), (a1_7, .inl (a1_7_c, 24, .inl a1_7_f)), (a1_9, .inl (a1_9_c, 12, .inl a1_9_f)), (a1_10, .inl (a1_10_c, 12, .inl a1_10_f)), (a1_11, .inl (a1_11_c, 12, .inl a1_11_f)), (a1_12, .inl (a1_12_c, 12, .inr (.inr (.inr (.inr a1_12_f))))), (a1_13, .inl (a1_13_c, 12, .inl a1_13_f)), (a2, .inr (2, [.ref a2_0, .ref a2_1, .ref a2_2, .ref a2_3, .ref a2_4, .ref a2_5])), (a2_0, .inl (a2_0_c, 24, .inl a2_0_f)), (a2_1, .inl (a2_1_c, 8, .inl a2_1_f)), (a2_2, .inl (a2_2_c, 12, .inl a2_2_f)), (a2_3, .inl (a2_3_c, 12, .inl a2_3_f)), (a2_4, .inl (a2_4_c, 12, .inr (.inr (.inr (.inr a2_4_f))))), (a2_5, .inl (a2_5_c, 12, .inr (.inr (.inr (.inr a2_5_f)))))] : va_W) ++ rows) U.heap ∧ va_K (dC, dI) vwCl [(a0_0_c, .int), (a0_1_c, .int), (a0_2_c, .array .int), (a0_3_c, .array .int), (a1_1_c, .int), (a1_3_c, .int), (a1_5_c, .int), (a1_6_c, .int), (a1_7_c, .int), (a1_9_c, .int), (a1_10_c, .int), (a1_11_c, .boolean), (a1_12_c, .array .int), (a1_13_c, .int), (a2_0_c, .int), (a2_1_c, .int), (a2_2_c, .int), (a2_3_c, .int), (a2_4_c, .array .int), (a2_5_c, .array .int)] U ∧ va_D (fun _ => True) (([(a0, .inr (5, [.ref a0_0, .ref a0_1, .ref a0_2, .ref a0_3, .ref a0_4, .ref a0_5, .int a0_6, .int a0_7])), (a0_0, .inl (a0_0_c, 24, .inl a0_0_f)), (a0_1, .inl (a0_1_c, 24, .inl a0_1_f)), (a0_2, .inl (a0_2_c, 12, .inr (.inr (.inr (.inr a0_2_f))))), (a0_3, .inl (a0_3_c, 12, .inr (.inr (.inr (.inr a0_3_f))))), (a1, .inr (0, [.int a1_0, .ref a1_1, .int a1_2, .ref a1_3, .int a1_4, .ref a1_5, .ref a1_6, .ref a1_7, .int a1_8, .ref a1_9, .ref a1_10, .ref a1_11, .ref a1_12, .ref a1_13])), (a1_1, .inl (a1_1_c, 8, .inl a1_1_f)), (a1_3, .inl (a1_3_c, 4, .inl a1_3_f)), (a1_5, .inl (a1_5_c, 24, .inl a1_5_f)), (a1_6, .inl (a1_6_c, 24, .inl a1_6_f)), (a1_7, .inl (a1_7_c, 24, .inl a1_7_f)), (a1_9, .inl (a1_9_c, 12, .inl a1_9_f)), (a1_10, .inl (a1_10_c, 12, .inl a1_10_f)), (a1_11, .inl (a1_11_c, 12, .inl a1_11_f)), (a1_12, .inl (a1_12_c, 12, .inr (.inr (.inr (.inr a1_12_f))))), (a1_13, .inl (a1_13_c, 12, .inl a1_13_f)), (a2, .inr (2, [.ref a2_0, .ref a2_1, .ref a2_2, .ref a2_3, .ref a2_4, .ref a2_5])), (a2_0, .inl (a2_0_c, 24, .inl a2_0_f)), (a2_1, .inl (a2_1_c, 8, .inl a2_1_f)), (a2_2, .inl (a2_2_c, 12, .inl a2_2_f)), (a2_3, .inl (a2_3_c, 12, .inl a2_3_f)), (a2_4, .inl (a2_4_c, 12, .inr (.inr (.inr (.inr a2_4_f))))), (a2_5, .inl (a2_5_c, 12, .inr (.inr (.inr (.inr a2_5_f)))))] : va_W) ++ rows) ∧ Ev g (va_A (([(a0, .inr (5, [.ref a0_0, .ref a0_1, .ref a0_2, .ref a0_3, .ref a0_4, .ref a0_5, .int a0_6, .int a0_7])), (a0_0, .inl (a0_0_c, 24, .inl a0_0_f)), (a0_1, .inl (a0_1_c, 24, .inl a0_1_f)), (a0_2, .inl (a0_2_c, 12, .inr (.inr (.inr (.inr a0_2_f))))), (a0_3, .inl (a0_3_c, 12, .inr (.inr (.inr (.inr a0_3_f))))), (a1, .inr (0, [.int a1_0, .ref a1_1, .int a1_2, .ref a1_3, .int a1_4, .ref a1_5, .ref a1_6, .ref a1_7, .int a1_8, .ref a1_9, .ref a1_10, .ref a1_11, .ref a1_12, .ref a1_13])), (a1_1, .inl (a1_1_c, 8, .inl a1_1_f)), (a1_3, .inl (a1_3_c, 4, .inl a1_3_f)), (a1_5, .inl (a1_5_c, 24, .inl a1_5_f)), (a1_6, .inl (a1_6_c, 24, .inl a1_6_f)), (a1_7, .inl (a1_7_c, 24, .inl a1_7_f)), (a1_9, .inl (a1_9_c, 12, .inl a1_9_f)), (a1_10, .inl (a1_10_c, 12, .inl a1_10_f)), (a1_11, .inl (a1_11_c, 12, .inl a1_11_f)), (a1_12, .inl (a1_12_c, 12, .inr (.inr (.inr (.inr a1_12_f))))), (a1_13, .inl (a1_13_c, 12, .inl a1_13_f)), (a2, .inr (2, [.ref a2_0, .ref a2_1, .ref a2_2, .ref a2_3, .ref a2_4, .ref a2_5])), (a2_0, .inl (a2_0_c, 24, .inl a2_0_f)), (a2_1, .inl (a2_1_c, 8, .inl a2_1_f)), (a2_2, .inl (a2_2_c, 12, .inl a2_2_f)), (a2_3, .inl (a2_3_c, 12, .inl a2_3_f)), (a2_4, .inl (a2_4_c, 12, .inr (.inr (.inr (.inr a2_4_f))))), (a2_5, .inl (a2_5_c, 12, .inr (.inr (.inr (.inr a2_5_f)))))] : va_W) ++ rows) sz) U)) (va_Qv (fun (_ : Unit) => True) (fun (_ : Unit) (t : State) => ∃ (za0_6 : Int32) (za0_7 : Int32) (za0_0_f : Nat → Int32) (za0_1_f : Nat → Int32) (zrows : va_W), (0 ≤ za0_6.toInt ∧ za0_6.toInt ≤ 24) ∧ (0 ≤ za0_7.toInt ∧ za0_7.toInt ≤ 12) ∧ RS g.2.2.2.2.1 rows zrows ∧ va_P (dC, dI) vwCl (([(a0, .inr (5, [.ref a0_0, .ref a0_1, .ref a0_2, .ref a0_3, .ref a0_4, .ref a0_5, .int za0_6, .int za0_7])), (a0_0, .inl (a0_0_c, 24, .inl za0_0_f)), (a0_1, .inl (a0_1_c, 24, .inl za0_1_f)), (a0_2, .inl (a0_2_c, 12, .inr (.inr (.inr (.inr a0_2_f))))), (a0_3, .inl (a0_3_c, 12, .inr (.inr (.inr (.inr a0_3_f))))), (a1, .inr (0, [.int a1_0, .ref a1_1, .int a1_2, .ref a1_3, .int a1_4, .ref a1_5, .ref a1_6, .ref a1_7, .int a1_8, .ref a1_9, .ref a1_10, .ref a1_11, .ref a1_12, .ref a1_13])), (a1_1, .inl (a1_1_c, 8, .inl a1_1_f)), (a1_3, .inl (a1_3_c, 4, .inl a1_3_f)), (a1_5, .inl (a1_5_c, 24, .inl a1_5_f)), (a1_6, .inl (a1_6_c, 24, .inl a1_6_f)), (a1_7, .inl (a1_7_c, 24, .inl a1_7_f)), (a1_9, .inl (a1_9_c, 12, .inl a1_9_f)), (a1_10, .inl (a1_10_c, 12, .inl a1_10_f)), (a1_11, .inl (a1_11_c, 12, .inl a1_11_f)), (a1_12, .inl (a1_12_c, 12, .inr (.inr (.inr (.inr a1_12_f))))), (a1_13, .inl (a1_13_c, 12, .inl a1_13_f)), (a2, .inr (2, [.ref a2_0, .ref a2_1, .ref a2_2, .ref a2_3, .ref a2_4, .ref a2_5])), (a2_0, .inl (a2_0_c, 24, .inl a2_0_f)), (a2_1, .inl (a2_1_c, 8, .inl a2_1_f)), (a2_2, .inl (a2_2_c, 12, .inl a2_2_f)), (a2_3, .inl (a2_3_c, 12, .inl a2_3_f)), (a2_4, .inl (a2_4_c, 12, .inr (.inr (.inr (.inr a2_4_f))))), (a2_5, .inl (a2_5_c, 12, .inr (.inr (.inr (.inr a2_5_f)))))] : va_W) ++ zrows) t.heap ∧ va_K (dC, dI) vwCl [] t ∧ va_D (va_A (([(a0, .inr (5, [.ref a0_0, .ref a0_1, .ref a0_2, .ref a0_3, .ref a0_4, .ref a0_5, .int a0_6, .int a0_7])), (a0_0, .inl (a0_0_c, 24, .inl a0_0_f)), (a0_1, .inl (a0_1_c, 24, .inl a0_1_f)), (a0_2, .inl (a0_2_c, 12, .inr (.inr (.inr (.inr a0_2_f))))), (a0_3, .inl (a0_3_c, 12, .inr (.inr (.inr (.inr a0_3_f))))), (a1, .inr (0, [.int a1_0, .ref a1_1, .int a1_2, .ref a1_3, .int a1_4, .ref a1_5, .ref a1_6, .ref a1_7, .int a1_8, .ref a1_9, .ref a1_10, .ref a1_11, .ref a1_12, .ref a1_13])), (a1_1, .inl (a1_1_c, 8, .inl a1_1_f)), (a1_3, .inl (a1_3_c, 4, .inl a1_3_f)), (a1_5, .inl (a1_5_c, 24, .inl a1_5_f)), (a1_6, .inl (a1_6_c, 24, .inl a1_6_f)), (a1_7, .inl (a1_7_c, 24, .inl a1_7_f)), (a1_9, .inl (a1_9_c, 12, .inl a1_9_f)), (a1_10, .inl (a1_10_c, 12, .inl a1_10_f)), (a1_11, .inl (a1_11_c, 12, .inl a1_11_f)), (a1_12, .inl (a1_12_c, 12, .inr (.inr (.inr (.inr a1_12_f))))), (a1_13, .inl (a1_13_c, 12, .inl a1_13_f)), (a2, .inr (2, [.ref a2_0, .ref a2_1, .ref a2_2, .ref a2_3, .ref a2_4, .ref a2_5])), (a2_0, .inl (a2_0_c, 24, .inl a2_0_f)), (a2_1, .inl (a2_1_c, 8, .inl a2_1_f)), (a2_2, .inl (a2_2_c, 12, .inl a2_2_f)), (a2_3, .inl (a2_3_c, 12, .inl a2_3_f)), (a2_4, .inl (a2_4_c, 12, .inr (.inr (.inr (.inr a2_4_f))))), (a2_5, .inl (a2_5_c, 12, .inr (.inr (.inr (.inr a2_5_f)))))] : va_W) ++ rows) sz) (([(a0, .inr (5, [.ref a0_0, .ref a0_1, .ref a0_2, .ref a0_3, .ref a0_4, .ref a0_5, .int za0_6, .int za0_7])), (a0_0, .inl (a0_0_c, 24, .inl za0_0_f)), (a0_1, .inl (a0_1_c, 24, .inl za0_1_f)), (a0_2, .inl (a0_2_c, 12, .inr (.inr (.inr (.inr a0_2_f))))), (a0_3, .inl (a0_3_c, 12, .inr (.inr (.inr (.inr a0_3_f))))), (a1, .inr (0, [.int a1_0, .ref a1_1, .int a1_2, .ref a1_3, .int a1_4, .ref a1_5, .ref a1_6, .ref a1_7, .int a1_8, .ref a1_9, .ref a1_10, .ref a1_11, .ref a1_12, .ref a1_13])), (a1_1, .inl (a1_1_c, 8, .inl a1_1_f)), (a1_3, .inl (a1_3_c, 4, .inl a1_3_f)), (a1_5, .inl (a1_5_c, 24, .inl a1_5_f)), (a1_6, .inl (a1_6_c, 24, .inl a1_6_f)), (a1_7, .inl (a1_7_c, 24, .inl a1_7_f)), (a1_9, .inl (a1_9_c, 12, .inl a1_9_f)), (a1_10, .inl (a1_10_c, 12, .inl a1_10_f)), (a1_11, .inl (a1_11_c, 12, .inl a1_11_f)), (a1_12, .inl (a1_12_c, 12, .inr (.inr (.inr (.inr a1_12_f))))), (a1_13, .inl (a1_13_c, 12, .inl a1_13_f)), (a2, .inr (2, [.ref a2_0, .ref a2_1, .ref a2_2, .ref a2_3, .ref a2_4, .ref a2_5])), (a2_0, .inl (a2_0_c, 24, .inl a2_0_f)), (a2_1, .inl (a2_1_c, 8, .inl a2_1_f)), (a2_2, .inl (a2_2_c, 12, .inl a2_2_f)), (a2_3, .inl (a2_3_c, 12, .inl a2_3_f)), (a2_4, .inl (a2_4_c, 12, .inr (.inr (.inr (.inr a2_4_f))))), (a2_5, .inl (a2_5_c, 12, .inr (.inr (.inr (.inr a2_5_f)))))] : va_W) ++ zrows)) (va_A (([(a0, .inr (5, [.ref a0_0, .ref a0_1, .ref a0_2, .ref a0_3, .ref a0_4, .ref a0_5, .int a0_6, .int a0_7])), (a0_0, .inl (a0_0_c, 24, .inl a0_0_f)), (a0_1, .inl (a0_1_c, 24, .inl a0_1_f)), (a0_2, .inl (a0_2_c, 12, .inr (.inr (.inr (.inr a0_2_f))))), (a0_3, .inl (a0_3_c, 12, .inr (.inr (.inr (.inr a0_3_f))))), (a1, .inr (0, [.int a1_0, .ref a1_1, .int a1_2, .ref a1_3, .int a1_4, .ref a1_5, .ref a1_6, .ref a1_7, .int a1_8, .ref a1_9, .ref a1_10, .ref a1_11, .ref a1_12, .ref a1_13])), (a1_1, .inl (a1_1_c, 8, .inl a1_1_f)), (a1_3, .inl (a1_3_c, 4, .inl a1_3_f)), (a1_5, .inl (a1_5_c, 24, .inl a1_5_f)), (a1_6, .inl (a1_6_c, 24, .inl a1_6_f)), (a1_7, .inl (a1_7_c, 24, .inl a1_7_f)), (a1_9, .inl (a1_9_c, 12, .inl a1_9_f)), (a1_10, .inl (a1_10_c, 12, .inl a1_10_f)), (a1_11, .inl (a1_11_c, 12, .inl a1_11_f)), (a1_12, .inl (a1_12_c, 12, .inr (.inr (.inr (.inr a1_12_f))))), (a1_13, .inl (a1_13_c, 12, .inl a1_13_f)), (a2, .inr (2, [.ref a2_0, .ref a2_1, .ref a2_2, .ref a2_3, .ref a2_4, .ref a2_5])), (a2_0, .inl (a2_0_c, 24, .inl a2_0_f)), (a2_1, .inl (a2_1_c, 8, .inl a2_1_f)), (a2_2, .inl (a2_2_c, 12, .inl a2_2_f)), (a2_3, .inl (a2_3_c, 12, .inl a2_3_f)), (a2_4, .inl (a2_4_c, 12, .inr (.inr (.inr (.inr a2_4_f))))), (a2_5, .inl (a2_5_c, 12, .inr (.inr (.inr (.inr a2_5_f)))))] : va_W) ++ rows) sz)) 0 0 (va_A (([(a0, .inr (5, [.ref a0_0, .ref a0_1, .ref a0_2, .ref a0_3, .ref a0_4, .ref a0_5, .int a0_6, .int a0_7])), (a0_0, .inl (a0_0_c, 24, .inl a0_0_f)), (a0_1, .inl (a0_1_c, 24, .inl a0_1_f)), (a0_2, .inl (a0_2_c, 12, .inr (.inr (.inr (.inr a0_2_f))))), (a0_3, .inl (a0_3_c, 12, .inr (.inr (.inr (.inr a0_3_f))))), (a1, .inr (0, [.int a1_0, .ref a1_1, .int a1_2, .ref a1_3, .int a1_4, .ref a1_5, .ref a1_6, .ref a1_7, .int a1_8, .ref a1_9, .ref a1_10, .ref a1_11, .ref a1_12, .ref a1_13])), (a1_1, .inl (a1_1_c, 8, .inl a1_1_f)), (a1_3, .inl (a1_3_c, 4, .inl a1_3_f)), (a1_5, .inl (a1_5_c, 24, .inl a1_5_f)), (a1_6, .inl (a1_6_c, 24, .inl a1_6_f)), (a1_7, .inl (a1_7_c, 24, .inl a1_7_f)), (a1_9, .inl (a1_9_c, 12, .inl a1_9_f)), (a1_10, .inl (a1_10_c, 12, .inl a1_10_f)), (a1_11, .inl (a1_11_c, 12, .inl a1_11_f)), (a1_12, .inl (a1_12_c, 12, .inr (.inr (.inr (.inr a1_12_f))))), (a1_13, .inl (a1_13_c, 12, .inl a1_13_f)), (a2, .inr (2, [.ref a2_0, .ref a2_1, .ref a2_2, .ref a2_3, .ref a2_4, .ref a2_5])), (a2_0, .inl (a2_0_c, 24, .inl a2_0_f)), (a2_1, .inl (a2_1_c, 8, .inl a2_1_f)), (a2_2, .inl (a2_2_c, 12, .inl a2_2_f)), (a2_3, .inl (a2_3_c, 12, .inl a2_3_f)), (a2_4, .inl (a2_4_c, 12, .inr (.inr (.inr (.inr a2_4_f))))), (a2_5, .inl (a2_5_c, 12, .inr (.inr (.inr (.inr a2_5_f)))))] : va_W) ++ rows) sz) := by
  refine Met.ofW (cc := cX6_fill) (maxL := 5) (ret := none) (by decide) rfl ?_
  intro p e s m args below meth c s₁ B hml hv
  obtain ⟨rfl, hsz, hP, hK, hD0, hE⟩ := hv
  have hx := B.exec
  have hb := B.bytes
  have hr := B.returns
  have hts0 := atoms_spec (ws := (.code yX6_fill cX6_fill 5 none :: TBL)) B.pre
  have hts := fun (w : Cond) (h : w ∈ TBL) => hts0 w (List.mem_cons_of_mem _ h)
  have hown : s.vm.findClass RX6 = some m.cls := findClass_of_methodNamed B.named
  have hlocks := B.notSynchronized
  have hN := hE.1
  subst hsz
  have hD := hD0.self (sz := s.heap.size)
  generalize hAe : va_A (([(a0, .inr (5, [.ref a0_0, .ref a0_1, .ref a0_2, .ref a0_3, .ref a0_4, .ref a0_5, .int a0_6, .int a0_7])), (a0_0, .inl (a0_0_c, 24, .inl a0_0_f)), (a0_1, .inl (a0_1_c, 24, .inl a0_1_f)), (a0_2, .inl (a0_2_c, 12, .inr (.inr (.inr (.inr a0_2_f))))), (a0_3, .inl (a0_3_c, 12, .inr (.inr (.inr (.inr a0_3_f))))), (a1, .inr (0, [.int a1_0, .ref a1_1, .int a1_2, .ref a1_3, .int a1_4, .ref a1_5, .ref a1_6, .ref a1_7, .int a1_8, .ref a1_9, .ref a1_10, .ref a1_11, .ref a1_12, .ref a1_13])), (a1_1, .inl (a1_1_c, 8, .inl a1_1_f)), (a1_3, .inl (a1_3_c, 4, .inl a1_3_f)), (a1_5, .inl (a1_5_c, 24, .inl a1_5_f)), (a1_6, .inl (a1_6_c, 24, .inl a1_6_f)), (a1_7, .inl (a1_7_c, 24, .inl a1_7_f)), (a1_9, .inl (a1_9_c, 12, .inl a1_9_f)), (a1_10, .inl (a1_10_c, 12, .inl a1_10_f)), (a1_11, .inl (a1_11_c, 12, .inl a1_11_f)), (a1_12, .inl (a1_12_c, 12, .inr (.inr (.inr (.inr a1_12_f))))), (a1_13, .inl (a1_13_c, 12, .inl a1_13_f)), (a2, .inr (2, [.ref a2_0, .ref a2_1, .ref a2_2, .ref a2_3, .ref a2_4, .ref a2_5])), (a2_0, .inl (a2_0_c, 24, .inl a2_0_f)), (a2_1, .inl (a2_1_c, 8, .inl a2_1_f)), (a2_2, .inl (a2_2_c, 12, .inl a2_2_f)), (a2_3, .inl (a2_3_c, 12, .inl a2_3_f)), (a2_4, .inl (a2_4_c, 12, .inr (.inr (.inr (.inr a2_4_f))))), (a2_5, .inl (a2_5_c, 12, .inr (.inr (.inr (.inr a2_5_f)))))] : va_W) ++ rows) s.heap.size = A at hD hE ⊢
  have hA : ∀ q : Nat, s.heap.size ≤ q → A q := fun q h => by rw [← hAe]; exact Or.inr h
  have hS : va_S A s.heap s.heap [] := va_S.rf
  replace hP : va_P (dC, dI) vwCl (([(a0, .inr (5, [.ref a0_0, .ref a0_1, .ref a0_2, .ref a0_3, .ref a0_4, .ref a0_5, .int a0_6, .int a0_7])), (a0_0, .inl (a0_0_c, 24, .inl a0_0_f)), (a0_1, .inl (a0_1_c, 24, .inl a0_1_f)), (a0_2, .inl (a0_2_c, 12, .inr (.inr (.inr (.inr a0_2_f))))), (a0_3, .inl (a0_3_c, 12, .inr (.inr (.inr (.inr a0_3_f))))), (a1, .inr (0, [.int a1_0, .ref a1_1, .int a1_2, .ref a1_3, .int a1_4, .ref a1_5, .ref a1_6, .ref a1_7, .int a1_8, .ref a1_9, .ref a1_10, .ref a1_11, .ref a1_12, .ref a1_13])), (a1_1, .inl (a1_1_c, 8, .inl a1_1_f)), (a1_3, .inl (a1_3_c, 4, .inl a1_3_f)), (a1_5, .inl (a1_5_c, 24, .inl a1_5_f)), (a1_6, .inl (a1_6_c, 24, .inl a1_6_f)), (a1_7, .inl (a1_7_c, 24, .inl a1_7_f)), (a1_9, .inl (a1_9_c, 12, .inl a1_9_f)), (a1_10, .inl (a1_10_c, 12, .inl a1_10_f)), (a1_11, .inl (a1_11_c, 12, .inl a1_11_f)), (a1_12, .inl (a1_12_c, 12, .inr (.inr (.inr (.inr a1_12_f))))), (a1_13, .inl (a1_13_c, 12, .inl a1_13_f)), (a2, .inr (2, [.ref a2_0, .ref a2_1, .ref a2_2, .ref a2_3, .ref a2_4, .ref a2_5])), (a2_0, .inl (a2_0_c, 24, .inl a2_0_f)), (a2_1, .inl (a2_1_c, 8, .inl a2_1_f)), (a2_2, .inl (a2_2_c, 12, .inl a2_2_f)), (a2_3, .inl (a2_3_c, 12, .inl a2_3_f)), (a2_4, .inl (a2_4_c, 12, .inr (.inr (.inr (.inr a2_4_f))))), (a2_5, .inl (a2_5_c, 12, .inr (.inr (.inr (.inr a2_5_f)))))] : va_W) ++ rows) s.heap := hP
  have hl := lv_entry ([.ref a0, .ref a1, .ref a2]) (n := 5) (Nat.le_of_ble_eq_true rfl)
  rw [lg_entry_eq]
  generalize (lg_sl ([.ref a0, .ref a1, .ref a2]) ++ List.replicate (5 - (lg_sl ([.ref a0, .ref a1, .ref a2])).length) Slot.unset).toArray = ls at hl ⊢
  have hl : lv_has ls 5 [(0, .ref a0), (1, .ref a1), (2, .ref a2)] := hl
  have hK := cyK hK (hts (.arrayClass .int) qw_54) hE.2.2.2.2.2.2.2.2.2.2.2.2.1
  replace hK : va_K (dC, dI) vwCl [(a0_0_c, .int), (a0_1_c, .int), (a0_2_c, .array .int), (a0_3_c, .array .int), (a1_1_c, .int), (a1_3_c, .int), (a1_5_c, .int), (a1_6_c, .int), (a1_7_c, .int), (a1_9_c, .int), (a1_10_c, .int), (a1_11_c, .boolean), (a1_12_c, .array .int), (a1_13_c, .int), (a2_0_c, .int), (a2_1_c, .int), (a2_2_c, .int), (a2_3_c, .int), (a2_4_c, .array .int), (a2_5_c, .array .int), (g.2.2.2.2.1, .int)] s := hK
  have hRS : RS g.2.2.2.2.1 rows rows := RS.rf
  refine lv_aload_n hx hb dX6_fill_0 rfl (lv_at hl 0 rfl) ?_
  refine lv_aload_n hx hb dX6_fill_1 rfl (lv_at hl 1 rfl) ?_
  refine va_getN (D := (dC, dI)) (ci := 0) (v := .int a1_4) (C := RX1) (T := TX1) (N := 14) hx hb hts inlX1 hown hK hP 5 rgL23_1d0bf2f rfl 4 (by decide) (va_Nw.use rfl (nf_35 hN)) (fun _ h9 => h9) rfl dX6_fill_2 ?_
  refine va_put (D := (dC, dI)) (ci := 5) (v := .int a1_4) (ty := .int) (C := RX6) (T := TX6) (N := 8) hx hb hts inlX6 tyX6 tyX6_ok nmX6 hown hK hP hD hS 0 rgL23_e3204fb rfl 6 (by decide) (hts (.fieldLink RX6 38 "ClosedUntil$Timetable" "pieces" "I") qw_124) (fun _ h9 => h9) rfl (by decide +kernel) rfl rfl (Nat.le_of_ble_eq_true rfl) dX6_fill_5 (fun H locs hP9 hD9 hS9 => ?_)
  clear hP hD hS
  obtain ⟨hP, hD⟩ := rgS23_2fb16fa (e := (a0, .inr (5, [.ref a0_0, .ref a0_1, .ref a0_2, .ref a0_3, .ref a0_4, .ref a0_5, .int a1_4, .int a0_7]))) hP9 hD9 rfl
  have hS := hS9; clear hP9 hD9 hS9
  refine lv_aload_n hx hb dX6_fill_8 rfl (lv_at hl 0 rfl) ?_
  refine lv_aload_n hx hb dX6_fill_9 rfl (lv_at hl 1 rfl) ?_
  refine va_getN (D := (dC, dI)) (ci := 0) (v := .int a1_8) (C := RX1) (T := TX1) (N := 14) hx hb hts inlX1 hown hK hP 5 rgL23_1d0bf2f rfl 8 (by decide) (va_Nw.use rfl (nf_45 hN)) (fun _ h9 => h9) rfl dX6_fill_10 ?_
  refine va_put (D := (dC, dI)) (ci := 5) (v := .int a1_8) (ty := .int) (C := RX6) (T := TX6) (N := 8) hx hb hts inlX6 tyX6 tyX6_ok nmX6 hown hK hP hD hS 0 rgL23_e3204fb rfl 7 (by decide) (hts (.fieldLink RX6 42 "ClosedUntil$Timetable" "closures" "I") qw_148) (fun _ h9 => h9) rfl (by decide +kernel) rfl rfl (Nat.le_of_ble_eq_true rfl) dX6_fill_13 (fun H locs hP9 hD9 hS9 => ?_)
  clear hP hD hS
  obtain ⟨hP, hD⟩ := rgS23_2fb16fa (e := (a0, .inr (5, [.ref a0_0, .ref a0_1, .ref a0_2, .ref a0_3, .ref a0_4, .ref a0_5, .int a1_4, .int a1_8]))) hP9 hD9 rfl
  have hS := hS9; clear hP9 hD9 hS9
  refine lv_aload_n hx hb dX6_fill_16 rfl (lv_at hl 0 rfl) ?_
  refine lv_aload_n hx hb dX6_fill_17 rfl (lv_at hl 2 rfl) ?_
  have hPc := (rgP23_6bbd89b hP)
  have hKc := (rgK21_7829fbf hK)
  have hDc := (rgD23_964232c hD)
  have hFc := freeW hDc hS hA
  refine va_callv (va_runV (As := [.ref a2]) (rest := []) ⟨hx, hb, hml, hown, hts⟩ (k_X6_layPieces l dC dI g H.size (a0) (a2) (a0_0) (a0_1) (a0_2) (a0_3) (a0_4) (a0_5) (a1_4) (a1_8) (a0_0_c) (a0_0_f) (a0_1_c) (a0_1_f) (a2_0) (a2_1) (a2_2) (a2_3) (a2_4) (a2_5) (a2_0_c) (a2_0_f) (by omega) (by omega)) (cwV 1 hts (gwV qw_176 qw_177 qw_178 qw_133 qw_175) rfl rfl rfl (by decide +kernel) ⟨Nat.le_of_ble_eq_true rfl, Nat.le_of_ble_eq_true rfl⟩) ⟨fun a U g9 mk q => ⟨q.1, q.2.1, q.2.2.1, va_K.moved (u := U) (U := U.calling g9 mk a) (Vm.Alike.refl U.vm) q.2.2.2.1, q.2.2.2.2.1, Ev.bl q.2.2.2.2.2⟩, va_recv hK hP (ci := 5) (q0 := 0) rfl rgL23_e3204fb, fun U hU hW => ⟨rfl, by rw [hU], atB hU hPc, va_K.moved hW.alike hKc, hDc.weaken (fun _ _ _ _ => trivial), hE.go hS hFc hU hW⟩⟩ rfl rfl hl.1 rfl (lv_room (Nat.le_of_ble_eq_true rfl)) dX6_fill_18 ⟨Nat.le_of_ble_eq_true rfl, Nat.le_of_ble_eq_true rfl⟩) hS (fun q _ h => hFc q h) hFc (fun u1 t H1 locs ht hvm h_u1 hB hz1 hk1 hS => ?_)
  obtain ⟨za0_0_f_3, za0_1_f_4, hP1, hK1, hD1⟩ := hB
  have hK1 := va_K.moved hvm.symm hK1
  have hJ9 := rgJ23_d35476e hP hD hk1 hFc (atH ht hP1) hD1
  clear hP hD hPc hKc hDc hFc hP1 hD1 hk1 hz1
  obtain ⟨hP, hD⟩ := hJ9
  clear hK1
  generalize H1 = H at hP hS ⊢
  refine W.widen (k := 0) (n := 0) (Nat.le_of_ble_eq_true rfl) (Nat.le_of_ble_eq_true rfl) ?_
  refine lv_iconst (v := 0) hx hb dX6_fill_21 (by decide) ?_
  refine lv_istore_n (lv' := [(3, .int 0), (0, .ref a0), (1, .ref a1), (2, .ref a2)]) hx hb dX6_fill_22 rfl hl (by decide) rfl (fun ls hl => ?_)
  have qc0 : (0 : Int32).toInt = 0 := by decide
  refine wloop (fun n H locs ls => ∃ (l23_3 : Int32) (r23 : va_W), n = (2147483647 - l23_3.toInt).toNat ∧ (RS g.2.2.2.2.1 rows r23) ∧ (0 ≤ l23_3.toInt) ∧ lv_has ls 5 [(3, .int l23_3), (0, .ref a0), (1, .ref a1), (2, .ref a2)] ∧ va_P (dC, dI) vwCl (([(a0, .inr (5, [.ref a0_0, .ref a0_1, .ref a0_2, .ref a0_3, .ref a0_4, .ref a0_5, .int a1_4, .int a1_8])), (a0_0, .inl (a0_0_c, 24, .inl za0_0_f_3)), (a0_1, .inl (a0_1_c, 24, .inl za0_1_f_4)), (a0_2, .inl (a0_2_c, 12, .inr (.inr (.inr (.inr a0_2_f))))), (a0_3, .inl (a0_3_c, 12, .inr (.inr (.inr (.inr a0_3_f))))), (a1, .inr (0, [.int a1_0, .ref a1_1, .int a1_2, .ref a1_3, .int a1_4, .ref a1_5, .ref a1_6, .ref a1_7, .int a1_8, .ref a1_9, .ref a1_10, .ref a1_11, .ref a1_12, .ref a1_13])), (a1_1, .inl (a1_1_c, 8, .inl a1_1_f)), (a1_3, .inl (a1_3_c, 4, .inl a1_3_f)), (a1_5, .inl (a1_5_c, 24, .inl a1_5_f)), (a1_6, .inl (a1_6_c, 24, .inl a1_6_f)), (a1_7, .inl (a1_7_c, 24, .inl a1_7_f)), (a1_9, .inl (a1_9_c, 12, .inl a1_9_f)), (a1_10, .inl (a1_10_c, 12, .inl a1_10_f)), (a1_11, .inl (a1_11_c, 12, .inl a1_11_f)), (a1_12, .inl (a1_12_c, 12, .inr (.inr (.inr (.inr a1_12_f))))), (a1_13, .inl (a1_13_c, 12, .inl a1_13_f)), (a2, .inr (2, [.ref a2_0, .ref a2_1, .ref a2_2, .ref a2_3, .ref a2_4, .ref a2_5])), (a2_0, .inl (a2_0_c, 24, .inl a2_0_f)), (a2_1, .inl (a2_1_c, 8, .inl a2_1_f)), (a2_2, .inl (a2_2_c, 12, .inl a2_2_f)), (a2_3, .inl (a2_3_c, 12, .inl a2_3_f)), (a2_4, .inl (a2_4_c, 12, .inr (.inr (.inr (.inr a2_4_f))))), (a2_5, .inl (a2_5_c, 12, .inr (.inr (.inr (.inr a2_5_f)))))] : va_W) ++ r23) H ∧ va_D A (([(a0, .inr (5, [.ref a0_0, .ref a0_1, .ref a0_2, .ref a0_3, .ref a0_4, .ref a0_5, .int a1_4, .int a1_8])), (a0_0, .inl (a0_0_c, 24, .inl za0_0_f_3)), (a0_1, .inl (a0_1_c, 24, .inl za0_1_f_4)), (a0_2, .inl (a0_2_c, 12, .inr (.inr (.inr (.inr a0_2_f))))), (a0_3, .inl (a0_3_c, 12, .inr (.inr (.inr (.inr a0_3_f))))), (a1, .inr (0, [.int a1_0, .ref a1_1, .int a1_2, .ref a1_3, .int a1_4, .ref a1_5, .ref a1_6, .ref a1_7, .int a1_8, .ref a1_9, .ref a1_10, .ref a1_11, .ref a1_12, .ref a1_13])), (a1_1, .inl (a1_1_c, 8, .inl a1_1_f)), (a1_3, .inl (a1_3_c, 4, .inl a1_3_f)), (a1_5, .inl (a1_5_c, 24, .inl a1_5_f)), (a1_6, .inl (a1_6_c, 24, .inl a1_6_f)), (a1_7, .inl (a1_7_c, 24, .inl a1_7_f)), (a1_9, .inl (a1_9_c, 12, .inl a1_9_f)), (a1_10, .inl (a1_10_c, 12, .inl a1_10_f)), (a1_11, .inl (a1_11_c, 12, .inl a1_11_f)), (a1_12, .inl (a1_12_c, 12, .inr (.inr (.inr (.inr a1_12_f))))), (a1_13, .inl (a1_13_c, 12, .inl a1_13_f)), (a2, .inr (2, [.ref a2_0, .ref a2_1, .ref a2_2, .ref a2_3, .ref a2_4, .ref a2_5])), (a2_0, .inl (a2_0_c, 24, .inl a2_0_f)), (a2_1, .inl (a2_1_c, 8, .inl a2_1_f)), (a2_2, .inl (a2_2_c, 12, .inl a2_2_f)), (a2_3, .inl (a2_3_c, 12, .inl a2_3_f)), (a2_4, .inl (a2_4_c, 12, .inr (.inr (.inr (.inr a2_4_f))))), (a2_5, .inl (a2_5_c, 12, .inr (.inr (.inr (.inr a2_5_f)))))] : va_W) ++ r23) ∧ va_S A s.heap H locs) ?_ ((2147483647 - (0 : Int32).toInt).toNat) _ _ _ ⟨0, rows, rfl, hRS, (by omega), lv_sub hl [0, 1, 2, 3] rfl, hP, hD, hS⟩
  intro n23 H locs ls hI ih23
  obtain ⟨l23_3, r23, hn23, g_r23, g_l23_3, hl, hP, hD, hS⟩ := hI
  have b_l23_3 := i32b l23_3
  have hRS := g_r23
  refine lv_iload_n hx hb dX6_fill_23 rfl (lv_at hl 0 rfl) ?_
  refine lv_aload_n hx hb dX6_fill_24 rfl (lv_at hl 1 rfl) ?_
  refine va_get (D := (dC, dI)) (ci := 5) (v := .int a1_8) (C := RX6) (T := TX6) (N := 8) hx hb hts inlX6 hown hK hP 0 rgL23_e3204fb rfl 7 (by decide) (hts (.fieldLink RX6 42 "ClosedUntil$Timetable" "closures" "I") qw_148) (fun _ h9 => h9) rfl dX6_fill_25 ?_
  refine lv_icmp_ge (tgt := 125) hx hb dX6_fill_28 (by decide) (fun c28_5 => ?_) (fun c28_5 => ?_)
  · have c28_5 : a1_8.toInt ≤ l23_3.toInt := (cv_le rfl rfl).mp c28_5
    refine W.widen (k := 0) (n := 0) (Nat.le_of_ble_eq_true rfl) (Nat.le_of_ble_eq_true rfl) ?_
    have hP9 := hP
    have hD9 := hD
    have hK9 := (rgK21_98db583 hK)
    have hf9_0 : (0 ≤ a1_4.toInt ∧ a1_4.toInt ≤ 24) := by omega
    have hf9_1 : (0 ≤ a1_8.toInt ∧ a1_8.toInt ≤ 12) := by omega
    have hf9_2 : RS g.2.2.2.2.1 rows r23 := hRS
    exact W.vret hx hb hr (fun t ht hW => ⟨⟨(), rfl, trivial, a1_4, a1_8, za0_0_f_3, za0_1_f_4, r23, hf9_0, hf9_1, hf9_2, atB ht hP9, va_K.moved hW.alike hK9, hD9⟩, hS.F ht⟩) hS.2.2 dX6_fill_125
  · have c28_5 : ¬ (a1_8.toInt ≤ l23_3.toInt) := mt (cv_le rfl rfl).mpr c28_5
    refine lv_iconst (v := 0) hx hb dX6_fill_31 (by decide) ?_
    refine lv_istore (lv' := [(4, .int 0), (3, .int l23_3), (0, .ref a0), (1, .ref a1), (2, .ref a2)]) hx hb dX6_fill_32 hl (by decide) rfl (fun ls hl => ?_)
    have qc0 : (0 : Int32).toInt = 0 := by decide
    refine wloop (fun n H locs ls => ∃ (l34_4 : Int32) (r34 : va_W), n = (2147483647 - l34_4.toInt).toNat ∧ (RS g.2.2.2.2.1 rows r34) ∧ (0 ≤ l34_4.toInt) ∧ lv_has ls 5 [(4, .int l34_4), (3, .int l23_3), (0, .ref a0), (1, .ref a1), (2, .ref a2)] ∧ va_P (dC, dI) vwCl (([(a0, .inr (5, [.ref a0_0, .ref a0_1, .ref a0_2, .ref a0_3, .ref a0_4, .ref a0_5, .int a1_4, .int a1_8])), (a0_0, .inl (a0_0_c, 24, .inl za0_0_f_3)), (a0_1, .inl (a0_1_c, 24, .inl za0_1_f_4)), (a0_2, .inl (a0_2_c, 12, .inr (.inr (.inr (.inr a0_2_f))))), (a0_3, .inl (a0_3_c, 12, .inr (.inr (.inr (.inr a0_3_f))))), (a1, .inr (0, [.int a1_0, .ref a1_1, .int a1_2, .ref a1_3, .int a1_4, .ref a1_5, .ref a1_6, .ref a1_7, .int a1_8, .ref a1_9, .ref a1_10, .ref a1_11, .ref a1_12, .ref a1_13])), (a1_1, .inl (a1_1_c, 8, .inl a1_1_f)), (a1_3, .inl (a1_3_c, 4, .inl a1_3_f)), (a1_5, .inl (a1_5_c, 24, .inl a1_5_f)), (a1_6, .inl (a1_6_c, 24, .inl a1_6_f)), (a1_7, .inl (a1_7_c, 24, .inl a1_7_f)), (a1_9, .inl (a1_9_c, 12, .inl a1_9_f)), (a1_10, .inl (a1_10_c, 12, .inl a1_10_f)), (a1_11, .inl (a1_11_c, 12, .inl a1_11_f)), (a1_12, .inl (a1_12_c, 12, .inr (.inr (.inr (.inr a1_12_f))))), (a1_13, .inl (a1_13_c, 12, .inl a1_13_f)), (a2, .inr (2, [.ref a2_0, .ref a2_1, .ref a2_2, .ref a2_3, .ref a2_4, .ref a2_5])), (a2_0, .inl (a2_0_c, 24, .inl a2_0_f)), (a2_1, .inl (a2_1_c, 8, .inl a2_1_f)), (a2_2, .inl (a2_2_c, 12, .inl a2_2_f)), (a2_3, .inl (a2_3_c, 12, .inl a2_3_f)), (a2_4, .inl (a2_4_c, 12, .inr (.inr (.inr (.inr a2_4_f))))), (a2_5, .inl (a2_5_c, 12, .inr (.inr (.inr (.inr a2_5_f)))))] : va_W) ++ r34) H ∧ va_D A (([(a0, .inr (5, [.ref a0_0, .ref a0_1, .ref a0_2, .ref a0_3, .ref a0_4, .ref a0_5, .int a1_4, .int a1_8])), (a0_0, .inl (a0_0_c, 24, .inl za0_0_f_3)), (a0_1, .inl (a0_1_c, 24, .inl za0_1_f_4)), (a0_2, .inl (a0_2_c, 12, .inr (.inr (.inr (.inr a0_2_f))))), (a0_3, .inl (a0_3_c, 12, .inr (.inr (.inr (.inr a0_3_f))))), (a1, .inr (0, [.int a1_0, .ref a1_1, .int a1_2, .ref a1_3, .int a1_4, .ref a1_5, .ref a1_6, .ref a1_7, .int a1_8, .ref a1_9, .ref a1_10, .ref a1_11, .ref a1_12, .ref a1_13])), (a1_1, .inl (a1_1_c, 8, .inl a1_1_f)), (a1_3, .inl (a1_3_c, 4, .inl a1_3_f)), (a1_5, .inl (a1_5_c, 24, .inl a1_5_f)), (a1_6, .inl (a1_6_c, 24, .inl a1_6_f)), (a1_7, .inl (a1_7_c, 24, .inl a1_7_f)), (a1_9, .inl (a1_9_c, 12, .inl a1_9_f)), (a1_10, .inl (a1_10_c, 12, .inl a1_10_f)), (a1_11, .inl (a1_11_c, 12, .inl a1_11_f)), (a1_12, .inl (a1_12_c, 12, .inr (.inr (.inr (.inr a1_12_f))))), (a1_13, .inl (a1_13_c, 12, .inl a1_13_f)), (a2, .inr (2, [.ref a2_0, .ref a2_1, .ref a2_2, .ref a2_3, .ref a2_4, .ref a2_5])), (a2_0, .inl (a2_0_c, 24, .inl a2_0_f)), (a2_1, .inl (a2_1_c, 8, .inl a2_1_f)), (a2_2, .inl (a2_2_c, 12, .inl a2_2_f)), (a2_3, .inl (a2_3_c, 12, .inl a2_3_f)), (a2_4, .inl (a2_4_c, 12, .inr (.inr (.inr (.inr a2_4_f))))), (a2_5, .inl (a2_5_c, 12, .inr (.inr (.inr (.inr a2_5_f)))))] : va_W) ++ r34) ∧ va_S A s.heap H locs) ?_ ((2147483647 - (0 : Int32).toInt).toNat) _ _ _ ⟨0, r23, rfl, hRS, (by omega), lv_sub hl [0, 1, 2, 3, 4] rfl, hP, hD, hS⟩
    intro n34 H locs ls hI ih34
    obtain ⟨l34_4, r34, hn34, g_r34, g_l34_4, hl, hP, hD, hS⟩ := hI
    have b_l34_4 := i32b l34_4
    have hRS := g_r34
    refine lv_iload hx hb dX6_fill_34 (lv_at hl 0 rfl) ?_
    refine lv_aload_n hx hb dX6_fill_36 rfl (lv_at hl 2 rfl) ?_
    refine va_get (D := (dC, dI)) (ci := 5) (v := .int a1_4) (C := RX6) (T := TX6) (N := 8) hx hb hts inlX6 hown hK hP 0 rgL23_e3204fb rfl 6 (by decide) (hts (.fieldLink RX6 38 "ClosedUntil$Timetable" "pieces" "I") qw_124) (fun _ h9 => h9) rfl dX6_fill_37 ?_
    refine lv_icmp_ge (tgt := 80) hx hb dX6_fill_40 (by decide) (fun c40_6 => ?_) (fun c40_6 => ?_)
    · have c40_6 : a1_4.toInt ≤ l34_4.toInt := (cv_le rfl rfl).mp c40_6
      refine lv_iconst (v := 0) hx hb dX6_fill_80 (by decide) ?_
      refine lv_istore (lv' := [(4, .int 0), (3, .int l23_3), (0, .ref a0), (1, .ref a1), (2, .ref a2)]) hx hb dX6_fill_81 hl (by decide) rfl (fun ls hl => ?_)
      have qc0 : (0 : Int32).toInt = 0 := by decide
      refine wloop (fun n H locs ls => ∃ (l83_4 : Int32) (r83 : va_W), n = (2147483647 - l83_4.toInt).toNat ∧ (RS g.2.2.2.2.1 rows r83) ∧ (0 ≤ l83_4.toInt) ∧ lv_has ls 5 [(4, .int l83_4), (3, .int l23_3), (0, .ref a0), (1, .ref a1), (2, .ref a2)] ∧ va_P (dC, dI) vwCl (([(a0, .inr (5, [.ref a0_0, .ref a0_1, .ref a0_2, .ref a0_3, .ref a0_4, .ref a0_5, .int a1_4, .int a1_8])), (a0_0, .inl (a0_0_c, 24, .inl za0_0_f_3)), (a0_1, .inl (a0_1_c, 24, .inl za0_1_f_4)), (a0_2, .inl (a0_2_c, 12, .inr (.inr (.inr (.inr a0_2_f))))), (a0_3, .inl (a0_3_c, 12, .inr (.inr (.inr (.inr a0_3_f))))), (a1, .inr (0, [.int a1_0, .ref a1_1, .int a1_2, .ref a1_3, .int a1_4, .ref a1_5, .ref a1_6, .ref a1_7, .int a1_8, .ref a1_9, .ref a1_10, .ref a1_11, .ref a1_12, .ref a1_13])), (a1_1, .inl (a1_1_c, 8, .inl a1_1_f)), (a1_3, .inl (a1_3_c, 4, .inl a1_3_f)), (a1_5, .inl (a1_5_c, 24, .inl a1_5_f)), (a1_6, .inl (a1_6_c, 24, .inl a1_6_f)), (a1_7, .inl (a1_7_c, 24, .inl a1_7_f)), (a1_9, .inl (a1_9_c, 12, .inl a1_9_f)), (a1_10, .inl (a1_10_c, 12, .inl a1_10_f)), (a1_11, .inl (a1_11_c, 12, .inl a1_11_f)), (a1_12, .inl (a1_12_c, 12, .inr (.inr (.inr (.inr a1_12_f))))), (a1_13, .inl (a1_13_c, 12, .inl a1_13_f)), (a2, .inr (2, [.ref a2_0, .ref a2_1, .ref a2_2, .ref a2_3, .ref a2_4, .ref a2_5])), (a2_0, .inl (a2_0_c, 24, .inl a2_0_f)), (a2_1, .inl (a2_1_c, 8, .inl a2_1_f)), (a2_2, .inl (a2_2_c, 12, .inl a2_2_f)), (a2_3, .inl (a2_3_c, 12, .inl a2_3_f)), (a2_4, .inl (a2_4_c, 12, .inr (.inr (.inr (.inr a2_4_f))))), (a2_5, .inl (a2_5_c, 12, .inr (.inr (.inr (.inr a2_5_f)))))] : va_W) ++ r83) H ∧ va_D A (([(a0, .inr (5, [.ref a0_0, .ref a0_1, .ref a0_2, .ref a0_3, .ref a0_4, .ref a0_5, .int a1_4, .int a1_8])), (a0_0, .inl (a0_0_c, 24, .inl za0_0_f_3)), (a0_1, .inl (a0_1_c, 24, .inl za0_1_f_4)), (a0_2, .inl (a0_2_c, 12, .inr (.inr (.inr (.inr a0_2_f))))), (a0_3, .inl (a0_3_c, 12, .inr (.inr (.inr (.inr a0_3_f))))), (a1, .inr (0, [.int a1_0, .ref a1_1, .int a1_2, .ref a1_3, .int a1_4, .ref a1_5, .ref a1_6, .ref a1_7, .int a1_8, .ref a1_9, .ref a1_10, .ref a1_11, .ref a1_12, .ref a1_13])), (a1_1, .inl (a1_1_c, 8, .inl a1_1_f)), (a1_3, .inl (a1_3_c, 4, .inl a1_3_f)), (a1_5, .inl (a1_5_c, 24, .inl a1_5_f)), (a1_6, .inl (a1_6_c, 24, .inl a1_6_f)), (a1_7, .inl (a1_7_c, 24, .inl a1_7_f)), (a1_9, .inl (a1_9_c, 12, .inl a1_9_f)), (a1_10, .inl (a1_10_c, 12, .inl a1_10_f)), (a1_11, .inl (a1_11_c, 12, .inl a1_11_f)), (a1_12, .inl (a1_12_c, 12, .inr (.inr (.inr (.inr a1_12_f))))), (a1_13, .inl (a1_13_c, 12, .inl a1_13_f)), (a2, .inr (2, [.ref a2_0, .ref a2_1, .ref a2_2, .ref a2_3, .ref a2_4, .ref a2_5])), (a2_0, .inl (a2_0_c, 24, .inl a2_0_f)), (a2_1, .inl (a2_1_c, 8, .inl a2_1_f)), (a2_2, .inl (a2_2_c, 12, .inl a2_2_f)), (a2_3, .inl (a2_3_c, 12, .inl a2_3_f)), (a2_4, .inl (a2_4_c, 12, .inr (.inr (.inr (.inr a2_4_f))))), (a2_5, .inl (a2_5_c, 12, .inr (.inr (.inr (.inr a2_5_f)))))] : va_W) ++ r83) ∧ va_S A s.heap H locs) ?_ ((2147483647 - (0 : Int32).toInt).toNat) _ _ _ ⟨0, r34, rfl, hRS, (by omega), lv_sub hl [0, 1, 2, 3, 4] rfl, hP, hD, hS⟩
      intro n83 H locs ls hI ih83
      obtain ⟨l83_4, r83, hn83, g_r83, g_l83_4, hl, hP, hD, hS⟩ := hI
      have b_l83_4 := i32b l83_4
      have hRS := g_r83
      refine lv_iload hx hb dX6_fill_83 (lv_at hl 0 rfl) ?_
      refine lv_aload_n hx hb dX6_fill_85 rfl (lv_at hl 2 rfl) ?_
      refine va_get (D := (dC, dI)) (ci := 5) (v := .int a1_4) (C := RX6) (T := TX6) (N := 8) hx hb hts inlX6 hown hK hP 0 rgL23_e3204fb rfl 6 (by decide) (hts (.fieldLink RX6 38 "ClosedUntil$Timetable" "pieces" "I") qw_124) (fun _ h9 => h9) rfl dX6_fill_86 ?_
      refine lv_icmp_ge (tgt := 119) hx hb dX6_fill_89 (by decide) (fun c89_7 => ?_) (fun c89_7 => ?_)
      · have c89_7 : a1_4.toInt ≤ l83_4.toInt := (cv_le rfl rfl).mp c89_7
        obtain ⟨x8, e_x8⟩ : ∃ y : Int32, y = l23_3 + 1 := ⟨_, rfl⟩
        refine lv_iinc (v := x8) (lv' := [(3, .int x8), (4, .int l83_4), (0, .ref a0), (1, .ref a1), (2, .ref a2)]) hx hb dX6_fill_119 hl (k := 1) rfl (by rw [e_x8]; rfl) (by decide) rfl (fun ls hl => ?_)
        try have e_x8 := ti_add e_x8 rfl (show (1 : Int32).toInt = 1 by decide) (by omega)
        refine lv_goto (tgt := 23) hx hb dX6_fill_122 (by decide) ?_
        exact ih23 ((2147483647 - x8.toInt).toNat) _ _ _ (by omega) ⟨x8, r83, rfl, hRS, (by omega), lv_sub hl [0, 2, 3, 4] rfl, hP, hD, hS⟩
      · have c89_7 : ¬ (a1_4.toInt ≤ l83_4.toInt) := mt (cv_le rfl rfl).mpr c89_7
        refine lv_aload_n hx hb dX6_fill_92 rfl (lv_at hl 2 rfl) ?_
        refine va_get (D := (dC, dI)) (ci := 5) (v := .ref a0_3) (C := RX6) (T := TX6) (N := 8) hx hb hts inlX6 hown hK hP 0 rgL23_e3204fb rfl 3 (by decide) (hts (.fieldLink RX6 23 "ClosedUntil$Timetable" "ends" "[[I") qw_147) (fun _ h9 => h9) rfl dX6_fill_93 ?_
        refine lv_iload_n hx hb dX6_fill_96 rfl (lv_at hl 1 rfl) ?_
        refine va_aldqA hx hb hK hP 4 3 rgL23_b5c1933 rgT21_f5cbfc1 (vinI (by omega) (by omega)) dX6_fill_97 ?_
        obtain ⟨y9, hg11, hy10⟩ := GR.at h_a0_3_f (i := l23_3.toNatClampNeg) (clI (by omega) (by omega))
        refine topv (w := .ref y9) (by rw [hg11]; rfl) ?_
        refine lv_iload hx hb dX6_fill_98 (lv_at hl 0 rfl) ?_
        refine lv_iload hx hb dX6_fill_100 (lv_at hl 0 rfl) ?_
        refine lv_aload_n hx hb dX6_fill_102 rfl (lv_at hl 2 rfl) ?_
        refine va_get (D := (dC, dI)) (ci := 5) (v := .ref a0_2) (C := RX6) (T := TX6) (N := 8) hx hb hts inlX6 hown hK hP 0 rgL23_e3204fb rfl 2 (by decide) (hts (.fieldLink RX6 20 "ClosedUntil$Timetable" "terms" "[[I") qw_142) (fun _ h9 => h9) rfl dX6_fill_103 ?_
        refine lv_iload_n hx hb dX6_fill_106 rfl (lv_at hl 1 rfl) ?_
        refine va_aldqA hx hb hK hP 3 2 rgL23_d20b1ca rgT21_6b53e59 (vinI (by omega) (by omega)) dX6_fill_107 ?_
        obtain ⟨y12, hg14, hy13⟩ := GR.at h_a0_2_f (i := l23_3.toNatClampNeg) (clI (by omega) (by omega))
        refine topv (w := .ref y12) (by rw [hg14]; rfl) ?_
        refine lv_aload_n hx hb dX6_fill_108 rfl (lv_at hl 4 rfl) ?_
        have hPc := (rgP23_8ff27fe hP)
        have hKc := (rgK21_c28c502 hK)
        refine vp_callSi ((va_runS (As := [.int l83_4, .ref y12, .ref a2]) (rest := [.int l83_4, .ref y9]) ⟨hx, hb, hml, hown, hts⟩ (k_X6_latestAbove l dC dI g (l83_4) (y12) (a2) (a2_0) (a2_1) (a2_2) (a2_3) (a2_4) (a2_5) (a2_0_c) (a2_0_f) (r83) (RS.rh hRS hy13)) (va_cwS 3 hts (gwS qw_180 qw_181 qw_133 qw_179) rfl rfl rfl (by decide +kernel) ⟨Nat.le_of_ble_eq_true rfl, Nat.le_of_ble_eq_true rfl⟩) ⟨fun a U g9 mk q => ⟨q.1, q.2.1, va_K.moved (u := U) (U := U.calling g9 mk a) (Vm.Alike.refl U.vm) q.2.2.1, Ev.bl q.2.2.2⟩, fun U hU hW => ⟨rfl, atB hU hPc, va_K.moved hW.alike hKc, hE.go hS (fun _ h => h.elim) hU hW⟩⟩ rfl rfl hl.1 rfl (lv_room (Nat.le_of_ble_eq_true rfl)) dX6_fill_109 ⟨Nat.le_of_ble_eq_true rfl, Nat.le_of_ble_eq_true rfl⟩)).run (fun r15 h_r15 => ?_)
        have b_r15 := i32b r15
        obtain ⟨j16, rr17, hr18⟩ := RS.rh hRS hy10
        refine va_iast hx hb hK hP hD hS (23 + j16) 20 (rgU23_d4b3d30 hr18) rgT21_2fffd0a (vinI (by omega) (by omega)) dX6_fill_112 (fun H locs hP9 hD9 hS9 => ?_)
        obtain ⟨rx19, e_rx19⟩ : ∃ y, r83.set j16 (y9, .inl (g.2.2.2.2.1, 24, .inl (upd rr17 l83_4.toNatClampNeg r15))) = y := ⟨_, rfl⟩
        have hRS := e_rx19 ▸ RS.set hRS (upd rr17 l83_4.toNatClampNeg r15) hr18
        clear hP hD hS
        obtain ⟨hP, hD⟩ := rgW23_e08f5e7 hP9 hD9 e_rx19
        have hS := hS9; clear hP9 hD9 hS9
        obtain ⟨x20, e_x20⟩ : ∃ y : Int32, y = l83_4 + 1 := ⟨_, rfl⟩
        refine lv_iinc (v := x20) (lv' := [(4, .int x20), (3, .int l23_3), (0, .ref a0), (1, .ref a1), (2, .ref a2)]) hx hb dX6_fill_113 hl (k := 0) rfl (by rw [e_x20]; rfl) (by decide) rfl (fun ls hl => ?_)
        try have e_x20 := ti_add e_x20 rfl (show (1 : Int32).toInt = 1 by decide) (by omega)
        refine lv_goto (tgt := 83) hx hb dX6_fill_116 (by decide) ?_
        exact ih83 ((2147483647 - x20.toInt).toNat) _ _ _ (by omega) ⟨x20, rx19, rfl, hRS, (by omega), lv_sub hl [0, 1, 2, 3, 4] rfl, hP, hD, hS⟩
    · have c40_6 : ¬ (a1_4.toInt ≤ l34_4.toInt) := mt (cv_le rfl rfl).mpr c40_6
      refine lv_aload_n hx hb dX6_fill_43 rfl (lv_at hl 2 rfl) ?_
      refine va_get (D := (dC, dI)) (ci := 5) (v := .ref a0_2) (C := RX6) (T := TX6) (N := 8) hx hb hts inlX6 hown hK hP 0 rgL23_e3204fb rfl 2 (by decide) (hts (.fieldLink RX6 20 "ClosedUntil$Timetable" "terms" "[[I") qw_142) (fun _ h9 => h9) rfl dX6_fill_44 ?_
      refine lv_iload_n hx hb dX6_fill_47 rfl (lv_at hl 1 rfl) ?_
      refine va_aldqA hx hb hK hP 3 2 rgL23_d20b1ca rgT21_6b53e59 (vinI (by omega) (by omega)) dX6_fill_48 ?_
      obtain ⟨y21, hg23, hy22⟩ := GR.at h_a0_2_f (i := l23_3.toNatClampNeg) (clI (by omega) (by omega))
      refine topv (w := .ref y21) (by rw [hg23]; rfl) ?_
      refine lv_iload hx hb dX6_fill_49 (lv_at hl 0 rfl) ?_
      refine lv_aload_n hx hb dX6_fill_51 rfl (lv_at hl 3 rfl) ?_
      refine lv_iload_n hx hb dX6_fill_52 rfl (lv_at hl 1 rfl) ?_
      refine lv_iload hx hb dX6_fill_53 (lv_at hl 0 rfl) ?_
      have hPc := (rgP23_303f653 hP)
      have hKc := (rgK21_75b2789 hK)
      refine vp_callSi ((va_runVN (As := [.int l23_3, .int l34_4]) (rest := [.int l34_4, .ref y21]) ⟨hx, hb, hml, hown, hts⟩ (k_X1_isTarget l dC dI g (a1) (l23_3) (l34_4) (a1_0) (a1_1) (a1_2) (a1_3) (a1_4) (a1_5) (a1_6) (a1_7) (a1_8) (a1_9) (a1_10) (a1_11) (a1_12) (a1_13) (a1_6_c) (a1_6_f) (a1_7_c) (a1_7_f) (a1_9_c) (a1_9_f) (a1_10_c) (a1_10_f) (by omega) (by omega) (by omega) (by omega) (by omega) (by omega)) ⟨va_cnB 2 hts (gwC qw_182) rfl rfl rfl (nm_27 hN) (hts (.initialized RX1) qw_183) (by decide +kernel) ⟨Nat.le_of_ble_eq_true rfl, Nat.le_of_ble_eq_true rfl⟩, (hts (.instanceMethod yX1_isTarget) qw_184), (hts (.selects RX1 yX1_isTarget yX1_isTarget) qw_185)⟩ ⟨fun a U g9 mk q => ⟨q.1, q.2.1, va_K.moved (u := U) (U := U.calling g9 mk a) (Vm.Alike.refl U.vm) q.2.2.1, Ev.bl q.2.2.2⟩, va_recv hK hP (ci := 0) (q0 := 5) rfl rgL23_1d0bf2f, fun U hU hW => ⟨rfl, atB hU hPc, va_K.moved hW.alike hKc, hE.go hS (fun _ h => h.elim) hU hW⟩⟩ rfl rfl hl.1 rfl (lv_room (Nat.le_of_ble_eq_true rfl)) dX6_fill_55 ⟨Nat.le_of_ble_eq_true rfl, Nat.le_of_ble_eq_true rfl⟩)).run (fun r24 h_r24 => ?_)
      have h_r24 : (r24 = 0 ∨ r24 = 1) := h_r24
      have b_r24 := z01 (show r24 = 0 ∨ r24 = 1 from h_r24)
      refine lv_if_eq (tgt := 72) hx hb dX6_fill_58 (by decide) (fun c58_25 => ?_) (fun c58_25 => ?_)
      · have c58_25 : r24.toInt = 0 := (cv_eq rfl (by decide)).mp c58_25
        refine lv_iconst (v := (-1)) hx hb dX6_fill_72 (by decide) ?_
        obtain ⟨j26, rr27, hr28⟩ := RS.rh hRS hy22
        refine va_iast hx hb hK hP hD hS (23 + j26) 20 (rgU23_d4b3d30 hr28) rgT21_2fffd0a (vinI (by omega) (by omega)) dX6_fill_73 (fun H locs hP9 hD9 hS9 => ?_)
        obtain ⟨rx29, e_rx29⟩ : ∃ y, r34.set j26 (y21, .inl (g.2.2.2.2.1, 24, .inl (upd rr27 l34_4.toNatClampNeg ((-1))))) = y := ⟨_, rfl⟩
        have hRS := e_rx29 ▸ RS.set hRS (upd rr27 l34_4.toNatClampNeg ((-1))) hr28
        clear hP hD hS
        obtain ⟨hP, hD⟩ := rgW23_e08f5e7 hP9 hD9 e_rx29
        have hS := hS9; clear hP9 hD9 hS9
        obtain ⟨x30, e_x30⟩ : ∃ y : Int32, y = l34_4 + 1 := ⟨_, rfl⟩
        refine lv_iinc (v := x30) (lv' := [(4, .int x30), (3, .int l23_3), (0, .ref a0), (1, .ref a1), (2, .ref a2)]) hx hb dX6_fill_74 hl (k := 0) rfl (by rw [e_x30]; rfl) (by decide) rfl (fun ls hl => ?_)
        try have e_x30 := ti_add e_x30 rfl (show (1 : Int32).toInt = 1 by decide) (by omega)
        refine lv_goto (tgt := 34) hx hb dX6_fill_77 (by decide) ?_
        exact ih34 ((2147483647 - x30.toInt).toNat) _ _ _ (by omega) ⟨x30, rx29, rfl, hRS, (by omega), lv_sub hl [0, 1, 2, 3, 4] rfl, hP, hD, hS⟩
      · have c58_25 : ¬ (r24.toInt = 0) := mt (cv_eq rfl (by decide)).mpr c58_25
        refine lv_iload_n hx hb dX6_fill_61 rfl (lv_at hl 1 rfl) ?_
        refine lv_iload hx hb dX6_fill_62 (lv_at hl 0 rfl) ?_
        refine lv_aload_n hx hb dX6_fill_64 rfl (lv_at hl 3 rfl) ?_
        refine lv_aload_n hx hb dX6_fill_65 rfl (lv_at hl 4 rfl) ?_
        have hPc := (rgP23_f2cfb2c hP)
        have hKc := (rgK21_f5e3a4e hK)
        refine vp_callSi ((va_runS (As := [.int l23_3, .int l34_4, .ref a1, .ref a2]) (rest := [.int l34_4, .ref y21]) ⟨hx, hb, hml, hown, hts⟩ (k_X6_termOf l dC dI g (l23_3) (l34_4) (a1) (a2) (a1_0) (a1_1) (a1_2) (a1_3) (a1_4) (a1_5) (a1_6) (a1_7) (a1_8) (a1_9) (a1_10) (a1_11) (a1_12) (a1_13) (a1_1_c) (a1_1_f) (a1_3_c) (a1_3_f) (a1_5_c) (a1_5_f) (a1_9_c) (a1_9_f) (a1_10_c) (a1_10_f) (a1_11_c) (a1_11_f) (a1_12_c) (a1_12_f) (a1_13_c) (a1_13_f) (a2_0) (a2_1) (a2_2) (a2_3) (a2_4) (a2_5) (a2_1_c) (a2_1_f) (a2_2_c) (a2_2_f) (a2_3_c) (a2_3_f) (a2_4_c) (a2_4_f) (a2_5_c) (a2_5_f) (r34) (by omega) (by omega) (by omega) (by omega) (RS.gr hRS h_a1_12_f) h_a2_3_f (RS.gr hRS h_a2_4_f) (RS.gr hRS h_a2_5_f) (by omega) (by omega) (HOk.at hho (by omega) (by omega))) (va_cwS 4 hts (gwS qw_187 qw_188 qw_133 qw_186) rfl rfl rfl (by decide +kernel) ⟨Nat.le_of_ble_eq_true rfl, Nat.le_of_ble_eq_true rfl⟩) ⟨fun a U g9 mk q => ⟨q.1, q.2.1, va_K.moved (u := U) (U := U.calling g9 mk a) (Vm.Alike.refl U.vm) q.2.2.1, Ev.bl q.2.2.2⟩, fun U hU hW => ⟨rfl, atB hU hPc, va_K.moved hW.alike hKc, hE.go hS (fun _ h => h.elim) hU hW⟩⟩ rfl rfl hl.1 rfl (lv_room (Nat.le_of_ble_eq_true rfl)) dX6_fill_66 ⟨Nat.le_of_ble_eq_true rfl, Nat.le_of_ble_eq_true rfl⟩)).run (fun r31 h_r31 => ?_)
        have b_r31 := i32b r31
        refine lv_goto (tgt := 73) hx hb dX6_fill_69 (by decide) ?_
        obtain ⟨j32, rr33, hr34⟩ := RS.rh hRS hy22
        refine va_iast hx hb hK hP hD hS (23 + j32) 20 (rgU23_d4b3d30 hr34) rgT21_2fffd0a (vinI (by omega) (by omega)) dX6_fill_73 (fun H locs hP9 hD9 hS9 => ?_)
        obtain ⟨rx35, e_rx35⟩ : ∃ y, r34.set j32 (y21, .inl (g.2.2.2.2.1, 24, .inl (upd rr33 l34_4.toNatClampNeg r31))) = y := ⟨_, rfl⟩
        have hRS := e_rx35 ▸ RS.set hRS (upd rr33 l34_4.toNatClampNeg r31) hr34
        clear hP hD hS
        obtain ⟨hP, hD⟩ := rgW23_e08f5e7 hP9 hD9 e_rx35
        have hS := hS9; clear hP9 hD9 hS9
        obtain ⟨x36, e_x36⟩ : ∃ y : Int32, y = l34_4 + 1 := ⟨_, rfl⟩
        refine lv_iinc (v := x36) (lv' := [(4, .int x36), (3, .int l23_3), (0, .ref a0), (1, .ref a1), (2, .ref a2)]) hx hb dX6_fill_74 hl (k := 0) rfl (by rw [e_x36]; rfl) (by decide) rfl (fun ls hl => ?_)
        try have e_x36 := ti_add e_x36 rfl (show (1 : Int32).toInt = 1 by decide) (by omega)
        refine lv_goto (tgt := 34) hx hb dX6_fill_77 (by decide) ?_
        exact ih34 ((2147483647 - x36.toInt).toNat) _ _ _ (by omega) ⟨x36, rx35, rfl, hRS, (by omega), lv_sub hl [0, 1, 2, 3, 4] rfl, hP, hD, hS⟩
set_option maxHeartbeats 4000000 in
set_option maxRecDepth 100000 in
theorem k_X5_readPerson (l : Launch) (dC : Nat → ClassId) (dI : Nat → Nat → Nat) (g : Gv) (sz : Nat) (a0 : Nat) (a1 : Nat) (a2 : Nat) (a0_0 : Nat) (a0_1 : Nat) (a0_2 : Nat) (a0_3 : Nat) (a0_4 : Int32) (a0_5 : Int32) (a0_0_0 : Nat) (a0_0_1 : Nat) (a0_0_2 : Int32) (a0_0_3 : Int32) (a0_0_4 : Int32) (a0_0_5 : Int32) (a0_0_6 : Int64) (a0_0_7 : Int32) (a0_0_0_c : ClassId) (a0_0_0_f : Nat → Int64) (a0_0_1_c : ClassId) (a0_0_1_f : Nat → Int32) (a0_1_c : ClassId) (a0_1_f : Nat → Int64) (a0_2_c : ClassId) (a0_2_f : Nat → Int32) (a0_3_c : ClassId) (a0_3_f : Nat → Int32) (a1_0 : Int32) (a1_1 : Nat) (a1_2 : Int32) (a1_3 : Nat) (a1_4 : Int32) (a1_5 : Nat) (a1_6 : Nat) (a1_7 : Nat) (a1_8 : Int32) (a1_9 : Nat) (a1_10 : Nat) (a1_11 : Nat) (a1_12 : Nat) (a1_13 : Nat) (a1_1_c : ClassId) (a1_1_f : Nat → Int32) (a2_0 : Nat) (a2_1 : Nat) (a2_2 : Nat) (a2_3 : Nat) (a2_4 : Nat) (a2_5 : Nat) (a2_1_c : ClassId) (a2_1_f : Nat → Int32) (h_a0_4 : 0 ≤ a0_4.toInt ∧ a0_4.toInt ≤ 36) (h_a0_0_2 : 0 ≤ a0_0_2.toInt ∧ a0_0_2.toInt ≤ 1000) (h_a0_0_3 : 0 ≤ a0_0_3.toInt ∧ a0_0_3.toInt ≤ 1000) (h_a0_0_5 : 0 ≤ a0_0_5.toInt ∧ a0_0_5.toInt ≤ 1000) (h_a1_0 : 0 ≤ a1_0.toInt ∧ a1_0.toInt ≤ 8) (h_a1_2 : 0 ≤ a1_2.toInt ∧ a1_2.toInt ≤ 4) (h_a1_4 : 0 ≤ a1_4.toInt ∧ a1_4.toInt ≤ 24) (h_a1_8 : 0 ≤ a1_8.toInt ∧ a1_8.toInt ≤ 12) (hno : NOk a0_2_f a0_3_f a0_4) : Met l yX5_readPerson (.code yX5_readPerson cX5_readPerson 9 none :: TBL) ({ frames := 5, cells := 0, slots := 0, locals := 109 }) (va_Pc [.ref a0, .ref a1, .ref a2] (fun U => U.heap.size = sz ∧ va_P (dC, dI) vwCl [(a0, .inr (4, [.ref a0_0, .ref a0_1, .ref a0_2, .ref a0_3, .int a0_4, .int a0_5])), (a0_0, .inr (6, [.ref a0_0_0, .ref a0_0_1, .int a0_0_2, .int a0_0_3, .int a0_0_4, .int a0_0_5, .long a0_0_6, .int a0_0_7])), (a0_0_0, .inl (a0_0_0_c, 12, .inr (.inl a0_0_0_f))), (a0_0_1, .inl (a0_0_1_c, 1000, .inl a0_0_1_f)), (a0_1, .inl (a0_1_c, 36, .inr (.inl a0_1_f))), (a0_2, .inl (a0_2_c, 36, .inl a0_2_f)), (a0_3, .inl (a0_3_c, 36, .inl a0_3_f)), (a1, .inr (0, [.int a1_0, .ref a1_1, .int a1_2, .ref a1_3, .int a1_4, .ref a1_5, .ref a1_6, .ref a1_7, .int a1_8, .ref a1_9, .ref a1_10, .ref a1_11, .ref a1_12, .ref a1_13])), (a1_1, .inl (a1_1_c, 8, .inl a1_1_f)), (a2, .inr (2, [.ref a2_0, .ref a2_1, .ref a2_2, .ref a2_3, .ref a2_4, .ref a2_5])), (a2_1, .inl (a2_1_c, 8, .inl a2_1_f))] U.heap ∧ va_K (dC, dI) vwCl [(a0_0_0_c, .long), (a0_0_1_c, .byte), (a0_1_c, .long), (a0_2_c, .int), (a0_3_c, .int), (a1_1_c, .int), (a2_1_c, .int)] U ∧ va_D (fun _ => True) [(a0, .inr (4, [.ref a0_0, .ref a0_1, .ref a0_2, .ref a0_3, .int a0_4, .int a0_5])), (a0_0, .inr (6, [.ref a0_0_0, .ref a0_0_1, .int a0_0_2, .int a0_0_3, .int a0_0_4, .int a0_0_5, .long a0_0_6, .int a0_0_7])), (a0_0_0, .inl (a0_0_0_c, 12, .inr (.inl a0_0_0_f))), (a0_0_1, .inl (a0_0_1_c, 1000, .inl a0_0_1_f)), (a0_1, .inl (a0_1_c, 36, .inr (.inl a0_1_f))), (a0_2, .inl (a0_2_c, 36, .inl a0_2_f)), (a0_3, .inl (a0_3_c, 36, .inl a0_3_f)), (a1, .inr (0, [.int a1_0, .ref a1_1, .int a1_2, .ref a1_3, .int a1_4, .ref a1_5, .ref a1_6, .ref a1_7, .int a1_8, .ref a1_9, .ref a1_10, .ref a1_11, .ref a1_12, .ref a1_13])), (a1_1, .inl (a1_1_c, 8, .inl a1_1_f)), (a2, .inr (2, [.ref a2_0, .ref a2_1, .ref a2_2, .ref a2_3, .ref a2_4, .ref a2_5])), (a2_1, .inl (a2_1_c, 8, .inl a2_1_f))] ∧ Ev g (va_A [(a0, .inr (4, [.ref a0_0, .ref a0_1, .ref a0_2, .ref a0_3, .int a0_4, .int a0_5])), (a0_0, .inr (6, [.ref a0_0_0, .ref a0_0_1, .int a0_0_2, .int a0_0_3, .int a0_0_4, .int a0_0_5, .long a0_0_6, .int a0_0_7])), (a0_0_0, .inl (a0_0_0_c, 12, .inr (.inl a0_0_0_f))), (a0_0_1, .inl (a0_0_1_c, 1000, .inl a0_0_1_f)), (a0_1, .inl (a0_1_c, 36, .inr (.inl a0_1_f))), (a0_2, .inl (a0_2_c, 36, .inl a0_2_f)), (a0_3, .inl (a0_3_c, 36, .inl a0_3_f)), (a1, .inr (0, [.int a1_0, .ref a1_1, .int a1_2, .ref a1_3, .int a1_4, .ref a1_5, .ref a1_6, .ref a1_7, .int a1_8, .ref a1_9, .ref a1_10, .ref a1_11, .ref a1_12, .ref a1_13])), (a1_1, .inl (a1_1_c, 8, .inl a1_1_f)), (a2, .inr (2, [.ref a2_0, .ref a2_1, .ref a2_2, .ref a2_3, .ref a2_4, .ref a2_5])), (a2_1, .inl (a2_1_c, 8, .inl a2_1_f))] sz) U)) (va_Qv (fun (_ : Unit) => True) (fun (_ : Unit) (t : State) => ∃ (za0_4 : Int32) (za0_5 : Int32) (za0_0_3 : Int32) (za0_0_4 : Int32) (za0_0_5 : Int32) (za0_0_6 : Int64) (za0_0_7 : Int32) (za0_1_f : Nat → Int64) (za0_2_f : Nat → Int32) (za0_3_f : Nat → Int32) (za1_0 : Int32) (za1_1_f : Nat → Int32) (za2_1_f : Nat → Int32), (0 ≤ za0_4.toInt ∧ za0_4.toInt ≤ 36) ∧ (0 ≤ za0_0_3.toInt ∧ za0_0_3.toInt ≤ 1000) ∧ (0 ≤ za0_0_5.toInt ∧ za0_0_5.toInt ≤ 1000) ∧ (0 ≤ za1_0.toInt ∧ za1_0.toInt ≤ 8) ∧ (NOk za0_2_f za0_3_f za0_4) ∧ va_P (dC, dI) vwCl [(a0, .inr (4, [.ref a0_0, .ref a0_1, .ref a0_2, .ref a0_3, .int za0_4, .int za0_5])), (a0_0, .inr (6, [.ref a0_0_0, .ref a0_0_1, .int a0_0_2, .int za0_0_3, .int za0_0_4, .int za0_0_5, .long za0_0_6, .int za0_0_7])), (a0_0_0, .inl (a0_0_0_c, 12, .inr (.inl a0_0_0_f))), (a0_0_1, .inl (a0_0_1_c, 1000, .inl a0_0_1_f)), (a0_1, .inl (a0_1_c, 36, .inr (.inl za0_1_f))), (a0_2, .inl (a0_2_c, 36, .inl za0_2_f)), (a0_3, .inl (a0_3_c, 36, .inl za0_3_f)), (a1, .inr (0, [.int za1_0, .ref a1_1, .int a1_2, .ref a1_3, .int a1_4, .ref a1_5, .ref a1_6, .ref a1_7, .int a1_8, .ref a1_9, .ref a1_10, .ref a1_11, .ref a1_12, .ref a1_13])), (a1_1, .inl (a1_1_c, 8, .inl za1_1_f)), (a2, .inr (2, [.ref a2_0, .ref a2_1, .ref a2_2, .ref a2_3, .ref a2_4, .ref a2_5])), (a2_1, .inl (a2_1_c, 8, .inl za2_1_f))] t.heap ∧ va_K (dC, dI) vwCl [] t ∧ va_D (va_A [(a0, .inr (4, [.ref a0_0, .ref a0_1, .ref a0_2, .ref a0_3, .int a0_4, .int a0_5])), (a0_0, .inr (6, [.ref a0_0_0, .ref a0_0_1, .int a0_0_2, .int a0_0_3, .int a0_0_4, .int a0_0_5, .long a0_0_6, .int a0_0_7])), (a0_0_0, .inl (a0_0_0_c, 12, .inr (.inl a0_0_0_f))), (a0_0_1, .inl (a0_0_1_c, 1000, .inl a0_0_1_f)), (a0_1, .inl (a0_1_c, 36, .inr (.inl a0_1_f))), (a0_2, .inl (a0_2_c, 36, .inl a0_2_f)), (a0_3, .inl (a0_3_c, 36, .inl a0_3_f)), (a1, .inr (0, [.int a1_0, .ref a1_1, .int a1_2, .ref a1_3, .int a1_4, .ref a1_5, .ref a1_6, .ref a1_7, .int a1_8, .ref a1_9, .ref a1_10, .ref a1_11, .ref a1_12, .ref a1_13])), (a1_1, .inl (a1_1_c, 8, .inl a1_1_f)), (a2, .inr (2, [.ref a2_0, .ref a2_1, .ref a2_2, .ref a2_3, .ref a2_4, .ref a2_5])), (a2_1, .inl (a2_1_c, 8, .inl a2_1_f))] sz) [(a0, .inr (4, [.ref a0_0, .ref a0_1, .ref a0_2, .ref a0_3, .int za0_4, .int za0_5])), (a0_0, .inr (6, [.ref a0_0_0, .ref a0_0_1, .int a0_0_2, .int za0_0_3, .int za0_0_4, .int za0_0_5, .long za0_0_6, .int za0_0_7])), (a0_0_0, .inl (a0_0_0_c, 12, .inr (.inl a0_0_0_f))), (a0_0_1, .inl (a0_0_1_c, 1000, .inl a0_0_1_f)), (a0_1, .inl (a0_1_c, 36, .inr (.inl za0_1_f))), (a0_2, .inl (a0_2_c, 36, .inl za0_2_f)), (a0_3, .inl (a0_3_c, 36, .inl za0_3_f)), (a1, .inr (0, [.int za1_0, .ref a1_1, .int a1_2, .ref a1_3, .int a1_4, .ref a1_5, .ref a1_6, .ref a1_7, .int a1_8, .ref a1_9, .ref a1_10, .ref a1_11, .ref a1_12, .ref a1_13])), (a1_1, .inl (a1_1_c, 8, .inl za1_1_f)), (a2, .inr (2, [.ref a2_0, .ref a2_1, .ref a2_2, .ref a2_3, .ref a2_4, .ref a2_5])), (a2_1, .inl (a2_1_c, 8, .inl za2_1_f))]) (va_A [(a0, .inr (4, [.ref a0_0, .ref a0_1, .ref a0_2, .ref a0_3, .int a0_4, .int a0_5])), (a0_0, .inr (6, [.ref a0_0_0, .ref a0_0_1, .int a0_0_2, .int a0_0_3, .int a0_0_4, .int a0_0_5, .long a0_0_6, .int a0_0_7])), (a0_0_0, .inl (a0_0_0_c, 12, .inr (.inl a0_0_0_f))), (a0_0_1, .inl (a0_0_1_c, 1000, .inl a0_0_1_f)), (a0_1, .inl (a0_1_c, 36, .inr (.inl a0_1_f))), (a0_2, .inl (a0_2_c, 36, .inl a0_2_f)), (a0_3, .inl (a0_3_c, 36, .inl a0_3_f)), (a1, .inr (0, [.int a1_0, .ref a1_1, .int a1_2, .ref a1_3, .int a1_4, .ref a1_5, .ref a1_6, .ref a1_7, .int a1_8, .ref a1_9, .ref a1_10, .ref a1_11, .ref a1_12, .ref a1_13])), (a1_1, .inl (a1_1_c, 8, .inl a1_1_f)), (a2, .inr (2, [.ref a2_0, .ref a2_1, .ref a2_2, .ref a2_3, .ref a2_4, .ref a2_5])), (a2_1, .inl (a2_1_c, 8, .inl a2_1_f))] sz)) 0 0 (va_A [(a0, .inr (4, [.ref a0_0, .ref a0_1, .ref a0_2, .ref a0_3, .int a0_4, .int a0_5])), (a0_0, .inr (6, [.ref a0_0_0, .ref a0_0_1, .int a0_0_2, .int a0_0_3, .int a0_0_4, .int a0_0_5, .long a0_0_6, .int a0_0_7])), (a0_0_0, .inl (a0_0_0_c, 12, .inr (.inl a0_0_0_f))), (a0_0_1, .inl (a0_0_1_c, 1000, .inl a0_0_1_f)), (a0_1, .inl (a0_1_c, 36, .inr (.inl a0_1_f))), (a0_2, .inl (a0_2_c, 36, .inl a0_2_f)), (a0_3, .inl (a0_3_c, 36, .inl a0_3_f)), (a1, .inr (0, [.int a1_0, .ref a1_1, .int a1_2, .ref a1_3, .int a1_4, .ref a1_5, .ref a1_6, .ref a1_7, .int a1_8, .ref a1_9, .ref a1_10, .ref a1_11, .ref a1_12, .ref a1_13])), (a1_1, .inl (a1_1_c, 8, .inl a1_1_f)), (a2, .inr (2, [.ref a2_0, .ref a2_1, .ref a2_2, .ref a2_3, .ref a2_4, .ref a2_5])), (a2_1, .inl (a2_1_c, 8, .inl a2_1_f))] sz) := by
  refine Met.ofW (cc := cX5_readPerson) (maxL := 9) (ret := none) (by decide) rfl ?_
  intro p e s m args below meth c s₁ B hml hv
  obtain ⟨rfl, hsz, hP, hK, hD0, hE⟩ := hv
  have hx := B.exec
  have hb := B.bytes
  have hr := B.returns
  have hts0 := atoms_spec (ws := (.code yX5_readPerson cX5_readPerson 9 none :: TBL)) B.pre
  have hts := fun (w : Cond) (h : w ∈ TBL) => hts0 w (List.mem_cons_of_mem _ h)
  have hown : s.vm.findClass RX5 = some m.cls := findClass_of_methodNamed B.named
  have hlocks := B.notSynchronized
  have hN := hE.1
  subst hsz
  have hD := hD0.self (sz := s.heap.size)
  generalize hAe : va_A [(a0, .inr (4, [.ref a0_0, .ref a0_1, .ref a0_2, .ref a0_3, .int a0_4, .int a0_5])), (a0_0, .inr (6, [.ref a0_0_0, .ref a0_0_1, .int a0_0_2, .int a0_0_3, .int a0_0_4, .int a0_0_5, .long a0_0_6, .int a0_0_7])), (a0_0_0, .inl (a0_0_0_c, 12, .inr (.inl a0_0_0_f))), (a0_0_1, .inl (a0_0_1_c, 1000, .inl a0_0_1_f)), (a0_1, .inl (a0_1_c, 36, .inr (.inl a0_1_f))), (a0_2, .inl (a0_2_c, 36, .inl a0_2_f)), (a0_3, .inl (a0_3_c, 36, .inl a0_3_f)), (a1, .inr (0, [.int a1_0, .ref a1_1, .int a1_2, .ref a1_3, .int a1_4, .ref a1_5, .ref a1_6, .ref a1_7, .int a1_8, .ref a1_9, .ref a1_10, .ref a1_11, .ref a1_12, .ref a1_13])), (a1_1, .inl (a1_1_c, 8, .inl a1_1_f)), (a2, .inr (2, [.ref a2_0, .ref a2_1, .ref a2_2, .ref a2_3, .ref a2_4, .ref a2_5])), (a2_1, .inl (a2_1_c, 8, .inl a2_1_f))] s.heap.size = A at hD hE ⊢
  have hA : ∀ q : Nat, s.heap.size ≤ q → A q := fun q h => by rw [← hAe]; exact Or.inr h
  have hS : va_S A s.heap s.heap [] := va_S.rf
  replace hP : va_P (dC, dI) vwCl [(a0, .inr (4, [.ref a0_0, .ref a0_1, .ref a0_2, .ref a0_3, .int a0_4, .int a0_5])), (a0_0, .inr (6, [.ref a0_0_0, .ref a0_0_1, .int a0_0_2, .int a0_0_3, .int a0_0_4, .int a0_0_5, .long a0_0_6, .int a0_0_7])), (a0_0_0, .inl (a0_0_0_c, 12, .inr (.inl a0_0_0_f))), (a0_0_1, .inl (a0_0_1_c, 1000, .inl a0_0_1_f)), (a0_1, .inl (a0_1_c, 36, .inr (.inl a0_1_f))), (a0_2, .inl (a0_2_c, 36, .inl a0_2_f)), (a0_3, .inl (a0_3_c, 36, .inl a0_3_f)), (a1, .inr (0, [.int a1_0, .ref a1_1, .int a1_2, .ref a1_3, .int a1_4, .ref a1_5, .ref a1_6, .ref a1_7, .int a1_8, .ref a1_9, .ref a1_10, .ref a1_11, .ref a1_12, .ref a1_13])), (a1_1, .inl (a1_1_c, 8, .inl a1_1_f)), (a2, .inr (2, [.ref a2_0, .ref a2_1, .ref a2_2, .ref a2_3, .ref a2_4, .ref a2_5])), (a2_1, .inl (a2_1_c, 8, .inl a2_1_f))] s.heap := hP
  have hl := lv_entry ([.ref a0, .ref a1, .ref a2]) (n := 9) (Nat.le_of_ble_eq_true rfl)
  rw [lg_entry_eq]
  generalize (lg_sl ([.ref a0, .ref a1, .ref a2]) ++ List.replicate (9 - (lg_sl ([.ref a0, .ref a1, .ref a2])).length) Slot.unset).toArray = ls at hl ⊢
  have hl : lv_has ls 9 [(0, .ref a0), (1, .ref a1), (2, .ref a2)] := hl
  have b_a0_5 := i32b a0_5
  have b_a0_0_4 := i32b a0_0_4
  have b_a0_0_7 := i32b a0_0_7
  refine lv_aload_n hx hb dX5_readPerson_0 rfl (lv_at hl 1 rfl) ?_
  refine va_getN (D := (dC, dI)) (ci := 0) (v := .int a1_0) (C := RX1) (T := TX1) (N := 14) hx hb hts inlX1 hown hK hP 7 rgL11_9734e9c rfl 0 (by decide) (va_Nw.use rfl (nf_26 hN)) (fun _ h9 => h9) rfl dX5_readPerson_1 ?_
  refine lv_istore_n (lv' := [(3, .int a1_0), (0, .ref a0), (1, .ref a1), (2, .ref a2)]) hx hb dX5_readPerson_4 rfl hl (by decide) rfl (fun ls hl => ?_)
  refine lv_iload_n hx hb dX5_readPerson_5 rfl (lv_at hl 0 rfl) ?_
  refine lv_bipush (v := 8) hx hb dX5_readPerson_6 (by decide) ?_
  refine lv_icmp_lt (tgt := 24) hx hb dX5_readPerson_8 (by decide) (fun c8_1 => ?_) (fun c8_1 => ?_)
  · have c8_1 : a1_0.toInt < 8 := (cv_lt rfl (by decide)).mp c8_1
    refine lv_aload_n hx hb dX5_readPerson_24 rfl (lv_at hl 1 rfl) ?_
    refine va_get (D := (dC, dI)) (ci := 4) (v := .ref a0_0) (C := RX5) (T := TX5) (N := 6) hx hb hts inlX5 hown hK hP 0 rgL11_6c8bafd rfl 0 (by decide) (hts (.fieldLink RX5 12 "ClosedUntil$TextReader" "tokens" "LClosedUntil$Tokens;") qw_98) (fun _ h9 => h9) rfl dX5_readPerson_25 ?_
    have hPc := (rgP11_1d2a21b hP)
    have hKc := (rgK7_1f732e3 hK)
    have hDc := (rgD11_2320529 hD)
    have hFc := freeW hDc hS hA
    refine va_callv (va_runVN (As := []) (rest := []) ⟨hx, hb, hml, hown, hts⟩ (k_X7_advance l dC dI g s.heap.size (a0_0) (a0_0_0) (a0_0_1) (a0_0_2) (a0_0_3) (a0_0_4) (a0_0_5) (a0_0_6) (a0_0_7) (a0_0_0_c) (a0_0_0_f) (a0_0_1_c) (a0_0_1_f) (by omega) (by omega) (by omega)) ⟨va_cnB 0 hts (gwC qw_93) rfl rfl rfl (nm_13 hN) (hts (.initialized RX7) qw_70) (by decide +kernel) ⟨Nat.le_of_ble_eq_true rfl, Nat.le_of_ble_eq_true rfl⟩, (hts (.instanceMethod yX7_advance) qw_95), (hts (.selects RX7 yX7_advance yX7_advance) qw_96)⟩ ⟨fun a U g9 mk q => ⟨q.1, q.2.1, q.2.2.1, va_K.moved (u := U) (U := U.calling g9 mk a) (Vm.Alike.refl U.vm) q.2.2.2.1, q.2.2.2.2.1, Ev.bl q.2.2.2.2.2⟩, va_recv hK hP (ci := 6) (q0 := 1) rfl rgL11_ae006c6, fun U hU hW => ⟨rfl, by rw [hU], atB hU hPc, va_K.moved hW.alike hKc, hDc.weaken (fun _ _ _ _ => trivial), hE.go hS hFc hU hW⟩⟩ rfl rfl hl.1 rfl (lv_room (Nat.le_of_ble_eq_true rfl)) dX5_readPerson_28 ⟨Nat.le_of_ble_eq_true rfl, Nat.le_of_ble_eq_true rfl⟩) hS (fun q _ h => hFc q h) hFc (fun u2 t H1 locs ht hvm h_u2 hB hz1 hk1 hS => ?_)
    obtain ⟨za0_3_4, za0_4_5, za0_5_6, za0_6_7, za0_7_8, hF9, hF10, hP1, hK1, hD1⟩ := hB
    have hK1 := va_K.moved hvm.symm hK1
    have hJ9 := rgJ11_21c0446 hP hD hk1 hFc (atH ht hP1) hD1
    clear hP hD hPc hKc hDc hFc hP1 hD1 hk1 hz1
    obtain ⟨hP, hD⟩ := hJ9
    clear hK1
    generalize H1 = H at hP hS ⊢
    refine W.widen (k := 0) (n := 0) (Nat.le_of_ble_eq_true rfl) (Nat.le_of_ble_eq_true rfl) ?_
    refine lv_aload_n hx hb dX5_readPerson_31 rfl (lv_at hl 1 rfl) ?_
    have hPc := (rgP11_8934fbc hP)
    have hKc := (rgK7_b547fd3 hK)
    have hDc := (rgD11_7307c38 hD)
    have hFc := freeW hDc hS hA
    refine va_calll (va_runV (As := []) (rest := []) ⟨hx, hb, hml, hown, hts⟩ (k_X5_readNewName l dC dI g H.size (a0) (a0_0) (a0_1) (a0_2) (a0_3) (a0_4) (a0_5) (a0_0_0) (a0_0_1) (a0_0_2) (za0_3_4) (za0_4_5) (za0_5_6) (za0_6_7) (za0_7_8) (a0_0_0_c) (a0_0_0_f) (a0_0_1_c) (a0_0_1_f) (a0_1_c) (a0_1_f) (by omega) (by omega) (by omega) (by omega)) (cwV 0 hts (gwV qw_190 qw_191 qw_192 qw_100 qw_189) rfl rfl rfl (by decide +kernel) ⟨Nat.le_of_ble_eq_true rfl, Nat.le_of_ble_eq_true rfl⟩) ⟨fun a U g9 mk q => ⟨q.1, q.2.1, q.2.2.1, va_K.moved (u := U) (U := U.calling g9 mk a) (Vm.Alike.refl U.vm) q.2.2.2.1, q.2.2.2.2.1, Ev.bl q.2.2.2.2.2⟩, va_recv hK hP (ci := 4) (q0 := 0) rfl rgL11_6c8bafd, fun U hU hW => ⟨rfl, by rw [hU], atB hU hPc, va_K.moved hW.alike hKc, hDc.weaken (fun _ _ _ _ => trivial), hE.go hS hFc hU hW⟩⟩ rfl rfl hl.1 rfl (lv_room (Nat.le_of_ble_eq_true rfl)) dX5_readPerson_32 ⟨Nat.le_of_ble_eq_true rfl, Nat.le_of_ble_eq_true rfl⟩) hS (fun q _ h => hFc q h) hFc (fun r12 u11 t H1 locs ht hvm h_u11 hB hz1 hk1 hS => ?_)
    obtain ⟨za0_5_13, za0_0_3_14, za0_0_4_15, za0_0_5_16, za0_0_6_17, za0_0_7_18, hF19, hF20, hF21, hP1, hK1, hD1⟩ := hB
    have hK1 := va_K.moved hvm.symm hK1
    have hJ9 := rgJ11_dc22c10 hP hD hk1 hFc (atH ht hP1) hD1
    clear hP hD hPc hKc hDc hFc hP1 hD1 hk1 hz1
    obtain ⟨hP, hD⟩ := hJ9
    clear hK1
    generalize H1 = H at hP hS ⊢
    refine W.widen (k := 0) (n := 0) (Nat.le_of_ble_eq_true rfl) (Nat.le_of_ble_eq_true rfl) ?_
    refine lv_lstore (lv' := [(4, .long r12), (3, .int a1_0), (0, .ref a0), (1, .ref a1), (2, .ref a2)]) hx hb dX5_readPerson_35 hl (by decide) rfl (fun ls hl => ?_)
    refine lv_iconst (v := (-1)) hx hb dX5_readPerson_37 (by decide) ?_
    refine lv_istore (lv' := [(6, .int (-1)), (4, .long r12), (3, .int a1_0), (0, .ref a0), (1, .ref a1), (2, .ref a2)]) hx hb dX5_readPerson_38 hl (by decide) rfl (fun ls hl => ?_)
    refine lv_aload_n hx hb dX5_readPerson_40 rfl (lv_at hl 3 rfl) ?_
    refine lv_iconst (v := 1) hx hb dX5_readPerson_41 (by decide) ?_
    have qc1 : (1 : Int32).toInt = 1 := by decide
    have hPc := (rgP11_f758a06 hP)
    have hKc := (rgK7_1f732e3 hK)
    have hDc := (rgD11_6eb49fc hD)
    have hFc := freeW hDc hS hA
    refine va_calli (va_runV (As := [.int 1]) (rest := []) ⟨hx, hb, hml, hown, hts⟩ (k_X5_passes l dC dI g H.size (a0) (1) (a0_0) (a0_1) (a0_2) (a0_3) (a0_4) (za0_5_13) (a0_0_0) (a0_0_1) (a0_0_2) (za0_0_3_14) (za0_0_4_15) (za0_0_5_16) (za0_0_6_17) (za0_0_7_18) (a0_0_0_c) (a0_0_0_f) (a0_0_1_c) (a0_0_1_f) (by omega) (by omega) (by omega) (by omega)) (cwV 1 hts (gwV qw_101 qw_102 qw_103 qw_100 qw_99) rfl rfl rfl (by decide +kernel) ⟨Nat.le_of_ble_eq_true rfl, Nat.le_of_ble_eq_true rfl⟩) ⟨fun a U g9 mk q => ⟨q.1, q.2.1, q.2.2.1, va_K.moved (u := U) (U := U.calling g9 mk a) (Vm.Alike.refl U.vm) q.2.2.2.1, q.2.2.2.2.1, Ev.bl q.2.2.2.2.2⟩, va_recv hK hP (ci := 4) (q0 := 0) rfl rgL11_6c8bafd, fun U hU hW => ⟨rfl, by rw [hU], atB hU hPc, va_K.moved hW.alike hKc, hDc.weaken (fun _ _ _ _ => trivial), hE.go hS hFc hU hW⟩⟩ rfl rfl hl.1 rfl (lv_room (Nat.le_of_ble_eq_true rfl)) dX5_readPerson_42 ⟨Nat.le_of_ble_eq_true rfl, Nat.le_of_ble_eq_true rfl⟩) hS (fun q _ h => hFc q h) hFc (fun r23 u22 t H1 locs ht hvm h_u22 hB hz1 hk1 hS => ?_)
    obtain ⟨za0_0_3_24, za0_0_4_25, za0_0_5_26, za0_0_6_27, za0_0_7_28, hF29, hF30, hF31, hP1, hK1, hD1⟩ := hB
    have hK1 := va_K.moved hvm.symm hK1
    have hJ9 := rgJ11_cdaeafa hP hD hk1 hFc (atH ht hP1) hD1
    clear hP hD hPc hKc hDc hFc hP1 hD1 hk1 hz1
    obtain ⟨hP, hD⟩ := hJ9
    clear hK1
    generalize H1 = H at hP hS ⊢
    refine W.widen (k := 0) (n := 0) (Nat.le_of_ble_eq_true rfl) (Nat.le_of_ble_eq_true rfl) ?_
    have h_r23 := congrArg Int32.toInt h_u22
    have hz_r23 : r23 = 0 ∨ r23 = 1 := h_u22 ▸ hF31
    have b_r23 := z01 hz_r23
    refine lv_if_eq (tgt := 54) hx hb dX5_readPerson_45 (by decide) (fun c45_32 => ?_) (fun c45_32 => ?_)
    · have c45_32 : r23.toInt = 0 := (cv_eq rfl (by decide)).mp c45_32
      refine lv_iconst (v := (-1)) hx hb dX5_readPerson_54 (by decide) ?_
      refine lv_istore (lv' := [(7, .int (-1)), (6, .int (-1)), (4, .long r12), (3, .int a1_0), (0, .ref a0), (1, .ref a1), (2, .ref a2)]) hx hb dX5_readPerson_55 hl (by decide) rfl (fun ls hl => ?_)
      refine lv_aload_n hx hb dX5_readPerson_57 rfl (lv_at hl 4 rfl) ?_
      refine lv_iconst (v := 2) hx hb dX5_readPerson_58 (by decide) ?_
      have qc2 : (2 : Int32).toInt = 2 := by decide
      have hPc := (rgP11_f758a06 hP)
      have hKc := (rgK7_1f732e3 hK)
      have hDc := (rgD11_6eb49fc hD)
      have hFc := freeW hDc hS hA
      refine va_calli (va_runV (As := [.int 2]) (rest := []) ⟨hx, hb, hml, hown, hts⟩ (k_X5_passes l dC dI g H.size (a0) (2) (a0_0) (a0_1) (a0_2) (a0_3) (a0_4) (za0_5_13) (a0_0_0) (a0_0_1) (a0_0_2) (za0_0_3_24) (za0_0_4_25) (za0_0_5_26) (za0_0_6_27) (za0_0_7_28) (a0_0_0_c) (a0_0_0_f) (a0_0_1_c) (a0_0_1_f) (by omega) (by omega) (by omega) (by omega)) (cwV 1 hts (gwV qw_101 qw_102 qw_103 qw_100 qw_99) rfl rfl rfl (by decide +kernel) ⟨Nat.le_of_ble_eq_true rfl, Nat.le_of_ble_eq_true rfl⟩) ⟨fun a U g9 mk q => ⟨q.1, q.2.1, q.2.2.1, va_K.moved (u := U) (U := U.calling g9 mk a) (Vm.Alike.refl U.vm) q.2.2.2.1, q.2.2.2.2.1, Ev.bl q.2.2.2.2.2⟩, va_recv hK hP (ci := 4) (q0 := 0) rfl rgL11_6c8bafd, fun U hU hW => ⟨rfl, by rw [hU], atB hU hPc, va_K.moved hW.alike hKc, hDc.weaken (fun _ _ _ _ => trivial), hE.go hS hFc hU hW⟩⟩ rfl rfl hl.1 rfl (lv_room (Nat.le_of_ble_eq_true rfl)) dX5_readPerson_59 ⟨Nat.le_of_ble_eq_true rfl, Nat.le_of_ble_eq_true rfl⟩) hS (fun q _ h => hFc q h) hFc (fun r34 u33 t H1 locs ht hvm h_u33 hB hz1 hk1 hS => ?_)
      obtain ⟨za0_0_3_35, za0_0_4_36, za0_0_5_37, za0_0_6_38, za0_0_7_39, hF40, hF41, hF42, hP1, hK1, hD1⟩ := hB
      have hK1 := va_K.moved hvm.symm hK1
      have hJ9 := rgJ11_cdaeafa hP hD hk1 hFc (atH ht hP1) hD1
      clear hP hD hPc hKc hDc hFc hP1 hD1 hk1 hz1
      obtain ⟨hP, hD⟩ := hJ9
      clear hK1
      generalize H1 = H at hP hS ⊢
      refine W.widen (k := 0) (n := 0) (Nat.le_of_ble_eq_true rfl) (Nat.le_of_ble_eq_true rfl) ?_
      have h_r34 := congrArg Int32.toInt h_u33
      have hz_r34 : r34 = 0 ∨ r34 = 1 := h_u33 ▸ hF42
      have b_r34 := z01 hz_r34
      refine lv_if_eq (tgt := 94) hx hb dX5_readPerson_62 (by decide) (fun c62_43 => ?_) (fun c62_43 => ?_)
      · have c62_43 : r34.toInt = 0 := (cv_eq rfl (by decide)).mp c62_43
        refine lv_aload_n hx hb dX5_readPerson_94 rfl (lv_at hl 4 rfl) ?_
        refine lv_bipush (v := 14) hx hb dX5_readPerson_95 (by decide) ?_
        have qc14 : (14 : Int32).toInt = 14 := by decide
        have hPc := (rgP11_f758a06 hP)
        have hKc := (rgK7_1f732e3 hK)
        have hDc := (rgD11_6eb49fc hD)
        have hFc := freeW hDc hS hA
        refine va_callv (va_runV (As := [.int 14]) (rest := []) ⟨hx, hb, hml, hown, hts⟩ (k_X5_pass l dC dI g H.size (a0) (14) (a0_0) (a0_1) (a0_2) (a0_3) (a0_4) (za0_5_13) (a0_0_0) (a0_0_1) (a0_0_2) (za0_0_3_35) (za0_0_4_36) (za0_0_5_37) (za0_0_6_38) (za0_0_7_39) (a0_0_0_c) (a0_0_0_f) (a0_0_1_c) (a0_0_1_f) (by omega) (by omega) (by omega) (by omega)) (cwV 1 hts (gwV qw_194 qw_195 qw_196 qw_100 qw_193) rfl rfl rfl (by decide +kernel) ⟨Nat.le_of_ble_eq_true rfl, Nat.le_of_ble_eq_true rfl⟩) ⟨fun a U g9 mk q => ⟨q.1, q.2.1, q.2.2.1, va_K.moved (u := U) (U := U.calling g9 mk a) (Vm.Alike.refl U.vm) q.2.2.2.1, q.2.2.2.2.1, Ev.bl q.2.2.2.2.2⟩, va_recv hK hP (ci := 4) (q0 := 0) rfl rgL11_6c8bafd, fun U hU hW => ⟨rfl, by rw [hU], atB hU hPc, va_K.moved hW.alike hKc, hDc.weaken (fun _ _ _ _ => trivial), hE.go hS hFc hU hW⟩⟩ rfl rfl hl.1 rfl (lv_room (Nat.le_of_ble_eq_true rfl)) dX5_readPerson_97 ⟨Nat.le_of_ble_eq_true rfl, Nat.le_of_ble_eq_true rfl⟩) hS (fun q _ h => hFc q h) hFc (fun u44 t H1 locs ht hvm h_u44 hB hz1 hk1 hS => ?_)
        obtain ⟨za0_5_46, za0_0_3_47, za0_0_4_48, za0_0_5_49, za0_0_6_50, za0_0_7_51, hF52, hF53, hF54, hP1, hK1, hD1⟩ := hB
        have hK1 := va_K.moved hvm.symm hK1
        have hJ9 := rgJ11_cdaeafa hP hD hk1 hFc (atH ht hP1) hD1
        clear hP hD hPc hKc hDc hFc hP1 hD1 hk1 hz1
        obtain ⟨hP, hD⟩ := hJ9
        clear hK1
        generalize H1 = H at hP hS ⊢
        refine W.widen (k := 0) (n := 0) (Nat.le_of_ble_eq_true rfl) (Nat.le_of_ble_eq_true rfl) ?_
        refine lv_aload_n hx hb dX5_readPerson_100 rfl (lv_at hl 4 rfl) ?_
        refine va_get (D := (dC, dI)) (ci := 4) (v := .int za0_5_46) (C := RX5) (T := TX5) (N := 6) hx hb hts inlX5 hown hK hP 0 rgL11_6c8bafd rfl 5 (by decide) (hts (.fieldLink RX5 41 "ClosedUntil$TextReader" "fault" "I") qw_97) (fun _ h9 => h9) rfl dX5_readPerson_101 ?_
        refine lv_iconst (v := (-1)) hx hb dX5_readPerson_104 (by decide) ?_
        refine lv_icmp_ne (tgt := 142) hx hb dX5_readPerson_105 (by decide) (fun c105_55 => ?_) (fun c105_55 => ?_)
        · have c105_55 : ¬ (za0_5_46.toInt = (-1)) := mt (cv_eq rfl (by decide)).mpr c105_55
          refine W.widen (k := 0) (n := 0) (Nat.le_of_ble_eq_true rfl) (Nat.le_of_ble_eq_true rfl) ?_
          have hP9 := hP
          have hD9 := hD
          have hK9 := (rgK7_1b59772 hK)
          have hf9_0 : (0 ≤ a0_4.toInt ∧ a0_4.toInt ≤ 36) := by omega
          have hf9_1 : (0 ≤ za0_0_3_47.toInt ∧ za0_0_3_47.toInt ≤ 1000) := by omega
          have hf9_2 : (0 ≤ za0_0_5_49.toInt ∧ za0_0_5_49.toInt ≤ 1000) := by omega
          have hf9_3 : (0 ≤ a1_0.toInt ∧ a1_0.toInt ≤ 8) := by omega
          have hf9_4 : (NOk a0_2_f a0_3_f a0_4) := by assumption
          exact W.vret hx hb hr (fun t ht hW => ⟨⟨(), rfl, trivial, a0_4, za0_5_46, za0_0_3_47, za0_0_4_48, za0_0_5_49, za0_0_6_50, za0_0_7_51, a0_1_f, a0_2_f, a0_3_f, a1_0, a1_1_f, a2_1_f, hf9_0, hf9_1, hf9_2, hf9_3, hf9_4, atB ht hP9, va_K.moved hW.alike hK9, hD9⟩, hS.F ht⟩) hS.2.2 dX5_readPerson_142
        · have c105_55 : za0_5_46.toInt = (-1) := (cv_eq rfl (by decide)).mp c105_55
          refine lv_aload_n hx hb dX5_readPerson_108 rfl (lv_at hl 5 rfl) ?_
          refine va_getN (D := (dC, dI)) (ci := 0) (v := .ref a1_1) (C := RX1) (T := TX1) (N := 14) hx hb hts inlX1 hown hK hP 7 rgL11_9734e9c rfl 1 (by decide) (va_Nw.use rfl (nf_28 hN)) (fun _ h9 => h9) rfl dX5_readPerson_109 ?_
          refine lv_iload_n hx hb dX5_readPerson_112 rfl (lv_at hl 3 rfl) ?_
          refine lv_iload hx hb dX5_readPerson_113 (lv_at hl 1 rfl) ?_
          refine va_iast hx hb hK hP hD hS 8 5 rgL11_13b73f1 rgT7_3ac7fec (vinI (by omega) (by omega)) dX5_readPerson_115 (fun H locs hP9 hD9 hS9 => ?_)
          obtain ⟨y56, e_y56⟩ : ∃ y, (upd a1_1_f a1_0.toNatClampNeg ((-1))) = y := ⟨_, rfl⟩
          clear hP hD hS
          obtain ⟨hP, hD⟩ := rgS11_cf10d17 (e := (a1_1, .inl (a1_1_c, 8, .inl y56))) hP9 hD9 (congrArg (fun z9 => (((a1_1, .inl (a1_1_c, 8, .inl z9)) : Nat × va_E))) e_y56)
          have hS := hS9; clear hP9 hD9 hS9
          refine lv_aload_n hx hb dX5_readPerson_116 rfl (lv_at hl 6 rfl) ?_
          refine va_getN (D := (dC, dI)) (ci := 2) (v := .ref a2_1) (C := RX3) (T := TX3) (N := 6) hx hb hts inlX3 hown hK hP 9 rgL11_6a66537 rfl 1 (by decide) (va_Nw.use rfl (nf_15 hN)) (fun _ h9 => h9) rfl dX5_readPerson_117 ?_
          refine lv_iload_n hx hb dX5_readPerson_120 rfl (lv_at hl 3 rfl) ?_
          refine lv_iload hx hb dX5_readPerson_121 (lv_at hl 0 rfl) ?_
          refine va_iast hx hb hK hP hD hS 10 6 rgL11_9a1600d rgT7_aa56713 (vinI (by omega) (by omega)) dX5_readPerson_123 (fun H locs hP9 hD9 hS9 => ?_)
          obtain ⟨y57, e_y57⟩ : ∃ y, (upd a2_1_f a1_0.toNatClampNeg ((-1))) = y := ⟨_, rfl⟩
          clear hP hD hS
          obtain ⟨hP, hD⟩ := rgS11_d782f99 (e := (a2_1, .inl (a2_1_c, 8, .inl y57))) hP9 hD9 (congrArg (fun z9 => (((a2_1, .inl (a2_1_c, 8, .inl z9)) : Nat × va_E))) e_y57)
          have hS := hS9; clear hP9 hD9 hS9
          refine lv_aload_n hx hb dX5_readPerson_124 rfl (lv_at hl 5 rfl) ?_
          refine lv_dup hx hb dX5_readPerson_125 rfl ?_
          refine va_getN (D := (dC, dI)) (ci := 0) (v := .int a1_0) (C := RX1) (T := TX1) (N := 14) hx hb hts inlX1 hown hK hP 7 rgL11_9734e9c rfl 0 (by decide) (va_Nw.use rfl (nf_26 hN)) (fun _ h9 => h9) rfl dX5_readPerson_126 ?_
          refine lv_iconst (v := 1) hx hb dX5_readPerson_129 (by decide) ?_
          refine lv_iadd hx hb dX5_readPerson_130 ?_
          refine lv_topi (fun x58 e_x58 => ?_)
          try have e_x58 := ti_add e_x58 rfl (show (1 : Int32).toInt = 1 by decide) (by omega)
          refine va_putN (D := (dC, dI)) (ci := 0) (v := .int x58) (ty := .int) (C := RX1) (T := TX1) (N := 14) hx hb hts inlX1 tyX1 tyX1_ok nmX1 hown hK hP hD hS 7 rgL11_9734e9c rfl 0 (by decide) (va_Nw.use rfl (nf_26 hN)) (fun _ h9 => h9) rfl (by decide +kernel) rfl rfl (Nat.le_of_ble_eq_true rfl) dX5_readPerson_131 (fun H locs hP9 hD9 hS9 => ?_)
          clear hP hD hS
          obtain ⟨hP, hD⟩ := rgS11_2ed6a70 (e := (a1, .inr (0, [.int x58, .ref a1_1, .int a1_2, .ref a1_3, .int a1_4, .ref a1_5, .ref a1_6, .ref a1_7, .int a1_8, .ref a1_9, .ref a1_10, .ref a1_11, .ref a1_12, .ref a1_13]))) hP9 hD9 rfl
          have hS := hS9; clear hP9 hD9 hS9
          refine lv_aload_n hx hb dX5_readPerson_134 rfl (lv_at hl 4 rfl) ?_
          refine lv_lload hx hb dX5_readPerson_135 (lv_at hl 2 rfl) ?_
          refine lv_iconst (v := 0) hx hb dX5_readPerson_137 (by decide) ?_
          refine lv_iload_n hx hb dX5_readPerson_138 rfl (lv_at hl 3 rfl) ?_
          have qc0 : (0 : Int32).toInt = 0 := by decide
          have hPc := (rgP11_d56c163 hP)
          have hKc := (rgK7_d4890ae hK)
          have hDc := (rgD11_83208e9 hD)
          have hFc := freeW hDc hS hA
          refine va_callv (va_runV (As := [.long r12, .int 0, .int a1_0]) (rest := []) ⟨hx, hb, hml, hown, hts⟩ (k_X5_addName l dC dI g H.size (a0) (r12) (0) (a1_0) (a0_0) (a0_1) (a0_2) (a0_3) (a0_4) (za0_5_46) (a0_1_c) (a0_1_f) (a0_2_c) (a0_2_f) (a0_3_c) (a0_3_f) (by omega) (by assumption) (by omega)) (cwV 3 hts (gwV qw_198 qw_199 qw_200 qw_100 qw_197) rfl rfl rfl (by decide +kernel) ⟨Nat.le_of_ble_eq_true rfl, Nat.le_of_ble_eq_true rfl⟩) ⟨fun a U g9 mk q => ⟨q.1, q.2.1, q.2.2.1, va_K.moved (u := U) (U := U.calling g9 mk a) (Vm.Alike.refl U.vm) q.2.2.2.1, q.2.2.2.2.1, Ev.bl q.2.2.2.2.2⟩, va_recv hK hP (ci := 4) (q0 := 0) rfl rgL11_6c8bafd, fun U hU hW => ⟨rfl, by rw [hU], atB hU hPc, va_K.moved hW.alike hKc, hDc.weaken (fun _ _ _ _ => trivial), hE.go hS hFc hU hW⟩⟩ rfl rfl hl.1 rfl (lv_room (Nat.le_of_ble_eq_true rfl)) dX5_readPerson_139 ⟨Nat.le_of_ble_eq_true rfl, Nat.le_of_ble_eq_true rfl⟩) hS (fun q _ h => hFc q h) hFc (fun u59 t H1 locs ht hvm h_u59 hB hz1 hk1 hS => ?_)
          obtain ⟨za0_4_61, za0_1_f_62, za0_2_f_63, za0_3_f_64, hF65, hF66, hP1, hK1, hD1⟩ := hB
          have hK1 := va_K.moved hvm.symm hK1
          have hJ9 := rgJ11_6c2858c hP hD hk1 hFc (atH ht hP1) hD1
          clear hP hD hPc hKc hDc hFc hP1 hD1 hk1 hz1
          obtain ⟨hP, hD⟩ := hJ9
          clear hK1
          generalize H1 = H at hP hS ⊢
          refine W.widen (k := 0) (n := 0) (Nat.le_of_ble_eq_true rfl) (Nat.le_of_ble_eq_true rfl) ?_
          refine W.widen (k := 0) (n := 0) (Nat.le_of_ble_eq_true rfl) (Nat.le_of_ble_eq_true rfl) ?_
          have hP9 := hP
          have hD9 := hD
          have hK9 := (rgK7_1b59772 hK)
          have hf9_0 : (0 ≤ za0_4_61.toInt ∧ za0_4_61.toInt ≤ 36) := by omega
          have hf9_1 : (0 ≤ za0_0_3_47.toInt ∧ za0_0_3_47.toInt ≤ 1000) := by omega
          have hf9_2 : (0 ≤ za0_0_5_49.toInt ∧ za0_0_5_49.toInt ≤ 1000) := by omega
          have hf9_3 : (0 ≤ x58.toInt ∧ x58.toInt ≤ 8) := by omega
          have hf9_4 : (NOk za0_2_f_63 za0_3_f_64 za0_4_61) := by assumption
          exact W.vret hx hb hr (fun t ht hW => ⟨⟨(), rfl, trivial, za0_4_61, za0_5_46, za0_0_3_47, za0_0_4_48, za0_0_5_49, za0_0_6_50, za0_0_7_51, za0_1_f_62, za0_2_f_63, za0_3_f_64, x58, y56, y57, hf9_0, hf9_1, hf9_2, hf9_3, hf9_4, atB ht hP9, va_K.moved hW.alike hK9, hD9⟩, hS.F ht⟩) hS.2.2 dX5_readPerson_142
      · have c62_43 : ¬ (r34.toInt = 0) := mt (cv_eq rfl (by decide)).mpr c62_43
        refine lv_aload_n hx hb dX5_readPerson_65 rfl (lv_at hl 4 rfl) ?_
        refine va_get (D := (dC, dI)) (ci := 4) (v := .ref a0_0) (C := RX5) (T := TX5) (N := 6) hx hb hts inlX5 hown hK hP 0 rgL11_6c8bafd rfl 0 (by decide) (hts (.fieldLink RX5 12 "ClosedUntil$TextReader" "tokens" "LClosedUntil$Tokens;") qw_98) (fun _ h9 => h9) rfl dX5_readPerson_66 ?_
        refine va_getN (D := (dC, dI)) (ci := 6) (v := .int za0_0_5_37) (C := RX7) (T := TX7) (N := 8) hx hb hts inlX7 hown hK hP 1 rgL11_ae006c6 rfl 5 (by decide) (va_Nw.use rfl (nf_3 hN)) (fun _ h9 => h9) rfl dX5_readPerson_69 ?_
        refine lv_istore (lv' := [(8, .int za0_0_5_37), (7, .int (-1)), (6, .int (-1)), (4, .long r12), (3, .int a1_0), (0, .ref a0), (1, .ref a1), (2, .ref a2)]) hx hb dX5_readPerson_72 hl (by decide) rfl (fun ls hl => ?_)
        refine lv_aload_n hx hb dX5_readPerson_74 rfl (lv_at hl 5 rfl) ?_
        have hPc := (rgP11_f758a06 hP)
        have hKc := (rgK7_1f732e3 hK)
        have hDc := (rgD11_6eb49fc hD)
        have hFc := freeW hDc hS hA
        refine va_calli (va_runV (As := []) (rest := []) ⟨hx, hb, hml, hown, hts⟩ (k_X5_readDate l dC dI g H.size (a0) (a0_0) (a0_1) (a0_2) (a0_3) (a0_4) (za0_5_13) (a0_0_0) (a0_0_1) (a0_0_2) (za0_0_3_35) (za0_0_4_36) (za0_0_5_37) (za0_0_6_38) (za0_0_7_39) (a0_0_0_c) (a0_0_0_f) (a0_0_1_c) (a0_0_1_f) (by omega) (by omega) (by omega) (by omega)) (cwV 0 hts (gwV qw_202 qw_203 qw_204 qw_100 qw_201) rfl rfl rfl (by decide +kernel) ⟨Nat.le_of_ble_eq_true rfl, Nat.le_of_ble_eq_true rfl⟩) ⟨fun a U g9 mk q => ⟨q.1, q.2.1, q.2.2.1, va_K.moved (u := U) (U := U.calling g9 mk a) (Vm.Alike.refl U.vm) q.2.2.2.1, q.2.2.2.2.1, Ev.bl q.2.2.2.2.2⟩, va_recv hK hP (ci := 4) (q0 := 0) rfl rgL11_6c8bafd, fun U hU hW => ⟨rfl, by rw [hU], atB hU hPc, va_K.moved hW.alike hKc, hDc.weaken (fun _ _ _ _ => trivial), hE.go hS hFc hU hW⟩⟩ rfl rfl hl.1 rfl (lv_room (Nat.le_of_ble_eq_true rfl)) dX5_readPerson_75 ⟨Nat.le_of_ble_eq_true rfl, Nat.le_of_ble_eq_true rfl⟩) hS (fun q _ h => hFc q h) hFc (fun r68 u67 t H1 locs ht hvm h_u67 hB hz1 hk1 hS => ?_)
        obtain ⟨za0_5_69, za0_0_3_70, za0_0_4_71, za0_0_5_72, za0_0_6_73, za0_0_7_74, hF75, hF76, hF77, hP1, hK1, hD1⟩ := hB
        have hK1 := va_K.moved hvm.symm hK1
        have hJ9 := rgJ11_cdaeafa hP hD hk1 hFc (atH ht hP1) hD1
        clear hP hD hPc hKc hDc hFc hP1 hD1 hk1 hz1
        obtain ⟨hP, hD⟩ := hJ9
        clear hK1
        generalize H1 = H at hP hS ⊢
        refine W.widen (k := 0) (n := 0) (Nat.le_of_ble_eq_true rfl) (Nat.le_of_ble_eq_true rfl) ?_
        have h_r68 := congrArg Int32.toInt h_u67
        have b_r68 := i32b r68
        refine lv_istore (lv' := [(7, .int r68), (8, .int za0_0_5_37), (6, .int (-1)), (4, .long r12), (3, .int a1_0), (0, .ref a0), (1, .ref a1), (2, .ref a2)]) hx hb dX5_readPerson_78 hl (by decide) rfl (fun ls hl => ?_)
        refine lv_iload hx hb dX5_readPerson_80 (lv_at hl 0 rfl) ?_
        refine lv_iload hx hb dX5_readPerson_82 (lv_at hl 2 rfl) ?_
        refine lv_icmp_ge (tgt := 94) hx hb dX5_readPerson_84 (by decide) (fun c84_78 => ?_) (fun c84_78 => ?_)
        · have c84_78 : (-1) ≤ r68.toInt := (cv_le (by decide) rfl).mp c84_78
          refine lv_aload_n hx hb dX5_readPerson_94 rfl (lv_at hl 5 rfl) ?_
          refine lv_bipush (v := 14) hx hb dX5_readPerson_95 (by decide) ?_
          have qc14 : (14 : Int32).toInt = 14 := by decide
          have hPc := (rgP11_f758a06 hP)
          have hKc := (rgK7_1f732e3 hK)
          have hDc := (rgD11_6eb49fc hD)
          have hFc := freeW hDc hS hA
          refine va_callv (va_runV (As := [.int 14]) (rest := []) ⟨hx, hb, hml, hown, hts⟩ (k_X5_pass l dC dI g H.size (a0) (14) (a0_0) (a0_1) (a0_2) (a0_3) (a0_4) (za0_5_69) (a0_0_0) (a0_0_1) (a0_0_2) (za0_0_3_70) (za0_0_4_71) (za0_0_5_72) (za0_0_6_73) (za0_0_7_74) (a0_0_0_c) (a0_0_0_f) (a0_0_1_c) (a0_0_1_f) (by omega) (by omega) (by omega) (by omega)) (cwV 1 hts (gwV qw_194 qw_195 qw_196 qw_100 qw_193) rfl rfl rfl (by decide +kernel) ⟨Nat.le_of_ble_eq_true rfl, Nat.le_of_ble_eq_true rfl⟩) ⟨fun a U g9 mk q => ⟨q.1, q.2.1, q.2.2.1, va_K.moved (u := U) (U := U.calling g9 mk a) (Vm.Alike.refl U.vm) q.2.2.2.1, q.2.2.2.2.1, Ev.bl q.2.2.2.2.2⟩, va_recv hK hP (ci := 4) (q0 := 0) rfl rgL11_6c8bafd, fun U hU hW => ⟨rfl, by rw [hU], atB hU hPc, va_K.moved hW.alike hKc, hDc.weaken (fun _ _ _ _ => trivial), hE.go hS hFc hU hW⟩⟩ rfl rfl hl.1 rfl (lv_room (Nat.le_of_ble_eq_true rfl)) dX5_readPerson_97 ⟨Nat.le_of_ble_eq_true rfl, Nat.le_of_ble_eq_true rfl⟩) hS (fun q _ h => hFc q h) hFc (fun u79 t H1 locs ht hvm h_u79 hB hz1 hk1 hS => ?_)
          obtain ⟨za0_5_81, za0_0_3_82, za0_0_4_83, za0_0_5_84, za0_0_6_85, za0_0_7_86, hF87, hF88, hF89, hP1, hK1, hD1⟩ := hB
          have hK1 := va_K.moved hvm.symm hK1
          have hJ9 := rgJ11_cdaeafa hP hD hk1 hFc (atH ht hP1) hD1
          clear hP hD hPc hKc hDc hFc hP1 hD1 hk1 hz1
          obtain ⟨hP, hD⟩ := hJ9
          clear hK1
          generalize H1 = H at hP hS ⊢
          refine W.widen (k := 0) (n := 0) (Nat.le_of_ble_eq_true rfl) (Nat.le_of_ble_eq_true rfl) ?_
          refine lv_aload_n hx hb dX5_readPerson_100 rfl (lv_at hl 5 rfl) ?_
          refine va_get (D := (dC, dI)) (ci := 4) (v := .int za0_5_81) (C := RX5) (T := TX5) (N := 6) hx hb hts inlX5 hown hK hP 0 rgL11_6c8bafd rfl 5 (by decide) (hts (.fieldLink RX5 41 "ClosedUntil$TextReader" "fault" "I") qw_97) (fun _ h9 => h9) rfl dX5_readPerson_101 ?_
          refine lv_iconst (v := (-1)) hx hb dX5_readPerson_104 (by decide) ?_
          refine lv_icmp_ne (tgt := 142) hx hb dX5_readPerson_105 (by decide) (fun c105_90 => ?_) (fun c105_90 => ?_)
          · have c105_90 : ¬ (za0_5_81.toInt = (-1)) := mt (cv_eq rfl (by decide)).mpr c105_90
            refine W.widen (k := 0) (n := 0) (Nat.le_of_ble_eq_true rfl) (Nat.le_of_ble_eq_true rfl) ?_
            have hP9 := hP
            have hD9 := hD
            have hK9 := (rgK7_1b59772 hK)
            have hf9_0 : (0 ≤ a0_4.toInt ∧ a0_4.toInt ≤ 36) := by omega
            have hf9_1 : (0 ≤ za0_0_3_82.toInt ∧ za0_0_3_82.toInt ≤ 1000) := by omega
            have hf9_2 : (0 ≤ za0_0_5_84.toInt ∧ za0_0_5_84.toInt ≤ 1000) := by omega
            have hf9_3 : (0 ≤ a1_0.toInt ∧ a1_0.toInt ≤ 8) := by omega
            have hf9_4 : (NOk a0_2_f a0_3_f a0_4) := by assumption
            exact W.vret hx hb hr (fun t ht hW => ⟨⟨(), rfl, trivial, a0_4, za0_5_81, za0_0_3_82, za0_0_4_83, za0_0_5_84, za0_0_6_85, za0_0_7_86, a0_1_f, a0_2_f, a0_3_f, a1_0, a1_1_f, a2_1_f, hf9_0, hf9_1, hf9_2, hf9_3, hf9_4, atB ht hP9, va_K.moved hW.alike hK9, hD9⟩, hS.F ht⟩) hS.2.2 dX5_readPerson_142
          · have c105_90 : za0_5_81.toInt = (-1) := (cv_eq rfl (by decide)).mp c105_90
            refine lv_aload_n hx hb dX5_readPerson_108 rfl (lv_at hl 6 rfl) ?_
            refine va_getN (D := (dC, dI)) (ci := 0) (v := .ref a1_1) (C := RX1) (T := TX1) (N := 14) hx hb hts inlX1 hown hK hP 7 rgL11_9734e9c rfl 1 (by decide) (va_Nw.use rfl (nf_28 hN)) (fun _ h9 => h9) rfl dX5_readPerson_109 ?_
            refine lv_iload_n hx hb dX5_readPerson_112 rfl (lv_at hl 4 rfl) ?_
            refine lv_iload hx hb dX5_readPerson_113 (lv_at hl 2 rfl) ?_
            refine va_iast hx hb hK hP hD hS 8 5 rgL11_13b73f1 rgT7_3ac7fec (vinI (by omega) (by omega)) dX5_readPerson_115 (fun H locs hP9 hD9 hS9 => ?_)
            obtain ⟨y91, e_y91⟩ : ∃ y, (upd a1_1_f a1_0.toNatClampNeg ((-1))) = y := ⟨_, rfl⟩
            clear hP hD hS
            obtain ⟨hP, hD⟩ := rgS11_cf10d17 (e := (a1_1, .inl (a1_1_c, 8, .inl y91))) hP9 hD9 (congrArg (fun z9 => (((a1_1, .inl (a1_1_c, 8, .inl z9)) : Nat × va_E))) e_y91)
            have hS := hS9; clear hP9 hD9 hS9
            refine lv_aload_n hx hb dX5_readPerson_116 rfl (lv_at hl 7 rfl) ?_
            refine va_getN (D := (dC, dI)) (ci := 2) (v := .ref a2_1) (C := RX3) (T := TX3) (N := 6) hx hb hts inlX3 hown hK hP 9 rgL11_6a66537 rfl 1 (by decide) (va_Nw.use rfl (nf_15 hN)) (fun _ h9 => h9) rfl dX5_readPerson_117 ?_
            refine lv_iload_n hx hb dX5_readPerson_120 rfl (lv_at hl 4 rfl) ?_
            refine lv_iload hx hb dX5_readPerson_121 (lv_at hl 0 rfl) ?_
            refine va_iast hx hb hK hP hD hS 10 6 rgL11_9a1600d rgT7_aa56713 (vinI (by omega) (by omega)) dX5_readPerson_123 (fun H locs hP9 hD9 hS9 => ?_)
            obtain ⟨y92, e_y92⟩ : ∃ y, (upd a2_1_f a1_0.toNatClampNeg r68) = y := ⟨_, rfl⟩
            clear hP hD hS
            obtain ⟨hP, hD⟩ := rgS11_d782f99 (e := (a2_1, .inl (a2_1_c, 8, .inl y92))) hP9 hD9 (congrArg (fun z9 => (((a2_1, .inl (a2_1_c, 8, .inl z9)) : Nat × va_E))) e_y92)
            have hS := hS9; clear hP9 hD9 hS9
            refine lv_aload_n hx hb dX5_readPerson_124 rfl (lv_at hl 6 rfl) ?_
            refine lv_dup hx hb dX5_readPerson_125 rfl ?_
            refine va_getN (D := (dC, dI)) (ci := 0) (v := .int a1_0) (C := RX1) (T := TX1) (N := 14) hx hb hts inlX1 hown hK hP 7 rgL11_9734e9c rfl 0 (by decide) (va_Nw.use rfl (nf_26 hN)) (fun _ h9 => h9) rfl dX5_readPerson_126 ?_
            refine lv_iconst (v := 1) hx hb dX5_readPerson_129 (by decide) ?_
            refine lv_iadd hx hb dX5_readPerson_130 ?_
            refine lv_topi (fun x93 e_x93 => ?_)
            try have e_x93 := ti_add e_x93 rfl (show (1 : Int32).toInt = 1 by decide) (by omega)
            refine va_putN (D := (dC, dI)) (ci := 0) (v := .int x93) (ty := .int) (C := RX1) (T := TX1) (N := 14) hx hb hts inlX1 tyX1 tyX1_ok nmX1 hown hK hP hD hS 7 rgL11_9734e9c rfl 0 (by decide) (va_Nw.use rfl (nf_26 hN)) (fun _ h9 => h9) rfl (by decide +kernel) rfl rfl (Nat.le_of_ble_eq_true rfl) dX5_readPerson_131 (fun H locs hP9 hD9 hS9 => ?_)
            clear hP hD hS
            obtain ⟨hP, hD⟩ := rgS11_2ed6a70 (e := (a1, .inr (0, [.int x93, .ref a1_1, .int a1_2, .ref a1_3, .int a1_4, .ref a1_5, .ref a1_6, .ref a1_7, .int a1_8, .ref a1_9, .ref a1_10, .ref a1_11, .ref a1_12, .ref a1_13]))) hP9 hD9 rfl
            have hS := hS9; clear hP9 hD9 hS9
            refine lv_aload_n hx hb dX5_readPerson_134 rfl (lv_at hl 5 rfl) ?_
            refine lv_lload hx hb dX5_readPerson_135 (lv_at hl 3 rfl) ?_
            refine lv_iconst (v := 0) hx hb dX5_readPerson_137 (by decide) ?_
            refine lv_iload_n hx hb dX5_readPerson_138 rfl (lv_at hl 4 rfl) ?_
            have qc0 : (0 : Int32).toInt = 0 := by decide
            have hPc := (rgP11_d56c163 hP)
            have hKc := (rgK7_d4890ae hK)
            have hDc := (rgD11_83208e9 hD)
            have hFc := freeW hDc hS hA
            refine va_callv (va_runV (As := [.long r12, .int 0, .int a1_0]) (rest := []) ⟨hx, hb, hml, hown, hts⟩ (k_X5_addName l dC dI g H.size (a0) (r12) (0) (a1_0) (a0_0) (a0_1) (a0_2) (a0_3) (a0_4) (za0_5_81) (a0_1_c) (a0_1_f) (a0_2_c) (a0_2_f) (a0_3_c) (a0_3_f) (by omega) (by assumption) (by omega)) (cwV 3 hts (gwV qw_198 qw_199 qw_200 qw_100 qw_197) rfl rfl rfl (by decide +kernel) ⟨Nat.le_of_ble_eq_true rfl, Nat.le_of_ble_eq_true rfl⟩) ⟨fun a U g9 mk q => ⟨q.1, q.2.1, q.2.2.1, va_K.moved (u := U) (U := U.calling g9 mk a) (Vm.Alike.refl U.vm) q.2.2.2.1, q.2.2.2.2.1, Ev.bl q.2.2.2.2.2⟩, va_recv hK hP (ci := 4) (q0 := 0) rfl rgL11_6c8bafd, fun U hU hW => ⟨rfl, by rw [hU], atB hU hPc, va_K.moved hW.alike hKc, hDc.weaken (fun _ _ _ _ => trivial), hE.go hS hFc hU hW⟩⟩ rfl rfl hl.1 rfl (lv_room (Nat.le_of_ble_eq_true rfl)) dX5_readPerson_139 ⟨Nat.le_of_ble_eq_true rfl, Nat.le_of_ble_eq_true rfl⟩) hS (fun q _ h => hFc q h) hFc (fun u94 t H1 locs ht hvm h_u94 hB hz1 hk1 hS => ?_)
            obtain ⟨za0_4_96, za0_1_f_97, za0_2_f_98, za0_3_f_99, hF100, hF101, hP1, hK1, hD1⟩ := hB
            have hK1 := va_K.moved hvm.symm hK1
            have hJ9 := rgJ11_6c2858c hP hD hk1 hFc (atH ht hP1) hD1
            clear hP hD hPc hKc hDc hFc hP1 hD1 hk1 hz1
            obtain ⟨hP, hD⟩ := hJ9
            clear hK1
            generalize H1 = H at hP hS ⊢
            refine W.widen (k := 0) (n := 0) (Nat.le_of_ble_eq_true rfl) (Nat.le_of_ble_eq_true rfl) ?_
            refine W.widen (k := 0) (n := 0) (Nat.le_of_ble_eq_true rfl) (Nat.le_of_ble_eq_true rfl) ?_
            have hP9 := hP
            have hD9 := hD
            have hK9 := (rgK7_1b59772 hK)
            have hf9_0 : (0 ≤ za0_4_96.toInt ∧ za0_4_96.toInt ≤ 36) := by omega
            have hf9_1 : (0 ≤ za0_0_3_82.toInt ∧ za0_0_3_82.toInt ≤ 1000) := by omega
            have hf9_2 : (0 ≤ za0_0_5_84.toInt ∧ za0_0_5_84.toInt ≤ 1000) := by omega
            have hf9_3 : (0 ≤ x93.toInt ∧ x93.toInt ≤ 8) := by omega
            have hf9_4 : (NOk za0_2_f_98 za0_3_f_99 za0_4_96) := by assumption
            exact W.vret hx hb hr (fun t ht hW => ⟨⟨(), rfl, trivial, za0_4_96, za0_5_81, za0_0_3_82, za0_0_4_83, za0_0_5_84, za0_0_6_85, za0_0_7_86, za0_1_f_97, za0_2_f_98, za0_3_f_99, x93, y91, y92, hf9_0, hf9_1, hf9_2, hf9_3, hf9_4, atB ht hP9, va_K.moved hW.alike hK9, hD9⟩, hS.F ht⟩) hS.2.2 dX5_readPerson_142
        · have c84_78 : ¬ ((-1) ≤ r68.toInt) := mt (cv_le (by decide) rfl).mpr c84_78
          refine lv_aload_n hx hb dX5_readPerson_87 rfl (lv_at hl 5 rfl) ?_
          refine lv_iconst (v := 4) hx hb dX5_readPerson_88 (by decide) ?_
          refine lv_iload hx hb dX5_readPerson_89 (lv_at hl 1 rfl) ?_
          have qc4 : (4 : Int32).toInt = 4 := by decide
          have hPc := (rgP11_d67a011 hP)
          have hKc := (rgK7_1b59772 hK)
          have hDc := (rgD11_477d17b hD)
          have hFc := freeW hDc hS hA
          refine va_callv (va_runV (As := [.int 4, .int za0_0_5_37]) (rest := []) ⟨hx, hb, hml, hown, hts⟩ (k_X5_fail l dC dI g H.size (a0) (4) (za0_0_5_37) (a0_0) (a0_1) (a0_2) (a0_3) (a0_4) (za0_5_69) (by omega) (by omega) (by omega)) (cwV 2 hts (gwV qw_105 qw_106 qw_107 qw_100 qw_104) rfl rfl rfl (by decide +kernel) ⟨Nat.le_of_ble_eq_true rfl, Nat.le_of_ble_eq_true rfl⟩) ⟨fun a U g9 mk q => ⟨q.1, q.2.1, q.2.2.1, va_K.moved (u := U) (U := U.calling g9 mk a) (Vm.Alike.refl U.vm) q.2.2.2.1, q.2.2.2.2.1, Ev.bl q.2.2.2.2.2⟩, va_recv hK hP (ci := 4) (q0 := 0) rfl rgL11_6c8bafd, fun U hU hW => ⟨rfl, by rw [hU], atB hU hPc, va_K.moved hW.alike hKc, hDc.weaken (fun _ _ _ _ => trivial), hE.go hS hFc hU hW⟩⟩ rfl rfl hl.1 rfl (lv_room (Nat.le_of_ble_eq_true rfl)) dX5_readPerson_91 ⟨Nat.le_of_ble_eq_true rfl, Nat.le_of_ble_eq_true rfl⟩) hS (fun q _ h => hFc q h) hFc (fun u102 t H1 locs ht hvm h_u102 hB hz1 hk1 hS => ?_)
          obtain ⟨za0_5_104, hF105, hP1, hK1, hD1⟩ := hB
          have hK1 := va_K.moved hvm.symm hK1
          have hJ9 := rgJ11_332d6be hP hD hk1 hFc (atH ht hP1) hD1
          clear hP hD hPc hKc hDc hFc hP1 hD1 hk1 hz1
          obtain ⟨hP, hD⟩ := hJ9
          clear hK1
          generalize H1 = H at hP hS ⊢
          refine W.widen (k := 0) (n := 0) (Nat.le_of_ble_eq_true rfl) (Nat.le_of_ble_eq_true rfl) ?_
          refine lv_aload_n hx hb dX5_readPerson_94 rfl (lv_at hl 5 rfl) ?_
          refine lv_bipush (v := 14) hx hb dX5_readPerson_95 (by decide) ?_
          have qc14 : (14 : Int32).toInt = 14 := by decide
          have hPc := (rgP11_f758a06 hP)
          have hKc := (rgK7_1f732e3 hK)
          have hDc := (rgD11_6eb49fc hD)
          have hFc := freeW hDc hS hA
          refine va_callv (va_runV (As := [.int 14]) (rest := []) ⟨hx, hb, hml, hown, hts⟩ (k_X5_pass l dC dI g H.size (a0) (14) (a0_0) (a0_1) (a0_2) (a0_3) (a0_4) (za0_5_104) (a0_0_0) (a0_0_1) (a0_0_2) (za0_0_3_70) (za0_0_4_71) (za0_0_5_72) (za0_0_6_73) (za0_0_7_74) (a0_0_0_c) (a0_0_0_f) (a0_0_1_c) (a0_0_1_f) (by omega) (by omega) (by omega) (by omega)) (cwV 1 hts (gwV qw_194 qw_195 qw_196 qw_100 qw_193) rfl rfl rfl (by decide +kernel) ⟨Nat.le_of_ble_eq_true rfl, Nat.le_of_ble_eq_true rfl⟩) ⟨fun a U g9 mk q => ⟨q.1, q.2.1, q.2.2.1, va_K.moved (u := U) (U := U.calling g9 mk a) (Vm.Alike.refl U.vm) q.2.2.2.1, q.2.2.2.2.1, Ev.bl q.2.2.2.2.2⟩, va_recv hK hP (ci := 4) (q0 := 0) rfl rgL11_6c8bafd, fun U hU hW => ⟨rfl, by rw [hU], atB hU hPc, va_K.moved hW.alike hKc, hDc.weaken (fun _ _ _ _ => trivial), hE.go hS hFc hU hW⟩⟩ rfl rfl hl.1 rfl (lv_room (Nat.le_of_ble_eq_true rfl)) dX5_readPerson_97 ⟨Nat.le_of_ble_eq_true rfl, Nat.le_of_ble_eq_true rfl⟩) hS (fun q _ h => hFc q h) hFc (fun u106 t H1 locs ht hvm h_u106 hB hz1 hk1 hS => ?_)
          obtain ⟨za0_5_108, za0_0_3_109, za0_0_4_110, za0_0_5_111, za0_0_6_112, za0_0_7_113, hF114, hF115, hF116, hP1, hK1, hD1⟩ := hB
          have hK1 := va_K.moved hvm.symm hK1
          have hJ9 := rgJ11_cdaeafa hP hD hk1 hFc (atH ht hP1) hD1
          clear hP hD hPc hKc hDc hFc hP1 hD1 hk1 hz1
          obtain ⟨hP, hD⟩ := hJ9
          clear hK1
          generalize H1 = H at hP hS ⊢
          refine W.widen (k := 0) (n := 0) (Nat.le_of_ble_eq_true rfl) (Nat.le_of_ble_eq_true rfl) ?_
          refine lv_aload_n hx hb dX5_readPerson_100 rfl (lv_at hl 5 rfl) ?_
          refine va_get (D := (dC, dI)) (ci := 4) (v := .int za0_5_108) (C := RX5) (T := TX5) (N := 6) hx hb hts inlX5 hown hK hP 0 rgL11_6c8bafd rfl 5 (by decide) (hts (.fieldLink RX5 41 "ClosedUntil$TextReader" "fault" "I") qw_97) (fun _ h9 => h9) rfl dX5_readPerson_101 ?_
          refine lv_iconst (v := (-1)) hx hb dX5_readPerson_104 (by decide) ?_
          refine lv_icmp_ne (tgt := 142) hx hb dX5_readPerson_105 (by decide) (fun c105_117 => ?_) (fun c105_117 => ?_)
          · have c105_117 : ¬ (za0_5_108.toInt = (-1)) := mt (cv_eq rfl (by decide)).mpr c105_117
            refine W.widen (k := 0) (n := 0) (Nat.le_of_ble_eq_true rfl) (Nat.le_of_ble_eq_true rfl) ?_
            have hP9 := hP
            have hD9 := hD
            have hK9 := (rgK7_1b59772 hK)
            have hf9_0 : (0 ≤ a0_4.toInt ∧ a0_4.toInt ≤ 36) := by omega
            have hf9_1 : (0 ≤ za0_0_3_109.toInt ∧ za0_0_3_109.toInt ≤ 1000) := by omega
            have hf9_2 : (0 ≤ za0_0_5_111.toInt ∧ za0_0_5_111.toInt ≤ 1000) := by omega
            have hf9_3 : (0 ≤ a1_0.toInt ∧ a1_0.toInt ≤ 8) := by omega
            have hf9_4 : (NOk a0_2_f a0_3_f a0_4) := by assumption
            exact W.vret hx hb hr (fun t ht hW => ⟨⟨(), rfl, trivial, a0_4, za0_5_108, za0_0_3_109, za0_0_4_110, za0_0_5_111, za0_0_6_112, za0_0_7_113, a0_1_f, a0_2_f, a0_3_f, a1_0, a1_1_f, a2_1_f, hf9_0, hf9_1, hf9_2, hf9_3, hf9_4, atB ht hP9, va_K.moved hW.alike hK9, hD9⟩, hS.F ht⟩) hS.2.2 dX5_readPerson_142
          · have c105_117 : za0_5_108.toInt = (-1) := (cv_eq rfl (by decide)).mp c105_117
            refine lv_aload_n hx hb dX5_readPerson_108 rfl (lv_at hl 6 rfl) ?_
            refine va_getN (D := (dC, dI)) (ci := 0) (v := .ref a1_1) (C := RX1) (T := TX1) (N := 14) hx hb hts inlX1 hown hK hP 7 rgL11_9734e9c rfl 1 (by decide) (va_Nw.use rfl (nf_28 hN)) (fun _ h9 => h9) rfl dX5_readPerson_109 ?_
            refine lv_iload_n hx hb dX5_readPerson_112 rfl (lv_at hl 4 rfl) ?_
            refine lv_iload hx hb dX5_readPerson_113 (lv_at hl 2 rfl) ?_
            refine va_iast hx hb hK hP hD hS 8 5 rgL11_13b73f1 rgT7_3ac7fec (vinI (by omega) (by omega)) dX5_readPerson_115 (fun H locs hP9 hD9 hS9 => ?_)
            obtain ⟨y118, e_y118⟩ : ∃ y, (upd a1_1_f a1_0.toNatClampNeg ((-1))) = y := ⟨_, rfl⟩
            clear hP hD hS
            obtain ⟨hP, hD⟩ := rgS11_cf10d17 (e := (a1_1, .inl (a1_1_c, 8, .inl y118))) hP9 hD9 (congrArg (fun z9 => (((a1_1, .inl (a1_1_c, 8, .inl z9)) : Nat × va_E))) e_y118)
            have hS := hS9; clear hP9 hD9 hS9
            refine lv_aload_n hx hb dX5_readPerson_116 rfl (lv_at hl 7 rfl) ?_
            refine va_getN (D := (dC, dI)) (ci := 2) (v := .ref a2_1) (C := RX3) (T := TX3) (N := 6) hx hb hts inlX3 hown hK hP 9 rgL11_6a66537 rfl 1 (by decide) (va_Nw.use rfl (nf_15 hN)) (fun _ h9 => h9) rfl dX5_readPerson_117 ?_
            refine lv_iload_n hx hb dX5_readPerson_120 rfl (lv_at hl 4 rfl) ?_
            refine lv_iload hx hb dX5_readPerson_121 (lv_at hl 0 rfl) ?_
            refine va_iast hx hb hK hP hD hS 10 6 rgL11_9a1600d rgT7_aa56713 (vinI (by omega) (by omega)) dX5_readPerson_123 (fun H locs hP9 hD9 hS9 => ?_)
            obtain ⟨y119, e_y119⟩ : ∃ y, (upd a2_1_f a1_0.toNatClampNeg r68) = y := ⟨_, rfl⟩
            clear hP hD hS
            obtain ⟨hP, hD⟩ := rgS11_d782f99 (e := (a2_1, .inl (a2_1_c, 8, .inl y119))) hP9 hD9 (congrArg (fun z9 => (((a2_1, .inl (a2_1_c, 8, .inl z9)) : Nat × va_E))) e_y119)
            have hS := hS9; clear hP9 hD9 hS9
            refine lv_aload_n hx hb dX5_readPerson_124 rfl (lv_at hl 6 rfl) ?_
            refine lv_dup hx hb dX5_readPerson_125 rfl ?_
            refine va_getN (D := (dC, dI)) (ci := 0) (v := .int a1_0) (C := RX1) (T := TX1) (N := 14) hx hb hts inlX1 hown hK hP 7 rgL11_9734e9c rfl 0 (by decide) (va_Nw.use rfl (nf_26 hN)) (fun _ h9 => h9) rfl dX5_readPerson_126 ?_
            refine lv_iconst (v := 1) hx hb dX5_readPerson_129 (by decide) ?_
            refine lv_iadd hx hb dX5_readPerson_130 ?_
            refine lv_topi (fun x120 e_x120 => ?_)
            try have e_x120 := ti_add e_x120 rfl (show (1 : Int32).toInt = 1 by decide) (by omega)
            refine va_putN (D := (dC, dI)) (ci := 0) (v := .int x120) (ty := .int) (C := RX1) (T := TX1) (N := 14) hx hb hts inlX1 tyX1 tyX1_ok nmX1 hown hK hP hD hS 7 rgL11_9734e9c rfl 0 (by decide) (va_Nw.use rfl (nf_26 hN)) (fun _ h9 => h9) rfl (by decide +kernel) rfl rfl (Nat.le_of_ble_eq_true rfl) dX5_readPerson_131 (fun H locs hP9 hD9 hS9 => ?_)
            clear hP hD hS
            obtain ⟨hP, hD⟩ := rgS11_2ed6a70 (e := (a1, .inr (0, [.int x120, .ref a1_1, .int a1_2, .ref a1_3, .int a1_4, .ref a1_5, .ref a1_6, .ref a1_7, .int a1_8, .ref a1_9, .ref a1_10, .ref a1_11, .ref a1_12, .ref a1_13]))) hP9 hD9 rfl
            have hS := hS9; clear hP9 hD9 hS9
            refine lv_aload_n hx hb dX5_readPerson_134 rfl (lv_at hl 5 rfl) ?_
            refine lv_lload hx hb dX5_readPerson_135 (lv_at hl 3 rfl) ?_
            refine lv_iconst (v := 0) hx hb dX5_readPerson_137 (by decide) ?_
            refine lv_iload_n hx hb dX5_readPerson_138 rfl (lv_at hl 4 rfl) ?_
            have qc0 : (0 : Int32).toInt = 0 := by decide
            have hPc := (rgP11_d56c163 hP)
            have hKc := (rgK7_d4890ae hK)
            have hDc := (rgD11_83208e9 hD)
            have hFc := freeW hDc hS hA
            refine va_callv (va_runV (As := [.long r12, .int 0, .int a1_0]) (rest := []) ⟨hx, hb, hml, hown, hts⟩ (k_X5_addName l dC dI g H.size (a0) (r12) (0) (a1_0) (a0_0) (a0_1) (a0_2) (a0_3) (a0_4) (za0_5_108) (a0_1_c) (a0_1_f) (a0_2_c) (a0_2_f) (a0_3_c) (a0_3_f) (by omega) (by assumption) (by omega)) (cwV 3 hts (gwV qw_198 qw_199 qw_200 qw_100 qw_197) rfl rfl rfl (by decide +kernel) ⟨Nat.le_of_ble_eq_true rfl, Nat.le_of_ble_eq_true rfl⟩) ⟨fun a U g9 mk q => ⟨q.1, q.2.1, q.2.2.1, va_K.moved (u := U) (U := U.calling g9 mk a) (Vm.Alike.refl U.vm) q.2.2.2.1, q.2.2.2.2.1, Ev.bl q.2.2.2.2.2⟩, va_recv hK hP (ci := 4) (q0 := 0) rfl rgL11_6c8bafd, fun U hU hW => ⟨rfl, by rw [hU], atB hU hPc, va_K.moved hW.alike hKc, hDc.weaken (fun _ _ _ _ => trivial), hE.go hS hFc hU hW⟩⟩ rfl rfl hl.1 rfl (lv_room (Nat.le_of_ble_eq_true rfl)) dX5_readPerson_139 ⟨Nat.le_of_ble_eq_true rfl, Nat.le_of_ble_eq_true rfl⟩) hS (fun q _ h => hFc q h) hFc (fun u121 t H1 locs ht hvm h_u121 hB hz1 hk1 hS => ?_)
            obtain ⟨za0_4_123, za0_1_f_124, za0_2_f_125, za0_3_f_126, hF127, hF128, hP1, hK1, hD1⟩ := hB
            have hK1 := va_K.moved hvm.symm hK1
            have hJ9 := rgJ11_6c2858c hP hD hk1 hFc (atH ht hP1) hD1
            clear hP hD hPc hKc hDc hFc hP1 hD1 hk1 hz1
            obtain ⟨hP, hD⟩ := hJ9
            clear hK1
            generalize H1 = H at hP hS ⊢
            refine W.widen (k := 0) (n := 0) (Nat.le_of_ble_eq_true rfl) (Nat.le_of_ble_eq_true rfl) ?_
            refine W.widen (k := 0) (n := 0) (Nat.le_of_ble_eq_true rfl) (Nat.le_of_ble_eq_true rfl) ?_
            have hP9 := hP
            have hD9 := hD
            have hK9 := (rgK7_1b59772 hK)
            have hf9_0 : (0 ≤ za0_4_123.toInt ∧ za0_4_123.toInt ≤ 36) := by omega
            have hf9_1 : (0 ≤ za0_0_3_109.toInt ∧ za0_0_3_109.toInt ≤ 1000) := by omega
            have hf9_2 : (0 ≤ za0_0_5_111.toInt ∧ za0_0_5_111.toInt ≤ 1000) := by omega
            have hf9_3 : (0 ≤ x120.toInt ∧ x120.toInt ≤ 8) := by omega
            have hf9_4 : (NOk za0_2_f_125 za0_3_f_126 za0_4_123) := by assumption
            exact W.vret hx hb hr (fun t ht hW => ⟨⟨(), rfl, trivial, za0_4_123, za0_5_108, za0_0_3_109, za0_0_4_110, za0_0_5_111, za0_0_6_112, za0_0_7_113, za0_1_f_124, za0_2_f_125, za0_3_f_126, x120, y118, y119, hf9_0, hf9_1, hf9_2, hf9_3, hf9_4, atB ht hP9, va_K.moved hW.alike hK9, hD9⟩, hS.F ht⟩) hS.2.2 dX5_readPerson_142
    · have c45_32 : ¬ (r23.toInt = 0) := mt (cv_eq rfl (by decide)).mpr c45_32
      refine lv_aload_n hx hb dX5_readPerson_48 rfl (lv_at hl 3 rfl) ?_
      have hPc := (rgP11_f758a06 hP)
      have hKc := (rgK7_1f732e3 hK)
      have hDc := (rgD11_6eb49fc hD)
      have hFc := freeW hDc hS hA
      refine va_calli (va_runV (As := []) (rest := []) ⟨hx, hb, hml, hown, hts⟩ (k_X5_readDate l dC dI g H.size (a0) (a0_0) (a0_1) (a0_2) (a0_3) (a0_4) (za0_5_13) (a0_0_0) (a0_0_1) (a0_0_2) (za0_0_3_24) (za0_0_4_25) (za0_0_5_26) (za0_0_6_27) (za0_0_7_28) (a0_0_0_c) (a0_0_0_f) (a0_0_1_c) (a0_0_1_f) (by omega) (by omega) (by omega) (by omega)) (cwV 0 hts (gwV qw_202 qw_203 qw_204 qw_100 qw_201) rfl rfl rfl (by decide +kernel) ⟨Nat.le_of_ble_eq_true rfl, Nat.le_of_ble_eq_true rfl⟩) ⟨fun a U g9 mk q => ⟨q.1, q.2.1, q.2.2.1, va_K.moved (u := U) (U := U.calling g9 mk a) (Vm.Alike.refl U.vm) q.2.2.2.1, q.2.2.2.2.1, Ev.bl q.2.2.2.2.2⟩, va_recv hK hP (ci := 4) (q0 := 0) rfl rgL11_6c8bafd, fun U hU hW => ⟨rfl, by rw [hU], atB hU hPc, va_K.moved hW.alike hKc, hDc.weaken (fun _ _ _ _ => trivial), hE.go hS hFc hU hW⟩⟩ rfl rfl hl.1 rfl (lv_room (Nat.le_of_ble_eq_true rfl)) dX5_readPerson_49 ⟨Nat.le_of_ble_eq_true rfl, Nat.le_of_ble_eq_true rfl⟩) hS (fun q _ h => hFc q h) hFc (fun r130 u129 t H1 locs ht hvm h_u129 hB hz1 hk1 hS => ?_)
      obtain ⟨za0_5_131, za0_0_3_132, za0_0_4_133, za0_0_5_134, za0_0_6_135, za0_0_7_136, hF137, hF138, hF139, hP1, hK1, hD1⟩ := hB
      have hK1 := va_K.moved hvm.symm hK1
      have hJ9 := rgJ11_cdaeafa hP hD hk1 hFc (atH ht hP1) hD1
      clear hP hD hPc hKc hDc hFc hP1 hD1 hk1 hz1
      obtain ⟨hP, hD⟩ := hJ9
      clear hK1
      generalize H1 = H at hP hS ⊢
      refine W.widen (k := 0) (n := 0) (Nat.le_of_ble_eq_true rfl) (Nat.le_of_ble_eq_true rfl) ?_
      have h_r130 := congrArg Int32.toInt h_u129
      have b_r130 := i32b r130
      refine lv_istore (lv' := [(6, .int r130), (4, .long r12), (3, .int a1_0), (0, .ref a0), (1, .ref a1), (2, .ref a2)]) hx hb dX5_readPerson_52 hl (by decide) rfl (fun ls hl => ?_)
      refine lv_iconst (v := (-1)) hx hb dX5_readPerson_54 (by decide) ?_
      refine lv_istore (lv' := [(7, .int (-1)), (6, .int r130), (4, .long r12), (3, .int a1_0), (0, .ref a0), (1, .ref a1), (2, .ref a2)]) hx hb dX5_readPerson_55 hl (by decide) rfl (fun ls hl => ?_)
      refine lv_aload_n hx hb dX5_readPerson_57 rfl (lv_at hl 4 rfl) ?_
      refine lv_iconst (v := 2) hx hb dX5_readPerson_58 (by decide) ?_
      have qc2 : (2 : Int32).toInt = 2 := by decide
      have hPc := (rgP11_f758a06 hP)
      have hKc := (rgK7_1f732e3 hK)
      have hDc := (rgD11_6eb49fc hD)
      have hFc := freeW hDc hS hA
      refine va_calli (va_runV (As := [.int 2]) (rest := []) ⟨hx, hb, hml, hown, hts⟩ (k_X5_passes l dC dI g H.size (a0) (2) (a0_0) (a0_1) (a0_2) (a0_3) (a0_4) (za0_5_131) (a0_0_0) (a0_0_1) (a0_0_2) (za0_0_3_132) (za0_0_4_133) (za0_0_5_134) (za0_0_6_135) (za0_0_7_136) (a0_0_0_c) (a0_0_0_f) (a0_0_1_c) (a0_0_1_f) (by omega) (by omega) (by omega) (by omega)) (cwV 1 hts (gwV qw_101 qw_102 qw_103 qw_100 qw_99) rfl rfl rfl (by decide +kernel) ⟨Nat.le_of_ble_eq_true rfl, Nat.le_of_ble_eq_true rfl⟩) ⟨fun a U g9 mk q => ⟨q.1, q.2.1, q.2.2.1, va_K.moved (u := U) (U := U.calling g9 mk a) (Vm.Alike.refl U.vm) q.2.2.2.1, q.2.2.2.2.1, Ev.bl q.2.2.2.2.2⟩, va_recv hK hP (ci := 4) (q0 := 0) rfl rgL11_6c8bafd, fun U hU hW => ⟨rfl, by rw [hU], atB hU hPc, va_K.moved hW.alike hKc, hDc.weaken (fun _ _ _ _ => trivial), hE.go hS hFc hU hW⟩⟩ rfl rfl hl.1 rfl (lv_room (Nat.le_of_ble_eq_true rfl)) dX5_readPerson_59 ⟨Nat.le_of_ble_eq_true rfl, Nat.le_of_ble_eq_true rfl⟩) hS (fun q _ h => hFc q h) hFc (fun r141 u140 t H1 locs ht hvm h_u140 hB hz1 hk1 hS => ?_)
      obtain ⟨za0_0_3_142, za0_0_4_143, za0_0_5_144, za0_0_6_145, za0_0_7_146, hF147, hF148, hF149, hP1, hK1, hD1⟩ := hB
      have hK1 := va_K.moved hvm.symm hK1
      have hJ9 := rgJ11_cdaeafa hP hD hk1 hFc (atH ht hP1) hD1
      clear hP hD hPc hKc hDc hFc hP1 hD1 hk1 hz1
      obtain ⟨hP, hD⟩ := hJ9
      clear hK1
      generalize H1 = H at hP hS ⊢
      refine W.widen (k := 0) (n := 0) (Nat.le_of_ble_eq_true rfl) (Nat.le_of_ble_eq_true rfl) ?_
      have h_r141 := congrArg Int32.toInt h_u140
      have hz_r141 : r141 = 0 ∨ r141 = 1 := h_u140 ▸ hF149
      have b_r141 := z01 hz_r141
      refine lv_if_eq (tgt := 94) hx hb dX5_readPerson_62 (by decide) (fun c62_150 => ?_) (fun c62_150 => ?_)
      · have c62_150 : r141.toInt = 0 := (cv_eq rfl (by decide)).mp c62_150
        refine lv_aload_n hx hb dX5_readPerson_94 rfl (lv_at hl 4 rfl) ?_
        refine lv_bipush (v := 14) hx hb dX5_readPerson_95 (by decide) ?_
        have qc14 : (14 : Int32).toInt = 14 := by decide
        have hPc := (rgP11_f758a06 hP)
        have hKc := (rgK7_1f732e3 hK)
        have hDc := (rgD11_6eb49fc hD)
        have hFc := freeW hDc hS hA
        refine va_callv (va_runV (As := [.int 14]) (rest := []) ⟨hx, hb, hml, hown, hts⟩ (k_X5_pass l dC dI g H.size (a0) (14) (a0_0) (a0_1) (a0_2) (a0_3) (a0_4) (za0_5_131) (a0_0_0) (a0_0_1) (a0_0_2) (za0_0_3_142) (za0_0_4_143) (za0_0_5_144) (za0_0_6_145) (za0_0_7_146) (a0_0_0_c) (a0_0_0_f) (a0_0_1_c) (a0_0_1_f) (by omega) (by omega) (by omega) (by omega)) (cwV 1 hts (gwV qw_194 qw_195 qw_196 qw_100 qw_193) rfl rfl rfl (by decide +kernel) ⟨Nat.le_of_ble_eq_true rfl, Nat.le_of_ble_eq_true rfl⟩) ⟨fun a U g9 mk q => ⟨q.1, q.2.1, q.2.2.1, va_K.moved (u := U) (U := U.calling g9 mk a) (Vm.Alike.refl U.vm) q.2.2.2.1, q.2.2.2.2.1, Ev.bl q.2.2.2.2.2⟩, va_recv hK hP (ci := 4) (q0 := 0) rfl rgL11_6c8bafd, fun U hU hW => ⟨rfl, by rw [hU], atB hU hPc, va_K.moved hW.alike hKc, hDc.weaken (fun _ _ _ _ => trivial), hE.go hS hFc hU hW⟩⟩ rfl rfl hl.1 rfl (lv_room (Nat.le_of_ble_eq_true rfl)) dX5_readPerson_97 ⟨Nat.le_of_ble_eq_true rfl, Nat.le_of_ble_eq_true rfl⟩) hS (fun q _ h => hFc q h) hFc (fun u151 t H1 locs ht hvm h_u151 hB hz1 hk1 hS => ?_)
        obtain ⟨za0_5_153, za0_0_3_154, za0_0_4_155, za0_0_5_156, za0_0_6_157, za0_0_7_158, hF159, hF160, hF161, hP1, hK1, hD1⟩ := hB
        have hK1 := va_K.moved hvm.symm hK1
        have hJ9 := rgJ11_cdaeafa hP hD hk1 hFc (atH ht hP1) hD1
        clear hP hD hPc hKc hDc hFc hP1 hD1 hk1 hz1
        obtain ⟨hP, hD⟩ := hJ9
        clear hK1
        generalize H1 = H at hP hS ⊢
        refine W.widen (k := 0) (n := 0) (Nat.le_of_ble_eq_true rfl) (Nat.le_of_ble_eq_true rfl) ?_
        refine lv_aload_n hx hb dX5_readPerson_100 rfl (lv_at hl 4 rfl) ?_
        refine va_get (D := (dC, dI)) (ci := 4) (v := .int za0_5_153) (C := RX5) (T := TX5) (N := 6) hx hb hts inlX5 hown hK hP 0 rgL11_6c8bafd rfl 5 (by decide) (hts (.fieldLink RX5 41 "ClosedUntil$TextReader" "fault" "I") qw_97) (fun _ h9 => h9) rfl dX5_readPerson_101 ?_
        refine lv_iconst (v := (-1)) hx hb dX5_readPerson_104 (by decide) ?_
        refine lv_icmp_ne (tgt := 142) hx hb dX5_readPerson_105 (by decide) (fun c105_162 => ?_) (fun c105_162 => ?_)
        · have c105_162 : ¬ (za0_5_153.toInt = (-1)) := mt (cv_eq rfl (by decide)).mpr c105_162
          refine W.widen (k := 0) (n := 0) (Nat.le_of_ble_eq_true rfl) (Nat.le_of_ble_eq_true rfl) ?_
          have hP9 := hP
          have hD9 := hD
          have hK9 := (rgK7_1b59772 hK)
          have hf9_0 : (0 ≤ a0_4.toInt ∧ a0_4.toInt ≤ 36) := by omega
          have hf9_1 : (0 ≤ za0_0_3_154.toInt ∧ za0_0_3_154.toInt ≤ 1000) := by omega
          have hf9_2 : (0 ≤ za0_0_5_156.toInt ∧ za0_0_5_156.toInt ≤ 1000) := by omega
          have hf9_3 : (0 ≤ a1_0.toInt ∧ a1_0.toInt ≤ 8) := by omega
          have hf9_4 : (NOk a0_2_f a0_3_f a0_4) := by assumption
          exact W.vret hx hb hr (fun t ht hW => ⟨⟨(), rfl, trivial, a0_4, za0_5_153, za0_0_3_154, za0_0_4_155, za0_0_5_156, za0_0_6_157, za0_0_7_158, a0_1_f, a0_2_f, a0_3_f, a1_0, a1_1_f, a2_1_f, hf9_0, hf9_1, hf9_2, hf9_3, hf9_4, atB ht hP9, va_K.moved hW.alike hK9, hD9⟩, hS.F ht⟩) hS.2.2 dX5_readPerson_142
        · have c105_162 : za0_5_153.toInt = (-1) := (cv_eq rfl (by decide)).mp c105_162
          refine lv_aload_n hx hb dX5_readPerson_108 rfl (lv_at hl 5 rfl) ?_
          refine va_getN (D := (dC, dI)) (ci := 0) (v := .ref a1_1) (C := RX1) (T := TX1) (N := 14) hx hb hts inlX1 hown hK hP 7 rgL11_9734e9c rfl 1 (by decide) (va_Nw.use rfl (nf_28 hN)) (fun _ h9 => h9) rfl dX5_readPerson_109 ?_
          refine lv_iload_n hx hb dX5_readPerson_112 rfl (lv_at hl 3 rfl) ?_
          refine lv_iload hx hb dX5_readPerson_113 (lv_at hl 1 rfl) ?_
          refine va_iast hx hb hK hP hD hS 8 5 rgL11_13b73f1 rgT7_3ac7fec (vinI (by omega) (by omega)) dX5_readPerson_115 (fun H locs hP9 hD9 hS9 => ?_)
          obtain ⟨y163, e_y163⟩ : ∃ y, (upd a1_1_f a1_0.toNatClampNeg r130) = y := ⟨_, rfl⟩
          clear hP hD hS
          obtain ⟨hP, hD⟩ := rgS11_cf10d17 (e := (a1_1, .inl (a1_1_c, 8, .inl y163))) hP9 hD9 (congrArg (fun z9 => (((a1_1, .inl (a1_1_c, 8, .inl z9)) : Nat × va_E))) e_y163)
          have hS := hS9; clear hP9 hD9 hS9
          refine lv_aload_n hx hb dX5_readPerson_116 rfl (lv_at hl 6 rfl) ?_
          refine va_getN (D := (dC, dI)) (ci := 2) (v := .ref a2_1) (C := RX3) (T := TX3) (N := 6) hx hb hts inlX3 hown hK hP 9 rgL11_6a66537 rfl 1 (by decide) (va_Nw.use rfl (nf_15 hN)) (fun _ h9 => h9) rfl dX5_readPerson_117 ?_
          refine lv_iload_n hx hb dX5_readPerson_120 rfl (lv_at hl 3 rfl) ?_
          refine lv_iload hx hb dX5_readPerson_121 (lv_at hl 0 rfl) ?_
          refine va_iast hx hb hK hP hD hS 10 6 rgL11_9a1600d rgT7_aa56713 (vinI (by omega) (by omega)) dX5_readPerson_123 (fun H locs hP9 hD9 hS9 => ?_)
          obtain ⟨y164, e_y164⟩ : ∃ y, (upd a2_1_f a1_0.toNatClampNeg ((-1))) = y := ⟨_, rfl⟩
          clear hP hD hS
          obtain ⟨hP, hD⟩ := rgS11_d782f99 (e := (a2_1, .inl (a2_1_c, 8, .inl y164))) hP9 hD9 (congrArg (fun z9 => (((a2_1, .inl (a2_1_c, 8, .inl z9)) : Nat × va_E))) e_y164)
          have hS := hS9; clear hP9 hD9 hS9
          refine lv_aload_n hx hb dX5_readPerson_124 rfl (lv_at hl 5 rfl) ?_
          refine lv_dup hx hb dX5_readPerson_125 rfl ?_
          refine va_getN (D := (dC, dI)) (ci := 0) (v := .int a1_0) (C := RX1) (T := TX1) (N := 14) hx hb hts inlX1 hown hK hP 7 rgL11_9734e9c rfl 0 (by decide) (va_Nw.use rfl (nf_26 hN)) (fun _ h9 => h9) rfl dX5_readPerson_126 ?_
          refine lv_iconst (v := 1) hx hb dX5_readPerson_129 (by decide) ?_
          refine lv_iadd hx hb dX5_readPerson_130 ?_
          refine lv_topi (fun x165 e_x165 => ?_)
          try have e_x165 := ti_add e_x165 rfl (show (1 : Int32).toInt = 1 by decide) (by omega)
          refine va_putN (D := (dC, dI)) (ci := 0) (v := .int x165) (ty := .int) (C := RX1) (T := TX1) (N := 14) hx hb hts inlX1 tyX1 tyX1_ok nmX1 hown hK hP hD hS 7 rgL11_9734e9c rfl 0 (by decide) (va_Nw.use rfl (nf_26 hN)) (fun _ h9 => h9) rfl (by decide +kernel) rfl rfl (Nat.le_of_ble_eq_true rfl) dX5_readPerson_131 (fun H locs hP9 hD9 hS9 => ?_)
          clear hP hD hS
          obtain ⟨hP, hD⟩ := rgS11_2ed6a70 (e := (a1, .inr (0, [.int x165, .ref a1_1, .int a1_2, .ref a1_3, .int a1_4, .ref a1_5, .ref a1_6, .ref a1_7, .int a1_8, .ref a1_9, .ref a1_10, .ref a1_11, .ref a1_12, .ref a1_13]))) hP9 hD9 rfl
          have hS := hS9; clear hP9 hD9 hS9
          refine lv_aload_n hx hb dX5_readPerson_134 rfl (lv_at hl 4 rfl) ?_
          refine lv_lload hx hb dX5_readPerson_135 (lv_at hl 2 rfl) ?_
          refine lv_iconst (v := 0) hx hb dX5_readPerson_137 (by decide) ?_
          refine lv_iload_n hx hb dX5_readPerson_138 rfl (lv_at hl 3 rfl) ?_
          have qc0 : (0 : Int32).toInt = 0 := by decide
          have hPc := (rgP11_d56c163 hP)
          have hKc := (rgK7_d4890ae hK)
          have hDc := (rgD11_83208e9 hD)
          have hFc := freeW hDc hS hA
          refine va_callv (va_runV (As := [.long r12, .int 0, .int a1_0]) (rest := []) ⟨hx, hb, hml, hown, hts⟩ (k_X5_addName l dC dI g H.size (a0) (r12) (0) (a1_0) (a0_0) (a0_1) (a0_2) (a0_3) (a0_4) (za0_5_153) (a0_1_c) (a0_1_f) (a0_2_c) (a0_2_f) (a0_3_c) (a0_3_f) (by omega) (by assumption) (by omega)) (cwV 3 hts (gwV qw_198 qw_199 qw_200 qw_100 qw_197) rfl rfl rfl (by decide +kernel) ⟨Nat.le_of_ble_eq_true rfl, Nat.le_of_ble_eq_true rfl⟩) ⟨fun a U g9 mk q => ⟨q.1, q.2.1, q.2.2.1, va_K.moved (u := U) (U := U.calling g9 mk a) (Vm.Alike.refl U.vm) q.2.2.2.1, q.2.2.2.2.1, Ev.bl q.2.2.2.2.2⟩, va_recv hK hP (ci := 4) (q0 := 0) rfl rgL11_6c8bafd, fun U hU hW => ⟨rfl, by rw [hU], atB hU hPc, va_K.moved hW.alike hKc, hDc.weaken (fun _ _ _ _ => trivial), hE.go hS hFc hU hW⟩⟩ rfl rfl hl.1 rfl (lv_room (Nat.le_of_ble_eq_true rfl)) dX5_readPerson_139 ⟨Nat.le_of_ble_eq_true rfl, Nat.le_of_ble_eq_true rfl⟩) hS (fun q _ h => hFc q h) hFc (fun u166 t H1 locs ht hvm h_u166 hB hz1 hk1 hS => ?_)
          obtain ⟨za0_4_168, za0_1_f_169, za0_2_f_170, za0_3_f_171, hF172, hF173, hP1, hK1, hD1⟩ := hB
          have hK1 := va_K.moved hvm.symm hK1
          have hJ9 := rgJ11_6c2858c hP hD hk1 hFc (atH ht hP1) hD1
          clear hP hD hPc hKc hDc hFc hP1 hD1 hk1 hz1
          obtain ⟨hP, hD⟩ := hJ9
          clear hK1
          generalize H1 = H at hP hS ⊢
          refine W.widen (k := 0) (n := 0) (Nat.le_of_ble_eq_true rfl) (Nat.le_of_ble_eq_true rfl) ?_
          refine W.widen (k := 0) (n := 0) (Nat.le_of_ble_eq_true rfl) (Nat.le_of_ble_eq_true rfl) ?_
          have hP9 := hP
          have hD9 := hD
          have hK9 := (rgK7_1b59772 hK)
          have hf9_0 : (0 ≤ za0_4_168.toInt ∧ za0_4_168.toInt ≤ 36) := by omega
          have hf9_1 : (0 ≤ za0_0_3_154.toInt ∧ za0_0_3_154.toInt ≤ 1000) := by omega
          have hf9_2 : (0 ≤ za0_0_5_156.toInt ∧ za0_0_5_156.toInt ≤ 1000) := by omega
          have hf9_3 : (0 ≤ x165.toInt ∧ x165.toInt ≤ 8) := by omega
          have hf9_4 : (NOk za0_2_f_170 za0_3_f_171 za0_4_168) := by assumption
          exact W.vret hx hb hr (fun t ht hW => ⟨⟨(), rfl, trivial, za0_4_168, za0_5_153, za0_0_3_154, za0_0_4_155, za0_0_5_156, za0_0_6_157, za0_0_7_158, za0_1_f_169, za0_2_f_170, za0_3_f_171, x165, y163, y164, hf9_0, hf9_1, hf9_2, hf9_3, hf9_4, atB ht hP9, va_K.moved hW.alike hK9, hD9⟩, hS.F ht⟩) hS.2.2 dX5_readPerson_142
      · have c62_150 : ¬ (r141.toInt = 0) := mt (cv_eq rfl (by decide)).mpr c62_150
        refine lv_aload_n hx hb dX5_readPerson_65 rfl (lv_at hl 4 rfl) ?_
        refine va_get (D := (dC, dI)) (ci := 4) (v := .ref a0_0) (C := RX5) (T := TX5) (N := 6) hx hb hts inlX5 hown hK hP 0 rgL11_6c8bafd rfl 0 (by decide) (hts (.fieldLink RX5 12 "ClosedUntil$TextReader" "tokens" "LClosedUntil$Tokens;") qw_98) (fun _ h9 => h9) rfl dX5_readPerson_66 ?_
        refine va_getN (D := (dC, dI)) (ci := 6) (v := .int za0_0_5_144) (C := RX7) (T := TX7) (N := 8) hx hb hts inlX7 hown hK hP 1 rgL11_ae006c6 rfl 5 (by decide) (va_Nw.use rfl (nf_3 hN)) (fun _ h9 => h9) rfl dX5_readPerson_69 ?_
        refine lv_istore (lv' := [(8, .int za0_0_5_144), (7, .int (-1)), (6, .int r130), (4, .long r12), (3, .int a1_0), (0, .ref a0), (1, .ref a1), (2, .ref a2)]) hx hb dX5_readPerson_72 hl (by decide) rfl (fun ls hl => ?_)
        refine lv_aload_n hx hb dX5_readPerson_74 rfl (lv_at hl 5 rfl) ?_
        have hPc := (rgP11_f758a06 hP)
        have hKc := (rgK7_1f732e3 hK)
        have hDc := (rgD11_6eb49fc hD)
        have hFc := freeW hDc hS hA
        refine va_calli (va_runV (As := []) (rest := []) ⟨hx, hb, hml, hown, hts⟩ (k_X5_readDate l dC dI g H.size (a0) (a0_0) (a0_1) (a0_2) (a0_3) (a0_4) (za0_5_131) (a0_0_0) (a0_0_1) (a0_0_2) (za0_0_3_142) (za0_0_4_143) (za0_0_5_144) (za0_0_6_145) (za0_0_7_146) (a0_0_0_c) (a0_0_0_f) (a0_0_1_c) (a0_0_1_f) (by omega) (by omega) (by omega) (by omega)) (cwV 0 hts (gwV qw_202 qw_203 qw_204 qw_100 qw_201) rfl rfl rfl (by decide +kernel) ⟨Nat.le_of_ble_eq_true rfl, Nat.le_of_ble_eq_true rfl⟩) ⟨fun a U g9 mk q => ⟨q.1, q.2.1, q.2.2.1, va_K.moved (u := U) (U := U.calling g9 mk a) (Vm.Alike.refl U.vm) q.2.2.2.1, q.2.2.2.2.1, Ev.bl q.2.2.2.2.2⟩, va_recv hK hP (ci := 4) (q0 := 0) rfl rgL11_6c8bafd, fun U hU hW => ⟨rfl, by rw [hU], atB hU hPc, va_K.moved hW.alike hKc, hDc.weaken (fun _ _ _ _ => trivial), hE.go hS hFc hU hW⟩⟩ rfl rfl hl.1 rfl (lv_room (Nat.le_of_ble_eq_true rfl)) dX5_readPerson_75 ⟨Nat.le_of_ble_eq_true rfl, Nat.le_of_ble_eq_true rfl⟩) hS (fun q _ h => hFc q h) hFc (fun r175 u174 t H1 locs ht hvm h_u174 hB hz1 hk1 hS => ?_)
        obtain ⟨za0_5_176, za0_0_3_177, za0_0_4_178, za0_0_5_179, za0_0_6_180, za0_0_7_181, hF182, hF183, hF184, hP1, hK1, hD1⟩ := hB
        have hK1 := va_K.moved hvm.symm hK1
        have hJ9 := rgJ11_cdaeafa hP hD hk1 hFc (atH ht hP1) hD1
        clear hP hD hPc hKc hDc hFc hP1 hD1 hk1 hz1
        obtain ⟨hP, hD⟩ := hJ9
        clear hK1
        generalize H1 = H at hP hS ⊢
        refine W.widen (k := 0) (n := 0) (Nat.le_of_ble_eq_true rfl) (Nat.le_of_ble_eq_true rfl) ?_
        have h_r175 := congrArg Int32.toInt h_u174
        have b_r175 := i32b r175
        refine lv_istore (lv' := [(7, .int r175), (8, .int za0_0_5_144), (6, .int r130), (4, .long r12), (3, .int a1_0), (0, .ref a0), (1, .ref a1), (2, .ref a2)]) hx hb dX5_readPerson_78 hl (by decide) rfl (fun ls hl => ?_)
        refine lv_iload hx hb dX5_readPerson_80 (lv_at hl 0 rfl) ?_
        refine lv_iload hx hb dX5_readPerson_82 (lv_at hl 2 rfl) ?_
        refine lv_icmp_ge (tgt := 94) hx hb dX5_readPerson_84 (by decide) (fun c84_185 => ?_) (fun c84_185 => ?_)
        · have c84_185 : r130.toInt ≤ r175.toInt := (cv_le rfl rfl).mp c84_185
          refine lv_aload_n hx hb dX5_readPerson_94 rfl (lv_at hl 5 rfl) ?_
          refine lv_bipush (v := 14) hx hb dX5_readPerson_95 (by decide) ?_
          have qc14 : (14 : Int32).toInt = 14 := by decide
          have hPc := (rgP11_f758a06 hP)
          have hKc := (rgK7_1f732e3 hK)
          have hDc := (rgD11_6eb49fc hD)
          have hFc := freeW hDc hS hA
          refine va_callv (va_runV (As := [.int 14]) (rest := []) ⟨hx, hb, hml, hown, hts⟩ (k_X5_pass l dC dI g H.size (a0) (14) (a0_0) (a0_1) (a0_2) (a0_3) (a0_4) (za0_5_176) (a0_0_0) (a0_0_1) (a0_0_2) (za0_0_3_177) (za0_0_4_178) (za0_0_5_179) (za0_0_6_180) (za0_0_7_181) (a0_0_0_c) (a0_0_0_f) (a0_0_1_c) (a0_0_1_f) (by omega) (by omega) (by omega) (by omega)) (cwV 1 hts (gwV qw_194 qw_195 qw_196 qw_100 qw_193) rfl rfl rfl (by decide +kernel) ⟨Nat.le_of_ble_eq_true rfl, Nat.le_of_ble_eq_true rfl⟩) ⟨fun a U g9 mk q => ⟨q.1, q.2.1, q.2.2.1, va_K.moved (u := U) (U := U.calling g9 mk a) (Vm.Alike.refl U.vm) q.2.2.2.1, q.2.2.2.2.1, Ev.bl q.2.2.2.2.2⟩, va_recv hK hP (ci := 4) (q0 := 0) rfl rgL11_6c8bafd, fun U hU hW => ⟨rfl, by rw [hU], atB hU hPc, va_K.moved hW.alike hKc, hDc.weaken (fun _ _ _ _ => trivial), hE.go hS hFc hU hW⟩⟩ rfl rfl hl.1 rfl (lv_room (Nat.le_of_ble_eq_true rfl)) dX5_readPerson_97 ⟨Nat.le_of_ble_eq_true rfl, Nat.le_of_ble_eq_true rfl⟩) hS (fun q _ h => hFc q h) hFc (fun u186 t H1 locs ht hvm h_u186 hB hz1 hk1 hS => ?_)
          obtain ⟨za0_5_188, za0_0_3_189, za0_0_4_190, za0_0_5_191, za0_0_6_192, za0_0_7_193, hF194, hF195, hF196, hP1, hK1, hD1⟩ := hB
          have hK1 := va_K.moved hvm.symm hK1
          have hJ9 := rgJ11_cdaeafa hP hD hk1 hFc (atH ht hP1) hD1
          clear hP hD hPc hKc hDc hFc hP1 hD1 hk1 hz1
          obtain ⟨hP, hD⟩ := hJ9
          clear hK1
          generalize H1 = H at hP hS ⊢
          refine W.widen (k := 0) (n := 0) (Nat.le_of_ble_eq_true rfl) (Nat.le_of_ble_eq_true rfl) ?_
          refine lv_aload_n hx hb dX5_readPerson_100 rfl (lv_at hl 5 rfl) ?_
          refine va_get (D := (dC, dI)) (ci := 4) (v := .int za0_5_188) (C := RX5) (T := TX5) (N := 6) hx hb hts inlX5 hown hK hP 0 rgL11_6c8bafd rfl 5 (by decide) (hts (.fieldLink RX5 41 "ClosedUntil$TextReader" "fault" "I") qw_97) (fun _ h9 => h9) rfl dX5_readPerson_101 ?_
          refine lv_iconst (v := (-1)) hx hb dX5_readPerson_104 (by decide) ?_
          refine lv_icmp_ne (tgt := 142) hx hb dX5_readPerson_105 (by decide) (fun c105_197 => ?_) (fun c105_197 => ?_)
          · have c105_197 : ¬ (za0_5_188.toInt = (-1)) := mt (cv_eq rfl (by decide)).mpr c105_197
            refine W.widen (k := 0) (n := 0) (Nat.le_of_ble_eq_true rfl) (Nat.le_of_ble_eq_true rfl) ?_
            have hP9 := hP
            have hD9 := hD
            have hK9 := (rgK7_1b59772 hK)
            have hf9_0 : (0 ≤ a0_4.toInt ∧ a0_4.toInt ≤ 36) := by omega
            have hf9_1 : (0 ≤ za0_0_3_189.toInt ∧ za0_0_3_189.toInt ≤ 1000) := by omega
            have hf9_2 : (0 ≤ za0_0_5_191.toInt ∧ za0_0_5_191.toInt ≤ 1000) := by omega
            have hf9_3 : (0 ≤ a1_0.toInt ∧ a1_0.toInt ≤ 8) := by omega
            have hf9_4 : (NOk a0_2_f a0_3_f a0_4) := by assumption
            exact W.vret hx hb hr (fun t ht hW => ⟨⟨(), rfl, trivial, a0_4, za0_5_188, za0_0_3_189, za0_0_4_190, za0_0_5_191, za0_0_6_192, za0_0_7_193, a0_1_f, a0_2_f, a0_3_f, a1_0, a1_1_f, a2_1_f, hf9_0, hf9_1, hf9_2, hf9_3, hf9_4, atB ht hP9, va_K.moved hW.alike hK9, hD9⟩, hS.F ht⟩) hS.2.2 dX5_readPerson_142
          · have c105_197 : za0_5_188.toInt = (-1) := (cv_eq rfl (by decide)).mp c105_197
            refine lv_aload_n hx hb dX5_readPerson_108 rfl (lv_at hl 6 rfl) ?_
            refine va_getN (D := (dC, dI)) (ci := 0) (v := .ref a1_1) (C := RX1) (T := TX1) (N := 14) hx hb hts inlX1 hown hK hP 7 rgL11_9734e9c rfl 1 (by decide) (va_Nw.use rfl (nf_28 hN)) (fun _ h9 => h9) rfl dX5_readPerson_109 ?_
            refine lv_iload_n hx hb dX5_readPerson_112 rfl (lv_at hl 4 rfl) ?_
            refine lv_iload hx hb dX5_readPerson_113 (lv_at hl 2 rfl) ?_
            refine va_iast hx hb hK hP hD hS 8 5 rgL11_13b73f1 rgT7_3ac7fec (vinI (by omega) (by omega)) dX5_readPerson_115 (fun H locs hP9 hD9 hS9 => ?_)
            obtain ⟨y198, e_y198⟩ : ∃ y, (upd a1_1_f a1_0.toNatClampNeg r130) = y := ⟨_, rfl⟩
            clear hP hD hS
            obtain ⟨hP, hD⟩ := rgS11_cf10d17 (e := (a1_1, .inl (a1_1_c, 8, .inl y198))) hP9 hD9 (congrArg (fun z9 => (((a1_1, .inl (a1_1_c, 8, .inl z9)) : Nat × va_E))) e_y198)
            have hS := hS9; clear hP9 hD9 hS9
            refine lv_aload_n hx hb dX5_readPerson_116 rfl (lv_at hl 7 rfl) ?_
            refine va_getN (D := (dC, dI)) (ci := 2) (v := .ref a2_1) (C := RX3) (T := TX3) (N := 6) hx hb hts inlX3 hown hK hP 9 rgL11_6a66537 rfl 1 (by decide) (va_Nw.use rfl (nf_15 hN)) (fun _ h9 => h9) rfl dX5_readPerson_117 ?_
            refine lv_iload_n hx hb dX5_readPerson_120 rfl (lv_at hl 4 rfl) ?_
            refine lv_iload hx hb dX5_readPerson_121 (lv_at hl 0 rfl) ?_
            refine va_iast hx hb hK hP hD hS 10 6 rgL11_9a1600d rgT7_aa56713 (vinI (by omega) (by omega)) dX5_readPerson_123 (fun H locs hP9 hD9 hS9 => ?_)
            obtain ⟨y199, e_y199⟩ : ∃ y, (upd a2_1_f a1_0.toNatClampNeg r175) = y := ⟨_, rfl⟩
            clear hP hD hS
            obtain ⟨hP, hD⟩ := rgS11_d782f99 (e := (a2_1, .inl (a2_1_c, 8, .inl y199))) hP9 hD9 (congrArg (fun z9 => (((a2_1, .inl (a2_1_c, 8, .inl z9)) : Nat × va_E))) e_y199)
            have hS := hS9; clear hP9 hD9 hS9
            refine lv_aload_n hx hb dX5_readPerson_124 rfl (lv_at hl 6 rfl) ?_
            refine lv_dup hx hb dX5_readPerson_125 rfl ?_
            refine va_getN (D := (dC, dI)) (ci := 0) (v := .int a1_0) (C := RX1) (T := TX1) (N := 14) hx hb hts inlX1 hown hK hP 7 rgL11_9734e9c rfl 0 (by decide) (va_Nw.use rfl (nf_26 hN)) (fun _ h9 => h9) rfl dX5_readPerson_126 ?_
            refine lv_iconst (v := 1) hx hb dX5_readPerson_129 (by decide) ?_
            refine lv_iadd hx hb dX5_readPerson_130 ?_
            refine lv_topi (fun x200 e_x200 => ?_)
            try have e_x200 := ti_add e_x200 rfl (show (1 : Int32).toInt = 1 by decide) (by omega)
            refine va_putN (D := (dC, dI)) (ci := 0) (v := .int x200) (ty := .int) (C := RX1) (T := TX1) (N := 14) hx hb hts inlX1 tyX1 tyX1_ok nmX1 hown hK hP hD hS 7 rgL11_9734e9c rfl 0 (by decide) (va_Nw.use rfl (nf_26 hN)) (fun _ h9 => h9) rfl (by decide +kernel) rfl rfl (Nat.le_of_ble_eq_true rfl) dX5_readPerson_131 (fun H locs hP9 hD9 hS9 => ?_)
            clear hP hD hS
            obtain ⟨hP, hD⟩ := rgS11_2ed6a70 (e := (a1, .inr (0, [.int x200, .ref a1_1, .int a1_2, .ref a1_3, .int a1_4, .ref a1_5, .ref a1_6, .ref a1_7, .int a1_8, .ref a1_9, .ref a1_10, .ref a1_11, .ref a1_12, .ref a1_13]))) hP9 hD9 rfl
            have hS := hS9; clear hP9 hD9 hS9
            refine lv_aload_n hx hb dX5_readPerson_134 rfl (lv_at hl 5 rfl) ?_
            refine lv_lload hx hb dX5_readPerson_135 (lv_at hl 3 rfl) ?_
            refine lv_iconst (v := 0) hx hb dX5_readPerson_137 (by decide) ?_
            refine lv_iload_n hx hb dX5_readPerson_138 rfl (lv_at hl 4 rfl) ?_
            have qc0 : (0 : Int32).toInt = 0 := by decide
            have hPc := (rgP11_d56c163 hP)
            have hKc := (rgK7_d4890ae hK)
            have hDc := (rgD11_83208e9 hD)
            have hFc := freeW hDc hS hA
            refine va_callv (va_runV (As := [.long r12, .int 0, .int a1_0]) (rest := []) ⟨hx, hb, hml, hown, hts⟩ (k_X5_addName l dC dI g H.size (a0) (r12) (0) (a1_0) (a0_0) (a0_1) (a0_2) (a0_3) (a0_4) (za0_5_188) (a0_1_c) (a0_1_f) (a0_2_c) (a0_2_f) (a0_3_c) (a0_3_f) (by omega) (by assumption) (by omega)) (cwV 3 hts (gwV qw_198 qw_199 qw_200 qw_100 qw_197) rfl rfl rfl (by decide +kernel) ⟨Nat.le_of_ble_eq_true rfl, Nat.le_of_ble_eq_true rfl⟩) ⟨fun a U g9 mk q => ⟨q.1, q.2.1, q.2.2.1, va_K.moved (u := U) (U := U.calling g9 mk a) (Vm.Alike.refl U.vm) q.2.2.2.1, q.2.2.2.2.1, Ev.bl q.2.2.2.2.2⟩, va_recv hK hP (ci := 4) (q0 := 0) rfl rgL11_6c8bafd, fun U hU hW => ⟨rfl, by rw [hU], atB hU hPc, va_K.moved hW.alike hKc, hDc.weaken (fun _ _ _ _ => trivial), hE.go hS hFc hU hW⟩⟩ rfl rfl hl.1 rfl (lv_room (Nat.le_of_ble_eq_true rfl)) dX5_readPerson_139 ⟨Nat.le_of_ble_eq_true rfl, Nat.le_of_ble_eq_true rfl⟩) hS (fun q _ h => hFc q h) hFc (fun u201 t H1 locs ht hvm h_u201 hB hz1 hk1 hS => ?_)
            obtain ⟨za0_4_203, za0_1_f_204, za0_2_f_205, za0_3_f_206, hF207, hF208, hP1, hK1, hD1⟩ := hB
            have hK1 := va_K.moved hvm.symm hK1
            have hJ9 := rgJ11_6c2858c hP hD hk1 hFc (atH ht hP1) hD1
            clear hP hD hPc hKc hDc hFc hP1 hD1 hk1 hz1
            obtain ⟨hP, hD⟩ := hJ9
            clear hK1
            generalize H1 = H at hP hS ⊢
            refine W.widen (k := 0) (n := 0) (Nat.le_of_ble_eq_true rfl) (Nat.le_of_ble_eq_true rfl) ?_
            refine W.widen (k := 0) (n := 0) (Nat.le_of_ble_eq_true rfl) (Nat.le_of_ble_eq_true rfl) ?_
            have hP9 := hP
            have hD9 := hD
            have hK9 := (rgK7_1b59772 hK)
            have hf9_0 : (0 ≤ za0_4_203.toInt ∧ za0_4_203.toInt ≤ 36) := by omega
            have hf9_1 : (0 ≤ za0_0_3_189.toInt ∧ za0_0_3_189.toInt ≤ 1000) := by omega
            have hf9_2 : (0 ≤ za0_0_5_191.toInt ∧ za0_0_5_191.toInt ≤ 1000) := by omega
            have hf9_3 : (0 ≤ x200.toInt ∧ x200.toInt ≤ 8) := by omega
            have hf9_4 : (NOk za0_2_f_205 za0_3_f_206 za0_4_203) := by assumption
            exact W.vret hx hb hr (fun t ht hW => ⟨⟨(), rfl, trivial, za0_4_203, za0_5_188, za0_0_3_189, za0_0_4_190, za0_0_5_191, za0_0_6_192, za0_0_7_193, za0_1_f_204, za0_2_f_205, za0_3_f_206, x200, y198, y199, hf9_0, hf9_1, hf9_2, hf9_3, hf9_4, atB ht hP9, va_K.moved hW.alike hK9, hD9⟩, hS.F ht⟩) hS.2.2 dX5_readPerson_142
        · have c84_185 : ¬ (r130.toInt ≤ r175.toInt) := mt (cv_le rfl rfl).mpr c84_185
          refine lv_aload_n hx hb dX5_readPerson_87 rfl (lv_at hl 5 rfl) ?_
          refine lv_iconst (v := 4) hx hb dX5_readPerson_88 (by decide) ?_
          refine lv_iload hx hb dX5_readPerson_89 (lv_at hl 1 rfl) ?_
          have qc4 : (4 : Int32).toInt = 4 := by decide
          have hPc := (rgP11_d67a011 hP)
          have hKc := (rgK7_1b59772 hK)
          have hDc := (rgD11_477d17b hD)
          have hFc := freeW hDc hS hA
          refine va_callv (va_runV (As := [.int 4, .int za0_0_5_144]) (rest := []) ⟨hx, hb, hml, hown, hts⟩ (k_X5_fail l dC dI g H.size (a0) (4) (za0_0_5_144) (a0_0) (a0_1) (a0_2) (a0_3) (a0_4) (za0_5_176) (by omega) (by omega) (by omega)) (cwV 2 hts (gwV qw_105 qw_106 qw_107 qw_100 qw_104) rfl rfl rfl (by decide +kernel) ⟨Nat.le_of_ble_eq_true rfl, Nat.le_of_ble_eq_true rfl⟩) ⟨fun a U g9 mk q => ⟨q.1, q.2.1, q.2.2.1, va_K.moved (u := U) (U := U.calling g9 mk a) (Vm.Alike.refl U.vm) q.2.2.2.1, q.2.2.2.2.1, Ev.bl q.2.2.2.2.2⟩, va_recv hK hP (ci := 4) (q0 := 0) rfl rgL11_6c8bafd, fun U hU hW => ⟨rfl, by rw [hU], atB hU hPc, va_K.moved hW.alike hKc, hDc.weaken (fun _ _ _ _ => trivial), hE.go hS hFc hU hW⟩⟩ rfl rfl hl.1 rfl (lv_room (Nat.le_of_ble_eq_true rfl)) dX5_readPerson_91 ⟨Nat.le_of_ble_eq_true rfl, Nat.le_of_ble_eq_true rfl⟩) hS (fun q _ h => hFc q h) hFc (fun u209 t H1 locs ht hvm h_u209 hB hz1 hk1 hS => ?_)
          obtain ⟨za0_5_211, hF212, hP1, hK1, hD1⟩ := hB
          have hK1 := va_K.moved hvm.symm hK1
          have hJ9 := rgJ11_332d6be hP hD hk1 hFc (atH ht hP1) hD1
          clear hP hD hPc hKc hDc hFc hP1 hD1 hk1 hz1
          obtain ⟨hP, hD⟩ := hJ9
          clear hK1
          generalize H1 = H at hP hS ⊢
          refine W.widen (k := 0) (n := 0) (Nat.le_of_ble_eq_true rfl) (Nat.le_of_ble_eq_true rfl) ?_
          refine lv_aload_n hx hb dX5_readPerson_94 rfl (lv_at hl 5 rfl) ?_
          refine lv_bipush (v := 14) hx hb dX5_readPerson_95 (by decide) ?_
          have qc14 : (14 : Int32).toInt = 14 := by decide
          have hPc := (rgP11_f758a06 hP)
          have hKc := (rgK7_1f732e3 hK)
          have hDc := (rgD11_6eb49fc hD)
          have hFc := freeW hDc hS hA
          refine va_callv (va_runV (As := [.int 14]) (rest := []) ⟨hx, hb, hml, hown, hts⟩ (k_X5_pass l dC dI g H.size (a0) (14) (a0_0) (a0_1) (a0_2) (a0_3) (a0_4) (za0_5_211) (a0_0_0) (a0_0_1) (a0_0_2) (za0_0_3_177) (za0_0_4_178) (za0_0_5_179) (za0_0_6_180) (za0_0_7_181) (a0_0_0_c) (a0_0_0_f) (a0_0_1_c) (a0_0_1_f) (by omega) (by omega) (by omega) (by omega)) (cwV 1 hts (gwV qw_194 qw_195 qw_196 qw_100 qw_193) rfl rfl rfl (by decide +kernel) ⟨Nat.le_of_ble_eq_true rfl, Nat.le_of_ble_eq_true rfl⟩) ⟨fun a U g9 mk q => ⟨q.1, q.2.1, q.2.2.1, va_K.moved (u := U) (U := U.calling g9 mk a) (Vm.Alike.refl U.vm) q.2.2.2.1, q.2.2.2.2.1, Ev.bl q.2.2.2.2.2⟩, va_recv hK hP (ci := 4) (q0 := 0) rfl rgL11_6c8bafd, fun U hU hW => ⟨rfl, by rw [hU], atB hU hPc, va_K.moved hW.alike hKc, hDc.weaken (fun _ _ _ _ => trivial), hE.go hS hFc hU hW⟩⟩ rfl rfl hl.1 rfl (lv_room (Nat.le_of_ble_eq_true rfl)) dX5_readPerson_97 ⟨Nat.le_of_ble_eq_true rfl, Nat.le_of_ble_eq_true rfl⟩) hS (fun q _ h => hFc q h) hFc (fun u213 t H1 locs ht hvm h_u213 hB hz1 hk1 hS => ?_)
          obtain ⟨za0_5_215, za0_0_3_216, za0_0_4_217, za0_0_5_218, za0_0_6_219, za0_0_7_220, hF221, hF222, hF223, hP1, hK1, hD1⟩ := hB
          have hK1 := va_K.moved hvm.symm hK1
          have hJ9 := rgJ11_cdaeafa hP hD hk1 hFc (atH ht hP1) hD1
          clear hP hD hPc hKc hDc hFc hP1 hD1 hk1 hz1
          obtain ⟨hP, hD⟩ := hJ9
          clear hK1
          generalize H1 = H at hP hS ⊢
          refine W.widen (k := 0) (n := 0) (Nat.le_of_ble_eq_true rfl) (Nat.le_of_ble_eq_true rfl) ?_
          refine lv_aload_n hx hb dX5_readPerson_100 rfl (lv_at hl 5 rfl) ?_
          refine va_get (D := (dC, dI)) (ci := 4) (v := .int za0_5_215) (C := RX5) (T := TX5) (N := 6) hx hb hts inlX5 hown hK hP 0 rgL11_6c8bafd rfl 5 (by decide) (hts (.fieldLink RX5 41 "ClosedUntil$TextReader" "fault" "I") qw_97) (fun _ h9 => h9) rfl dX5_readPerson_101 ?_
          refine lv_iconst (v := (-1)) hx hb dX5_readPerson_104 (by decide) ?_
          refine lv_icmp_ne (tgt := 142) hx hb dX5_readPerson_105 (by decide) (fun c105_224 => ?_) (fun c105_224 => ?_)
          · have c105_224 : ¬ (za0_5_215.toInt = (-1)) := mt (cv_eq rfl (by decide)).mpr c105_224
            refine W.widen (k := 0) (n := 0) (Nat.le_of_ble_eq_true rfl) (Nat.le_of_ble_eq_true rfl) ?_
            have hP9 := hP
            have hD9 := hD
            have hK9 := (rgK7_1b59772 hK)
            have hf9_0 : (0 ≤ a0_4.toInt ∧ a0_4.toInt ≤ 36) := by omega
            have hf9_1 : (0 ≤ za0_0_3_216.toInt ∧ za0_0_3_216.toInt ≤ 1000) := by omega
            have hf9_2 : (0 ≤ za0_0_5_218.toInt ∧ za0_0_5_218.toInt ≤ 1000) := by omega
            have hf9_3 : (0 ≤ a1_0.toInt ∧ a1_0.toInt ≤ 8) := by omega
            have hf9_4 : (NOk a0_2_f a0_3_f a0_4) := by assumption
            exact W.vret hx hb hr (fun t ht hW => ⟨⟨(), rfl, trivial, a0_4, za0_5_215, za0_0_3_216, za0_0_4_217, za0_0_5_218, za0_0_6_219, za0_0_7_220, a0_1_f, a0_2_f, a0_3_f, a1_0, a1_1_f, a2_1_f, hf9_0, hf9_1, hf9_2, hf9_3, hf9_4, atB ht hP9, va_K.moved hW.alike hK9, hD9⟩, hS.F ht⟩) hS.2.2 dX5_readPerson_142
          · have c105_224 : za0_5_215.toInt = (-1) := (cv_eq rfl (by decide)).mp c105_224
            refine lv_aload_n hx hb dX5_readPerson_108 rfl (lv_at hl 6 rfl) ?_
            refine va_getN (D := (dC, dI)) (ci := 0) (v := .ref a1_1) (C := RX1) (T := TX1) (N := 14) hx hb hts inlX1 hown hK hP 7 rgL11_9734e9c rfl 1 (by decide) (va_Nw.use rfl (nf_28 hN)) (fun _ h9 => h9) rfl dX5_readPerson_109 ?_
            refine lv_iload_n hx hb dX5_readPerson_112 rfl (lv_at hl 4 rfl) ?_
            refine lv_iload hx hb dX5_readPerson_113 (lv_at hl 2 rfl) ?_
            refine va_iast hx hb hK hP hD hS 8 5 rgL11_13b73f1 rgT7_3ac7fec (vinI (by omega) (by omega)) dX5_readPerson_115 (fun H locs hP9 hD9 hS9 => ?_)
            obtain ⟨y225, e_y225⟩ : ∃ y, (upd a1_1_f a1_0.toNatClampNeg r130) = y := ⟨_, rfl⟩
            clear hP hD hS
            obtain ⟨hP, hD⟩ := rgS11_cf10d17 (e := (a1_1, .inl (a1_1_c, 8, .inl y225))) hP9 hD9 (congrArg (fun z9 => (((a1_1, .inl (a1_1_c, 8, .inl z9)) : Nat × va_E))) e_y225)
            have hS := hS9; clear hP9 hD9 hS9
            refine lv_aload_n hx hb dX5_readPerson_116 rfl (lv_at hl 7 rfl) ?_
            refine va_getN (D := (dC, dI)) (ci := 2) (v := .ref a2_1) (C := RX3) (T := TX3) (N := 6) hx hb hts inlX3 hown hK hP 9 rgL11_6a66537 rfl 1 (by decide) (va_Nw.use rfl (nf_15 hN)) (fun _ h9 => h9) rfl dX5_readPerson_117 ?_
            refine lv_iload_n hx hb dX5_readPerson_120 rfl (lv_at hl 4 rfl) ?_
            refine lv_iload hx hb dX5_readPerson_121 (lv_at hl 0 rfl) ?_
            refine va_iast hx hb hK hP hD hS 10 6 rgL11_9a1600d rgT7_aa56713 (vinI (by omega) (by omega)) dX5_readPerson_123 (fun H locs hP9 hD9 hS9 => ?_)
            obtain ⟨y226, e_y226⟩ : ∃ y, (upd a2_1_f a1_0.toNatClampNeg r175) = y := ⟨_, rfl⟩
            clear hP hD hS
            obtain ⟨hP, hD⟩ := rgS11_d782f99 (e := (a2_1, .inl (a2_1_c, 8, .inl y226))) hP9 hD9 (congrArg (fun z9 => (((a2_1, .inl (a2_1_c, 8, .inl z9)) : Nat × va_E))) e_y226)
            have hS := hS9; clear hP9 hD9 hS9
            refine lv_aload_n hx hb dX5_readPerson_124 rfl (lv_at hl 6 rfl) ?_
            refine lv_dup hx hb dX5_readPerson_125 rfl ?_
            refine va_getN (D := (dC, dI)) (ci := 0) (v := .int a1_0) (C := RX1) (T := TX1) (N := 14) hx hb hts inlX1 hown hK hP 7 rgL11_9734e9c rfl 0 (by decide) (va_Nw.use rfl (nf_26 hN)) (fun _ h9 => h9) rfl dX5_readPerson_126 ?_
            refine lv_iconst (v := 1) hx hb dX5_readPerson_129 (by decide) ?_
            refine lv_iadd hx hb dX5_readPerson_130 ?_
            refine lv_topi (fun x227 e_x227 => ?_)
            try have e_x227 := ti_add e_x227 rfl (show (1 : Int32).toInt = 1 by decide) (by omega)
            refine va_putN (D := (dC, dI)) (ci := 0) (v := .int x227) (ty := .int) (C := RX1) (T := TX1) (N := 14) hx hb hts inlX1 tyX1 tyX1_ok nmX1 hown hK hP hD hS 7 rgL11_9734e9c rfl 0 (by decide) (va_Nw.use rfl (nf_26 hN)) (fun _ h9 => h9) rfl (by decide +kernel) rfl rfl (Nat.le_of_ble_eq_true rfl) dX5_readPerson_131 (fun H locs hP9 hD9 hS9 => ?_)
            clear hP hD hS
            obtain ⟨hP, hD⟩ := rgS11_2ed6a70 (e := (a1, .inr (0, [.int x227, .ref a1_1, .int a1_2, .ref a1_3, .int a1_4, .ref a1_5, .ref a1_6, .ref a1_7, .int a1_8, .ref a1_9, .ref a1_10, .ref a1_11, .ref a1_12, .ref a1_13]))) hP9 hD9 rfl
            have hS := hS9; clear hP9 hD9 hS9
            refine lv_aload_n hx hb dX5_readPerson_134 rfl (lv_at hl 5 rfl) ?_
            refine lv_lload hx hb dX5_readPerson_135 (lv_at hl 3 rfl) ?_
            refine lv_iconst (v := 0) hx hb dX5_readPerson_137 (by decide) ?_
            refine lv_iload_n hx hb dX5_readPerson_138 rfl (lv_at hl 4 rfl) ?_
            have qc0 : (0 : Int32).toInt = 0 := by decide
            have hPc := (rgP11_d56c163 hP)
            have hKc := (rgK7_d4890ae hK)
            have hDc := (rgD11_83208e9 hD)
            have hFc := freeW hDc hS hA
            refine va_callv (va_runV (As := [.long r12, .int 0, .int a1_0]) (rest := []) ⟨hx, hb, hml, hown, hts⟩ (k_X5_addName l dC dI g H.size (a0) (r12) (0) (a1_0) (a0_0) (a0_1) (a0_2) (a0_3) (a0_4) (za0_5_215) (a0_1_c) (a0_1_f) (a0_2_c) (a0_2_f) (a0_3_c) (a0_3_f) (by omega) (by assumption) (by omega)) (cwV 3 hts (gwV qw_198 qw_199 qw_200 qw_100 qw_197) rfl rfl rfl (by decide +kernel) ⟨Nat.le_of_ble_eq_true rfl, Nat.le_of_ble_eq_true rfl⟩) ⟨fun a U g9 mk q => ⟨q.1, q.2.1, q.2.2.1, va_K.moved (u := U) (U := U.calling g9 mk a) (Vm.Alike.refl U.vm) q.2.2.2.1, q.2.2.2.2.1, Ev.bl q.2.2.2.2.2⟩, va_recv hK hP (ci := 4) (q0 := 0) rfl rgL11_6c8bafd, fun U hU hW => ⟨rfl, by rw [hU], atB hU hPc, va_K.moved hW.alike hKc, hDc.weaken (fun _ _ _ _ => trivial), hE.go hS hFc hU hW⟩⟩ rfl rfl hl.1 rfl (lv_room (Nat.le_of_ble_eq_true rfl)) dX5_readPerson_139 ⟨Nat.le_of_ble_eq_true rfl, Nat.le_of_ble_eq_true rfl⟩) hS (fun q _ h => hFc q h) hFc (fun u228 t H1 locs ht hvm h_u228 hB hz1 hk1 hS => ?_)
            obtain ⟨za0_4_230, za0_1_f_231, za0_2_f_232, za0_3_f_233, hF234, hF235, hP1, hK1, hD1⟩ := hB
            have hK1 := va_K.moved hvm.symm hK1
            have hJ9 := rgJ11_6c2858c hP hD hk1 hFc (atH ht hP1) hD1
            clear hP hD hPc hKc hDc hFc hP1 hD1 hk1 hz1
            obtain ⟨hP, hD⟩ := hJ9
            clear hK1
            generalize H1 = H at hP hS ⊢
            refine W.widen (k := 0) (n := 0) (Nat.le_of_ble_eq_true rfl) (Nat.le_of_ble_eq_true rfl) ?_
            refine W.widen (k := 0) (n := 0) (Nat.le_of_ble_eq_true rfl) (Nat.le_of_ble_eq_true rfl) ?_
            have hP9 := hP
            have hD9 := hD
            have hK9 := (rgK7_1b59772 hK)
            have hf9_0 : (0 ≤ za0_4_230.toInt ∧ za0_4_230.toInt ≤ 36) := by omega
            have hf9_1 : (0 ≤ za0_0_3_216.toInt ∧ za0_0_3_216.toInt ≤ 1000) := by omega
            have hf9_2 : (0 ≤ za0_0_5_218.toInt ∧ za0_0_5_218.toInt ≤ 1000) := by omega
            have hf9_3 : (0 ≤ x227.toInt ∧ x227.toInt ≤ 8) := by omega
            have hf9_4 : (NOk za0_2_f_232 za0_3_f_233 za0_4_230) := by assumption
            exact W.vret hx hb hr (fun t ht hW => ⟨⟨(), rfl, trivial, za0_4_230, za0_5_215, za0_0_3_216, za0_0_4_217, za0_0_5_218, za0_0_6_219, za0_0_7_220, za0_1_f_231, za0_2_f_232, za0_3_f_233, x227, y225, y226, hf9_0, hf9_1, hf9_2, hf9_3, hf9_4, atB ht hP9, va_K.moved hW.alike hK9, hD9⟩, hS.F ht⟩) hS.2.2 dX5_readPerson_142
  · have c8_1 : ¬ (a1_0.toInt < 8) := mt (cv_lt rfl (by decide)).mpr c8_1
    refine lv_aload_n hx hb dX5_readPerson_11 rfl (lv_at hl 1 rfl) ?_
    refine lv_iconst (v := 5) hx hb dX5_readPerson_12 (by decide) ?_
    refine lv_aload_n hx hb dX5_readPerson_13 rfl (lv_at hl 1 rfl) ?_
    refine va_get (D := (dC, dI)) (ci := 4) (v := .ref a0_0) (C := RX5) (T := TX5) (N := 6) hx hb hts inlX5 hown hK hP 0 rgL11_6c8bafd rfl 0 (by decide) (hts (.fieldLink RX5 12 "ClosedUntil$TextReader" "tokens" "LClosedUntil$Tokens;") qw_98) (fun _ h9 => h9) rfl dX5_readPerson_14 ?_
    refine va_getN (D := (dC, dI)) (ci := 6) (v := .int a0_0_5) (C := RX7) (T := TX7) (N := 8) hx hb hts inlX7 hown hK hP 1 rgL11_ae006c6 rfl 5 (by decide) (va_Nw.use rfl (nf_3 hN)) (fun _ h9 => h9) rfl dX5_readPerson_17 ?_
    have qc5 : (5 : Int32).toInt = 5 := by decide
    have hPc := (rgP11_d67a011 hP)
    have hKc := (rgK7_1b59772 hK)
    have hDc := (rgD11_477d17b hD)
    have hFc := freeW hDc hS hA
    refine va_callv (va_runV (As := [.int 5, .int a0_0_5]) (rest := []) ⟨hx, hb, hml, hown, hts⟩ (k_X5_fail l dC dI g s.heap.size (a0) (5) (a0_0_5) (a0_0) (a0_1) (a0_2) (a0_3) (a0_4) (a0_5) (by omega) (by omega) (by omega)) (cwV 2 hts (gwV qw_105 qw_106 qw_107 qw_100 qw_104) rfl rfl rfl (by decide +kernel) ⟨Nat.le_of_ble_eq_true rfl, Nat.le_of_ble_eq_true rfl⟩) ⟨fun a U g9 mk q => ⟨q.1, q.2.1, q.2.2.1, va_K.moved (u := U) (U := U.calling g9 mk a) (Vm.Alike.refl U.vm) q.2.2.2.1, q.2.2.2.2.1, Ev.bl q.2.2.2.2.2⟩, va_recv hK hP (ci := 4) (q0 := 0) rfl rgL11_6c8bafd, fun U hU hW => ⟨rfl, by rw [hU], atB hU hPc, va_K.moved hW.alike hKc, hDc.weaken (fun _ _ _ _ => trivial), hE.go hS hFc hU hW⟩⟩ rfl rfl hl.1 rfl (lv_room (Nat.le_of_ble_eq_true rfl)) dX5_readPerson_20 ⟨Nat.le_of_ble_eq_true rfl, Nat.le_of_ble_eq_true rfl⟩) hS (fun q _ h => hFc q h) hFc (fun u236 t H1 locs ht hvm h_u236 hB hz1 hk1 hS => ?_)
    obtain ⟨za0_5_238, hF239, hP1, hK1, hD1⟩ := hB
    have hK1 := va_K.moved hvm.symm hK1
    have hJ9 := rgJ11_332d6be hP hD hk1 hFc (atH ht hP1) hD1
    clear hP hD hPc hKc hDc hFc hP1 hD1 hk1 hz1
    obtain ⟨hP, hD⟩ := hJ9
    clear hK1
    generalize H1 = H at hP hS ⊢
    refine W.widen (k := 0) (n := 0) (Nat.le_of_ble_eq_true rfl) (Nat.le_of_ble_eq_true rfl) ?_
    refine W.widen (k := 0) (n := 0) (Nat.le_of_ble_eq_true rfl) (Nat.le_of_ble_eq_true rfl) ?_
    have hP9 := hP
    have hD9 := hD
    have hK9 := (rgK7_1b59772 hK)
    have hf9_0 : (0 ≤ a0_4.toInt ∧ a0_4.toInt ≤ 36) := by omega
    have hf9_1 : (0 ≤ a0_0_3.toInt ∧ a0_0_3.toInt ≤ 1000) := by omega
    have hf9_2 : (0 ≤ a0_0_5.toInt ∧ a0_0_5.toInt ≤ 1000) := by omega
    have hf9_3 : (0 ≤ a1_0.toInt ∧ a1_0.toInt ≤ 8) := by omega
    have hf9_4 : (NOk a0_2_f a0_3_f a0_4) := by assumption
    exact W.vret hx hb hr (fun t ht hW => ⟨⟨(), rfl, trivial, a0_4, za0_5_238, a0_0_3, a0_0_4, a0_0_5, a0_0_6, a0_0_7, a0_1_f, a0_2_f, a0_3_f, a1_0, a1_1_f, a2_1_f, hf9_0, hf9_1, hf9_2, hf9_3, hf9_4, atB ht hP9, va_K.moved hW.alike hK9, hD9⟩, hS.F ht⟩) hS.2.2 dX5_readPerson_23
set_option maxHeartbeats 4000000 in
set_option maxRecDepth 100000 in
theorem k_X5_readDeposit (l : Launch) (dC : Nat → ClassId) (dI : Nat → Nat → Nat) (g : Gv) (sz : Nat) (a0 : Nat) (a1 : Nat) (a0_0 : Nat) (a0_1 : Nat) (a0_2 : Nat) (a0_3 : Nat) (a0_4 : Int32) (a0_5 : Int32) (a0_0_0 : Nat) (a0_0_1 : Nat) (a0_0_2 : Int32) (a0_0_3 : Int32) (a0_0_4 : Int32) (a0_0_5 : Int32) (a0_0_6 : Int64) (a0_0_7 : Int32) (a0_0_0_c : ClassId) (a0_0_0_f : Nat → Int64) (a0_0_1_c : ClassId) (a0_0_1_f : Nat → Int32) (a0_1_c : ClassId) (a0_1_f : Nat → Int64) (a0_2_c : ClassId) (a0_2_f : Nat → Int32) (a0_3_c : ClassId) (a0_3_f : Nat → Int32) (a1_0 : Int32) (a1_1 : Nat) (a1_2 : Int32) (a1_3 : Nat) (a1_4 : Int32) (a1_5 : Nat) (a1_6 : Nat) (a1_7 : Nat) (a1_8 : Int32) (a1_9 : Nat) (a1_10 : Nat) (a1_11 : Nat) (a1_12 : Nat) (a1_13 : Nat) (a1_3_c : ClassId) (a1_3_f : Nat → Int32) (h_a0_4 : 0 ≤ a0_4.toInt ∧ a0_4.toInt ≤ 36) (h_a0_0_2 : 0 ≤ a0_0_2.toInt ∧ a0_0_2.toInt ≤ 1000) (h_a0_0_3 : 0 ≤ a0_0_3.toInt ∧ a0_0_3.toInt ≤ 1000) (h_a0_0_5 : 0 ≤ a0_0_5.toInt ∧ a0_0_5.toInt ≤ 1000) (h_a1_0 : 0 ≤ a1_0.toInt ∧ a1_0.toInt ≤ 8) (h_a1_2 : 0 ≤ a1_2.toInt ∧ a1_2.toInt ≤ 4) (h_a1_4 : 0 ≤ a1_4.toInt ∧ a1_4.toInt ≤ 24) (h_a1_8 : 0 ≤ a1_8.toInt ∧ a1_8.toInt ≤ 12) (hno : NOk a0_2_f a0_3_f a0_4) : Met l yX5_readDeposit (.code yX5_readDeposit cX5_readDeposit 5 none :: TBL) ({ frames := 5, cells := 0, slots := 0, locals := 109 }) (va_Pc [.ref a0, .ref a1] (fun U => U.heap.size = sz ∧ va_P (dC, dI) vwCl [(a0, .inr (4, [.ref a0_0, .ref a0_1, .ref a0_2, .ref a0_3, .int a0_4, .int a0_5])), (a0_0, .inr (6, [.ref a0_0_0, .ref a0_0_1, .int a0_0_2, .int a0_0_3, .int a0_0_4, .int a0_0_5, .long a0_0_6, .int a0_0_7])), (a0_0_0, .inl (a0_0_0_c, 12, .inr (.inl a0_0_0_f))), (a0_0_1, .inl (a0_0_1_c, 1000, .inl a0_0_1_f)), (a0_1, .inl (a0_1_c, 36, .inr (.inl a0_1_f))), (a0_2, .inl (a0_2_c, 36, .inl a0_2_f)), (a0_3, .inl (a0_3_c, 36, .inl a0_3_f)), (a1, .inr (0, [.int a1_0, .ref a1_1, .int a1_2, .ref a1_3, .int a1_4, .ref a1_5, .ref a1_6, .ref a1_7, .int a1_8, .ref a1_9, .ref a1_10, .ref a1_11, .ref a1_12, .ref a1_13])), (a1_3, .inl (a1_3_c, 4, .inl a1_3_f))] U.heap ∧ va_K (dC, dI) vwCl [(a0_0_0_c, .long), (a0_0_1_c, .byte), (a0_1_c, .long), (a0_2_c, .int), (a0_3_c, .int), (a1_3_c, .int)] U ∧ va_D (fun _ => True) [(a0, .inr (4, [.ref a0_0, .ref a0_1, .ref a0_2, .ref a0_3, .int a0_4, .int a0_5])), (a0_0, .inr (6, [.ref a0_0_0, .ref a0_0_1, .int a0_0_2, .int a0_0_3, .int a0_0_4, .int a0_0_5, .long a0_0_6, .int a0_0_7])), (a0_0_0, .inl (a0_0_0_c, 12, .inr (.inl a0_0_0_f))), (a0_0_1, .inl (a0_0_1_c, 1000, .inl a0_0_1_f)), (a0_1, .inl (a0_1_c, 36, .inr (.inl a0_1_f))), (a0_2, .inl (a0_2_c, 36, .inl a0_2_f)), (a0_3, .inl (a0_3_c, 36, .inl a0_3_f)), (a1, .inr (0, [.int a1_0, .ref a1_1, .int a1_2, .ref a1_3, .int a1_4, .ref a1_5, .ref a1_6, .ref a1_7, .int a1_8, .ref a1_9, .ref a1_10, .ref a1_11, .ref a1_12, .ref a1_13])), (a1_3, .inl (a1_3_c, 4, .inl a1_3_f))] ∧ Ev g (va_A [(a0, .inr (4, [.ref a0_0, .ref a0_1, .ref a0_2, .ref a0_3, .int a0_4, .int a0_5])), (a0_0, .inr (6, [.ref a0_0_0, .ref a0_0_1, .int a0_0_2, .int a0_0_3, .int a0_0_4, .int a0_0_5, .long a0_0_6, .int a0_0_7])), (a0_0_0, .inl (a0_0_0_c, 12, .inr (.inl a0_0_0_f))), (a0_0_1, .inl (a0_0_1_c, 1000, .inl a0_0_1_f)), (a0_1, .inl (a0_1_c, 36, .inr (.inl a0_1_f))), (a0_2, .inl (a0_2_c, 36, .inl a0_2_f)), (a0_3, .inl (a0_3_c, 36, .inl a0_3_f)), (a1, .inr (0, [.int a1_0, .ref a1_1, .int a1_2, .ref a1_3, .int a1_4, .ref a1_5, .ref a1_6, .ref a1_7, .int a1_8, .ref a1_9, .ref a1_10, .ref a1_11, .ref a1_12, .ref a1_13])), (a1_3, .inl (a1_3_c, 4, .inl a1_3_f))] sz) U)) (va_Qv (fun (_ : Unit) => True) (fun (_ : Unit) (t : State) => ∃ (za0_4 : Int32) (za0_5 : Int32) (za0_0_3 : Int32) (za0_0_4 : Int32) (za0_0_5 : Int32) (za0_0_6 : Int64) (za0_0_7 : Int32) (za0_1_f : Nat → Int64) (za0_2_f : Nat → Int32) (za0_3_f : Nat → Int32) (za1_2 : Int32) (za1_3_f : Nat → Int32), (0 ≤ za0_4.toInt ∧ za0_4.toInt ≤ 36) ∧ (0 ≤ za0_0_3.toInt ∧ za0_0_3.toInt ≤ 1000) ∧ (0 ≤ za0_0_5.toInt ∧ za0_0_5.toInt ≤ 1000) ∧ (0 ≤ za1_2.toInt ∧ za1_2.toInt ≤ 4) ∧ (NOk za0_2_f za0_3_f za0_4) ∧ va_P (dC, dI) vwCl [(a0, .inr (4, [.ref a0_0, .ref a0_1, .ref a0_2, .ref a0_3, .int za0_4, .int za0_5])), (a0_0, .inr (6, [.ref a0_0_0, .ref a0_0_1, .int a0_0_2, .int za0_0_3, .int za0_0_4, .int za0_0_5, .long za0_0_6, .int za0_0_7])), (a0_0_0, .inl (a0_0_0_c, 12, .inr (.inl a0_0_0_f))), (a0_0_1, .inl (a0_0_1_c, 1000, .inl a0_0_1_f)), (a0_1, .inl (a0_1_c, 36, .inr (.inl za0_1_f))), (a0_2, .inl (a0_2_c, 36, .inl za0_2_f)), (a0_3, .inl (a0_3_c, 36, .inl za0_3_f)), (a1, .inr (0, [.int a1_0, .ref a1_1, .int za1_2, .ref a1_3, .int a1_4, .ref a1_5, .ref a1_6, .ref a1_7, .int a1_8, .ref a1_9, .ref a1_10, .ref a1_11, .ref a1_12, .ref a1_13])), (a1_3, .inl (a1_3_c, 4, .inl za1_3_f))] t.heap ∧ va_K (dC, dI) vwCl [] t ∧ va_D (va_A [(a0, .inr (4, [.ref a0_0, .ref a0_1, .ref a0_2, .ref a0_3, .int a0_4, .int a0_5])), (a0_0, .inr (6, [.ref a0_0_0, .ref a0_0_1, .int a0_0_2, .int a0_0_3, .int a0_0_4, .int a0_0_5, .long a0_0_6, .int a0_0_7])), (a0_0_0, .inl (a0_0_0_c, 12, .inr (.inl a0_0_0_f))), (a0_0_1, .inl (a0_0_1_c, 1000, .inl a0_0_1_f)), (a0_1, .inl (a0_1_c, 36, .inr (.inl a0_1_f))), (a0_2, .inl (a0_2_c, 36, .inl a0_2_f)), (a0_3, .inl (a0_3_c, 36, .inl a0_3_f)), (a1, .inr (0, [.int a1_0, .ref a1_1, .int a1_2, .ref a1_3, .int a1_4, .ref a1_5, .ref a1_6, .ref a1_7, .int a1_8, .ref a1_9, .ref a1_10, .ref a1_11, .ref a1_12, .ref a1_13])), (a1_3, .inl (a1_3_c, 4, .inl a1_3_f))] sz) [(a0, .inr (4, [.ref a0_0, .ref a0_1, .ref a0_2, .ref a0_3, .int za0_4, .int za0_5])), (a0_0, .inr (6, [.ref a0_0_0, .ref a0_0_1, .int a0_0_2, .int za0_0_3, .int za0_0_4, .int za0_0_5, .long za0_0_6, .int za0_0_7])), (a0_0_0, .inl (a0_0_0_c, 12, .inr (.inl a0_0_0_f))), (a0_0_1, .inl (a0_0_1_c, 1000, .inl a0_0_1_f)), (a0_1, .inl (a0_1_c, 36, .inr (.inl za0_1_f))), (a0_2, .inl (a0_2_c, 36, .inl za0_2_f)), (a0_3, .inl (a0_3_c, 36, .inl za0_3_f)), (a1, .inr (0, [.int a1_0, .ref a1_1, .int za1_2, .ref a1_3, .int a1_4, .ref a1_5, .ref a1_6, .ref a1_7, .int a1_8, .ref a1_9, .ref a1_10, .ref a1_11, .ref a1_12, .ref a1_13])), (a1_3, .inl (a1_3_c, 4, .inl za1_3_f))]) (va_A [(a0, .inr (4, [.ref a0_0, .ref a0_1, .ref a0_2, .ref a0_3, .int a0_4, .int a0_5])), (a0_0, .inr (6, [.ref a0_0_0, .ref a0_0_1, .int a0_0_2, .int a0_0_3, .int a0_0_4, .int a0_0_5, .long a0_0_6, .int a0_0_7])), (a0_0_0, .inl (a0_0_0_c, 12, .inr (.inl a0_0_0_f))), (a0_0_1, .inl (a0_0_1_c, 1000, .inl a0_0_1_f)), (a0_1, .inl (a0_1_c, 36, .inr (.inl a0_1_f))), (a0_2, .inl (a0_2_c, 36, .inl a0_2_f)), (a0_3, .inl (a0_3_c, 36, .inl a0_3_f)), (a1, .inr (0, [.int a1_0, .ref a1_1, .int a1_2, .ref a1_3, .int a1_4, .ref a1_5, .ref a1_6, .ref a1_7, .int a1_8, .ref a1_9, .ref a1_10, .ref a1_11, .ref a1_12, .ref a1_13])), (a1_3, .inl (a1_3_c, 4, .inl a1_3_f))] sz)) 0 0 (va_A [(a0, .inr (4, [.ref a0_0, .ref a0_1, .ref a0_2, .ref a0_3, .int a0_4, .int a0_5])), (a0_0, .inr (6, [.ref a0_0_0, .ref a0_0_1, .int a0_0_2, .int a0_0_3, .int a0_0_4, .int a0_0_5, .long a0_0_6, .int a0_0_7])), (a0_0_0, .inl (a0_0_0_c, 12, .inr (.inl a0_0_0_f))), (a0_0_1, .inl (a0_0_1_c, 1000, .inl a0_0_1_f)), (a0_1, .inl (a0_1_c, 36, .inr (.inl a0_1_f))), (a0_2, .inl (a0_2_c, 36, .inl a0_2_f)), (a0_3, .inl (a0_3_c, 36, .inl a0_3_f)), (a1, .inr (0, [.int a1_0, .ref a1_1, .int a1_2, .ref a1_3, .int a1_4, .ref a1_5, .ref a1_6, .ref a1_7, .int a1_8, .ref a1_9, .ref a1_10, .ref a1_11, .ref a1_12, .ref a1_13])), (a1_3, .inl (a1_3_c, 4, .inl a1_3_f))] sz) := by
  refine Met.ofW (cc := cX5_readDeposit) (maxL := 5) (ret := none) (by decide) rfl ?_
  intro p e s m args below meth c s₁ B hml hv
  obtain ⟨rfl, hsz, hP, hK, hD0, hE⟩ := hv
  have hx := B.exec
  have hb := B.bytes
  have hr := B.returns
  have hts0 := atoms_spec (ws := (.code yX5_readDeposit cX5_readDeposit 5 none :: TBL)) B.pre
  have hts := fun (w : Cond) (h : w ∈ TBL) => hts0 w (List.mem_cons_of_mem _ h)
  have hown : s.vm.findClass RX5 = some m.cls := findClass_of_methodNamed B.named
  have hlocks := B.notSynchronized
  have hN := hE.1
  subst hsz
  have hD := hD0.self (sz := s.heap.size)
  generalize hAe : va_A [(a0, .inr (4, [.ref a0_0, .ref a0_1, .ref a0_2, .ref a0_3, .int a0_4, .int a0_5])), (a0_0, .inr (6, [.ref a0_0_0, .ref a0_0_1, .int a0_0_2, .int a0_0_3, .int a0_0_4, .int a0_0_5, .long a0_0_6, .int a0_0_7])), (a0_0_0, .inl (a0_0_0_c, 12, .inr (.inl a0_0_0_f))), (a0_0_1, .inl (a0_0_1_c, 1000, .inl a0_0_1_f)), (a0_1, .inl (a0_1_c, 36, .inr (.inl a0_1_f))), (a0_2, .inl (a0_2_c, 36, .inl a0_2_f)), (a0_3, .inl (a0_3_c, 36, .inl a0_3_f)), (a1, .inr (0, [.int a1_0, .ref a1_1, .int a1_2, .ref a1_3, .int a1_4, .ref a1_5, .ref a1_6, .ref a1_7, .int a1_8, .ref a1_9, .ref a1_10, .ref a1_11, .ref a1_12, .ref a1_13])), (a1_3, .inl (a1_3_c, 4, .inl a1_3_f))] s.heap.size = A at hD hE ⊢
  have hA : ∀ q : Nat, s.heap.size ≤ q → A q := fun q h => by rw [← hAe]; exact Or.inr h
  have hS : va_S A s.heap s.heap [] := va_S.rf
  replace hP : va_P (dC, dI) vwCl [(a0, .inr (4, [.ref a0_0, .ref a0_1, .ref a0_2, .ref a0_3, .int a0_4, .int a0_5])), (a0_0, .inr (6, [.ref a0_0_0, .ref a0_0_1, .int a0_0_2, .int a0_0_3, .int a0_0_4, .int a0_0_5, .long a0_0_6, .int a0_0_7])), (a0_0_0, .inl (a0_0_0_c, 12, .inr (.inl a0_0_0_f))), (a0_0_1, .inl (a0_0_1_c, 1000, .inl a0_0_1_f)), (a0_1, .inl (a0_1_c, 36, .inr (.inl a0_1_f))), (a0_2, .inl (a0_2_c, 36, .inl a0_2_f)), (a0_3, .inl (a0_3_c, 36, .inl a0_3_f)), (a1, .inr (0, [.int a1_0, .ref a1_1, .int a1_2, .ref a1_3, .int a1_4, .ref a1_5, .ref a1_6, .ref a1_7, .int a1_8, .ref a1_9, .ref a1_10, .ref a1_11, .ref a1_12, .ref a1_13])), (a1_3, .inl (a1_3_c, 4, .inl a1_3_f))] s.heap := hP
  have hl := lv_entry ([.ref a0, .ref a1]) (n := 5) (Nat.le_of_ble_eq_true rfl)
  rw [lg_entry_eq]
  generalize (lg_sl ([.ref a0, .ref a1]) ++ List.replicate (5 - (lg_sl ([.ref a0, .ref a1])).length) Slot.unset).toArray = ls at hl ⊢
  have hl : lv_has ls 5 [(0, .ref a0), (1, .ref a1)] := hl
  have b_a0_5 := i32b a0_5
  have b_a0_0_4 := i32b a0_0_4
  have b_a0_0_7 := i32b a0_0_7
  refine lv_aload_n hx hb dX5_readDeposit_0 rfl (lv_at hl 1 rfl) ?_
  refine va_getN (D := (dC, dI)) (ci := 0) (v := .int a1_2) (C := RX1) (T := TX1) (N := 14) hx hb hts inlX1 hown hK hP 7 rgL9_1eb08b1 rfl 2 (by decide) (va_Nw.use rfl (nf_31 hN)) (fun _ h9 => h9) rfl dX5_readDeposit_1 ?_
  refine lv_istore_n (lv' := [(2, .int a1_2), (0, .ref a0), (1, .ref a1)]) hx hb dX5_readDeposit_4 rfl hl (by decide) rfl (fun ls hl => ?_)
  refine lv_iload_n hx hb dX5_readDeposit_5 rfl (lv_at hl 0 rfl) ?_
  refine lv_iconst (v := 4) hx hb dX5_readDeposit_6 (by decide) ?_
  refine lv_icmp_lt (tgt := 23) hx hb dX5_readDeposit_7 (by decide) (fun c7_1 => ?_) (fun c7_1 => ?_)
  · have c7_1 : a1_2.toInt < 4 := (cv_lt rfl (by decide)).mp c7_1
    refine lv_aload_n hx hb dX5_readDeposit_23 rfl (lv_at hl 1 rfl) ?_
    refine va_get (D := (dC, dI)) (ci := 4) (v := .ref a0_0) (C := RX5) (T := TX5) (N := 6) hx hb hts inlX5 hown hK hP 0 rgL9_97de23c rfl 0 (by decide) (hts (.fieldLink RX5 12 "ClosedUntil$TextReader" "tokens" "LClosedUntil$Tokens;") qw_98) (fun _ h9 => h9) rfl dX5_readDeposit_24 ?_
    have hPc := (rgP9_bc50c9e hP)
    have hKc := (rgK6_0ca43e9 hK)
    have hDc := (rgD9_1b87c1d hD)
    have hFc := freeW hDc hS hA
    refine va_callv (va_runVN (As := []) (rest := []) ⟨hx, hb, hml, hown, hts⟩ (k_X7_advance l dC dI g s.heap.size (a0_0) (a0_0_0) (a0_0_1) (a0_0_2) (a0_0_3) (a0_0_4) (a0_0_5) (a0_0_6) (a0_0_7) (a0_0_0_c) (a0_0_0_f) (a0_0_1_c) (a0_0_1_f) (by omega) (by omega) (by omega)) ⟨va_cnB 0 hts (gwC qw_93) rfl rfl rfl (nm_13 hN) (hts (.initialized RX7) qw_70) (by decide +kernel) ⟨Nat.le_of_ble_eq_true rfl, Nat.le_of_ble_eq_true rfl⟩, (hts (.instanceMethod yX7_advance) qw_95), (hts (.selects RX7 yX7_advance yX7_advance) qw_96)⟩ ⟨fun a U g9 mk q => ⟨q.1, q.2.1, q.2.2.1, va_K.moved (u := U) (U := U.calling g9 mk a) (Vm.Alike.refl U.vm) q.2.2.2.1, q.2.2.2.2.1, Ev.bl q.2.2.2.2.2⟩, va_recv hK hP (ci := 6) (q0 := 1) rfl rgL9_8416470, fun U hU hW => ⟨rfl, by rw [hU], atB hU hPc, va_K.moved hW.alike hKc, hDc.weaken (fun _ _ _ _ => trivial), hE.go hS hFc hU hW⟩⟩ rfl rfl hl.1 rfl (lv_room (Nat.le_of_ble_eq_true rfl)) dX5_readDeposit_27 ⟨Nat.le_of_ble_eq_true rfl, Nat.le_of_ble_eq_true rfl⟩) hS (fun q _ h => hFc q h) hFc (fun u2 t H1 locs ht hvm h_u2 hB hz1 hk1 hS => ?_)
    obtain ⟨za0_3_4, za0_4_5, za0_5_6, za0_6_7, za0_7_8, hF9, hF10, hP1, hK1, hD1⟩ := hB
    have hK1 := va_K.moved hvm.symm hK1
    have hJ9 := rgJ9_c471e7c hP hD hk1 hFc (atH ht hP1) hD1
    clear hP hD hPc hKc hDc hFc hP1 hD1 hk1 hz1
    obtain ⟨hP, hD⟩ := hJ9
    clear hK1
    generalize H1 = H at hP hS ⊢
    refine W.widen (k := 0) (n := 0) (Nat.le_of_ble_eq_true rfl) (Nat.le_of_ble_eq_true rfl) ?_
    refine lv_aload_n hx hb dX5_readDeposit_30 rfl (lv_at hl 1 rfl) ?_
    have hPc := (rgP9_60efad1 hP)
    have hKc := (rgK6_96ec0d8 hK)
    have hDc := (rgD9_c0d146e hD)
    have hFc := freeW hDc hS hA
    refine va_calll (va_runV (As := []) (rest := []) ⟨hx, hb, hml, hown, hts⟩ (k_X5_readNewName l dC dI g H.size (a0) (a0_0) (a0_1) (a0_2) (a0_3) (a0_4) (a0_5) (a0_0_0) (a0_0_1) (a0_0_2) (za0_3_4) (za0_4_5) (za0_5_6) (za0_6_7) (za0_7_8) (a0_0_0_c) (a0_0_0_f) (a0_0_1_c) (a0_0_1_f) (a0_1_c) (a0_1_f) (by omega) (by omega) (by omega) (by omega)) (cwV 0 hts (gwV qw_190 qw_191 qw_192 qw_100 qw_189) rfl rfl rfl (by decide +kernel) ⟨Nat.le_of_ble_eq_true rfl, Nat.le_of_ble_eq_true rfl⟩) ⟨fun a U g9 mk q => ⟨q.1, q.2.1, q.2.2.1, va_K.moved (u := U) (U := U.calling g9 mk a) (Vm.Alike.refl U.vm) q.2.2.2.1, q.2.2.2.2.1, Ev.bl q.2.2.2.2.2⟩, va_recv hK hP (ci := 4) (q0 := 0) rfl rgL9_97de23c, fun U hU hW => ⟨rfl, by rw [hU], atB hU hPc, va_K.moved hW.alike hKc, hDc.weaken (fun _ _ _ _ => trivial), hE.go hS hFc hU hW⟩⟩ rfl rfl hl.1 rfl (lv_room (Nat.le_of_ble_eq_true rfl)) dX5_readDeposit_31 ⟨Nat.le_of_ble_eq_true rfl, Nat.le_of_ble_eq_true rfl⟩) hS (fun q _ h => hFc q h) hFc (fun r12 u11 t H1 locs ht hvm h_u11 hB hz1 hk1 hS => ?_)
    obtain ⟨za0_5_13, za0_0_3_14, za0_0_4_15, za0_0_5_16, za0_0_6_17, za0_0_7_18, hF19, hF20, hF21, hP1, hK1, hD1⟩ := hB
    have hK1 := va_K.moved hvm.symm hK1
    have hJ9 := rgJ9_35323dd hP hD hk1 hFc (atH ht hP1) hD1
    clear hP hD hPc hKc hDc hFc hP1 hD1 hk1 hz1
    obtain ⟨hP, hD⟩ := hJ9
    clear hK1
    generalize H1 = H at hP hS ⊢
    refine W.widen (k := 0) (n := 0) (Nat.le_of_ble_eq_true rfl) (Nat.le_of_ble_eq_true rfl) ?_
    refine lv_lstore_n (lv' := [(3, .long r12), (2, .int a1_2), (0, .ref a0), (1, .ref a1)]) hx hb dX5_readDeposit_34 rfl hl (by decide) rfl (fun ls hl => ?_)
    refine lv_aload_n hx hb dX5_readDeposit_35 rfl (lv_at hl 3 rfl) ?_
    refine va_getN (D := (dC, dI)) (ci := 0) (v := .ref a1_3) (C := RX1) (T := TX1) (N := 14) hx hb hts inlX1 hown hK hP 7 rgL9_1eb08b1 rfl 3 (by decide) (va_Nw.use rfl (nf_33 hN)) (fun _ h9 => h9) rfl dX5_readDeposit_36 ?_
    refine lv_iload_n hx hb dX5_readDeposit_39 rfl (lv_at hl 1 rfl) ?_
    refine lv_aload_n hx hb dX5_readDeposit_40 rfl (lv_at hl 2 rfl) ?_
    have hPc := (rgP9_fbc4554 hP)
    have hKc := (rgK6_0ca43e9 hK)
    have hDc := (rgD9_0e61245 hD)
    have hFc := freeW hDc hS hA
    refine va_calli (va_runV (As := []) (rest := [.int a1_2, .ref a1_3]) ⟨hx, hb, hml, hown, hts⟩ (k_X5_readDate l dC dI g H.size (a0) (a0_0) (a0_1) (a0_2) (a0_3) (a0_4) (za0_5_13) (a0_0_0) (a0_0_1) (a0_0_2) (za0_0_3_14) (za0_0_4_15) (za0_0_5_16) (za0_0_6_17) (za0_0_7_18) (a0_0_0_c) (a0_0_0_f) (a0_0_1_c) (a0_0_1_f) (by omega) (by omega) (by omega) (by omega)) (cwV 0 hts (gwV qw_202 qw_203 qw_204 qw_100 qw_201) rfl rfl rfl (by decide +kernel) ⟨Nat.le_of_ble_eq_true rfl, Nat.le_of_ble_eq_true rfl⟩) ⟨fun a U g9 mk q => ⟨q.1, q.2.1, q.2.2.1, va_K.moved (u := U) (U := U.calling g9 mk a) (Vm.Alike.refl U.vm) q.2.2.2.1, q.2.2.2.2.1, Ev.bl q.2.2.2.2.2⟩, va_recv hK hP (ci := 4) (q0 := 0) rfl rgL9_97de23c, fun U hU hW => ⟨rfl, by rw [hU], atB hU hPc, va_K.moved hW.alike hKc, hDc.weaken (fun _ _ _ _ => trivial), hE.go hS hFc hU hW⟩⟩ rfl rfl hl.1 rfl (lv_room (Nat.le_of_ble_eq_true rfl)) dX5_readDeposit_41 ⟨Nat.le_of_ble_eq_true rfl, Nat.le_of_ble_eq_true rfl⟩) hS (fun q _ h => hFc q h) hFc (fun r23 u22 t H1 locs ht hvm h_u22 hB hz1 hk1 hS => ?_)
    obtain ⟨za0_5_24, za0_0_3_25, za0_0_4_26, za0_0_5_27, za0_0_6_28, za0_0_7_29, hF30, hF31, hF32, hP1, hK1, hD1⟩ := hB
    have hK1 := va_K.moved hvm.symm hK1
    have hJ9 := rgJ9_c22b2e3 hP hD hk1 hFc (atH ht hP1) hD1
    clear hP hD hPc hKc hDc hFc hP1 hD1 hk1 hz1
    obtain ⟨hP, hD⟩ := hJ9
    clear hK1
    generalize H1 = H at hP hS ⊢
    refine W.widen (k := 0) (n := 0) (Nat.le_of_ble_eq_true rfl) (Nat.le_of_ble_eq_true rfl) ?_
    have h_r23 := congrArg Int32.toInt h_u22
    have b_r23 := i32b r23
    refine va_iast hx hb hK hP hD hS 8 5 rgL9_852c3b0 rgT6_f6e22b4 (vinI (by omega) (by omega)) dX5_readDeposit_44 (fun H locs hP9 hD9 hS9 => ?_)
    obtain ⟨y33, e_y33⟩ : ∃ y, (upd a1_3_f a1_2.toNatClampNeg r23) = y := ⟨_, rfl⟩
    clear hP hD hS
    obtain ⟨hP, hD⟩ := rgS9_f080df2 (e := (a1_3, .inl (a1_3_c, 4, .inl y33))) hP9 hD9 (congrArg (fun z9 => (((a1_3, .inl (a1_3_c, 4, .inl z9)) : Nat × va_E))) e_y33)
    have hS := hS9; clear hP9 hD9 hS9
    refine lv_aload_n hx hb dX5_readDeposit_45 rfl (lv_at hl 2 rfl) ?_
    refine lv_bipush (v := 14) hx hb dX5_readDeposit_46 (by decide) ?_
    have qc14 : (14 : Int32).toInt = 14 := by decide
    have hPc := (rgP9_fbc4554 hP)
    have hKc := (rgK6_0ca43e9 hK)
    have hDc := (rgD9_0e61245 hD)
    have hFc := freeW hDc hS hA
    refine va_callv (va_runV (As := [.int 14]) (rest := []) ⟨hx, hb, hml, hown, hts⟩ (k_X5_pass l dC dI g H.size (a0) (14) (a0_0) (a0_1) (a0_2) (a0_3) (a0_4) (za0_5_24) (a0_0_0) (a0_0_1) (a0_0_2) (za0_0_3_25) (za0_0_4_26) (za0_0_5_27) (za0_0_6_28) (za0_0_7_29) (a0_0_0_c) (a0_0_0_f) (a0_0_1_c) (a0_0_1_f) (by omega) (by omega) (by omega) (by omega)) (cwV 1 hts (gwV qw_194 qw_195 qw_196 qw_100 qw_193) rfl rfl rfl (by decide +kernel) ⟨Nat.le_of_ble_eq_true rfl, Nat.le_of_ble_eq_true rfl⟩) ⟨fun a U g9 mk q => ⟨q.1, q.2.1, q.2.2.1, va_K.moved (u := U) (U := U.calling g9 mk a) (Vm.Alike.refl U.vm) q.2.2.2.1, q.2.2.2.2.1, Ev.bl q.2.2.2.2.2⟩, va_recv hK hP (ci := 4) (q0 := 0) rfl rgL9_97de23c, fun U hU hW => ⟨rfl, by rw [hU], atB hU hPc, va_K.moved hW.alike hKc, hDc.weaken (fun _ _ _ _ => trivial), hE.go hS hFc hU hW⟩⟩ rfl rfl hl.1 rfl (lv_room (Nat.le_of_ble_eq_true rfl)) dX5_readDeposit_48 ⟨Nat.le_of_ble_eq_true rfl, Nat.le_of_ble_eq_true rfl⟩) hS (fun q _ h => hFc q h) hFc (fun u34 t H1 locs ht hvm h_u34 hB hz1 hk1 hS => ?_)
    obtain ⟨za0_5_36, za0_0_3_37, za0_0_4_38, za0_0_5_39, za0_0_6_40, za0_0_7_41, hF42, hF43, hF44, hP1, hK1, hD1⟩ := hB
    have hK1 := va_K.moved hvm.symm hK1
    have hJ9 := rgJ9_c22b2e3 hP hD hk1 hFc (atH ht hP1) hD1
    clear hP hD hPc hKc hDc hFc hP1 hD1 hk1 hz1
    obtain ⟨hP, hD⟩ := hJ9
    clear hK1
    generalize H1 = H at hP hS ⊢
    refine W.widen (k := 0) (n := 0) (Nat.le_of_ble_eq_true rfl) (Nat.le_of_ble_eq_true rfl) ?_
    refine lv_aload_n hx hb dX5_readDeposit_51 rfl (lv_at hl 2 rfl) ?_
    refine va_get (D := (dC, dI)) (ci := 4) (v := .int za0_5_36) (C := RX5) (T := TX5) (N := 6) hx hb hts inlX5 hown hK hP 0 rgL9_97de23c rfl 5 (by decide) (hts (.fieldLink RX5 41 "ClosedUntil$TextReader" "fault" "I") qw_97) (fun _ h9 => h9) rfl dX5_readDeposit_52 ?_
    refine lv_iconst (v := (-1)) hx hb dX5_readDeposit_55 (by decide) ?_
    refine lv_icmp_ne (tgt := 76) hx hb dX5_readDeposit_56 (by decide) (fun c56_45 => ?_) (fun c56_45 => ?_)
    · have c56_45 : ¬ (za0_5_36.toInt = (-1)) := mt (cv_eq rfl (by decide)).mpr c56_45
      refine W.widen (k := 0) (n := 0) (Nat.le_of_ble_eq_true rfl) (Nat.le_of_ble_eq_true rfl) ?_
      have hP9 := hP
      have hD9 := hD
      have hK9 := (rgK6_eadb845 hK)
      have hf9_0 : (0 ≤ a0_4.toInt ∧ a0_4.toInt ≤ 36) := by omega
      have hf9_1 : (0 ≤ za0_0_3_37.toInt ∧ za0_0_3_37.toInt ≤ 1000) := by omega
      have hf9_2 : (0 ≤ za0_0_5_39.toInt ∧ za0_0_5_39.toInt ≤ 1000) := by omega
      have hf9_3 : (0 ≤ a1_2.toInt ∧ a1_2.toInt ≤ 4) := by omega
      have hf9_4 : (NOk a0_2_f a0_3_f a0_4) := by assumption
      exact W.vret hx hb hr (fun t ht hW => ⟨⟨(), rfl, trivial, a0_4, za0_5_36, za0_0_3_37, za0_0_4_38, za0_0_5_39, za0_0_6_40, za0_0_7_41, a0_1_f, a0_2_f, a0_3_f, a1_2, y33, hf9_0, hf9_1, hf9_2, hf9_3, hf9_4, atB ht hP9, va_K.moved hW.alike hK9, hD9⟩, hS.F ht⟩) hS.2.2 dX5_readDeposit_76
    · have c56_45 : za0_5_36.toInt = (-1) := (cv_eq rfl (by decide)).mp c56_45
      refine lv_aload_n hx hb dX5_readDeposit_59 rfl (lv_at hl 3 rfl) ?_
      refine lv_dup hx hb dX5_readDeposit_60 rfl ?_
      refine va_getN (D := (dC, dI)) (ci := 0) (v := .int a1_2) (C := RX1) (T := TX1) (N := 14) hx hb hts inlX1 hown hK hP 7 rgL9_1eb08b1 rfl 2 (by decide) (va_Nw.use rfl (nf_31 hN)) (fun _ h9 => h9) rfl dX5_readDeposit_61 ?_
      refine lv_iconst (v := 1) hx hb dX5_readDeposit_64 (by decide) ?_
      refine lv_iadd hx hb dX5_readDeposit_65 ?_
      refine lv_topi (fun x46 e_x46 => ?_)
      try have e_x46 := ti_add e_x46 rfl (show (1 : Int32).toInt = 1 by decide) (by omega)
      refine va_putN (D := (dC, dI)) (ci := 0) (v := .int x46) (ty := .int) (C := RX1) (T := TX1) (N := 14) hx hb hts inlX1 tyX1 tyX1_ok nmX1 hown hK hP hD hS 7 rgL9_1eb08b1 rfl 2 (by decide) (va_Nw.use rfl (nf_31 hN)) (fun _ h9 => h9) rfl (by decide +kernel) rfl rfl (Nat.le_of_ble_eq_true rfl) dX5_readDeposit_66 (fun H locs hP9 hD9 hS9 => ?_)
      clear hP hD hS
      obtain ⟨hP, hD⟩ := rgS9_55c93b5 (e := (a1, .inr (0, [.int a1_0, .ref a1_1, .int x46, .ref a1_3, .int a1_4, .ref a1_5, .ref a1_6, .ref a1_7, .int a1_8, .ref a1_9, .ref a1_10, .ref a1_11, .ref a1_12, .ref a1_13]))) hP9 hD9 rfl
      have hS := hS9; clear hP9 hD9 hS9
      refine lv_aload_n hx hb dX5_readDeposit_69 rfl (lv_at hl 2 rfl) ?_
      refine lv_lload_n hx hb dX5_readDeposit_70 rfl (lv_at hl 0 rfl) ?_
      refine lv_iconst (v := 3) hx hb dX5_readDeposit_71 (by decide) ?_
      refine lv_iload_n hx hb dX5_readDeposit_72 rfl (lv_at hl 1 rfl) ?_
      have qc3 : (3 : Int32).toInt = 3 := by decide
      have hPc := (rgP9_97901ea hP)
      have hKc := (rgK6_3fadc8a hK)
      have hDc := (rgD9_80b6470 hD)
      have hFc := freeW hDc hS hA
      refine va_callv (va_runV (As := [.long r12, .int 3, .int a1_2]) (rest := []) ⟨hx, hb, hml, hown, hts⟩ (k_X5_addName l dC dI g H.size (a0) (r12) (3) (a1_2) (a0_0) (a0_1) (a0_2) (a0_3) (a0_4) (za0_5_36) (a0_1_c) (a0_1_f) (a0_2_c) (a0_2_f) (a0_3_c) (a0_3_f) (by omega) (by assumption) (by omega)) (cwV 3 hts (gwV qw_198 qw_199 qw_200 qw_100 qw_197) rfl rfl rfl (by decide +kernel) ⟨Nat.le_of_ble_eq_true rfl, Nat.le_of_ble_eq_true rfl⟩) ⟨fun a U g9 mk q => ⟨q.1, q.2.1, q.2.2.1, va_K.moved (u := U) (U := U.calling g9 mk a) (Vm.Alike.refl U.vm) q.2.2.2.1, q.2.2.2.2.1, Ev.bl q.2.2.2.2.2⟩, va_recv hK hP (ci := 4) (q0 := 0) rfl rgL9_97de23c, fun U hU hW => ⟨rfl, by rw [hU], atB hU hPc, va_K.moved hW.alike hKc, hDc.weaken (fun _ _ _ _ => trivial), hE.go hS hFc hU hW⟩⟩ rfl rfl hl.1 rfl (lv_room (Nat.le_of_ble_eq_true rfl)) dX5_readDeposit_73 ⟨Nat.le_of_ble_eq_true rfl, Nat.le_of_ble_eq_true rfl⟩) hS (fun q _ h => hFc q h) hFc (fun u47 t H1 locs ht hvm h_u47 hB hz1 hk1 hS => ?_)
      obtain ⟨za0_4_49, za0_1_f_50, za0_2_f_51, za0_3_f_52, hF53, hF54, hP1, hK1, hD1⟩ := hB
      have hK1 := va_K.moved hvm.symm hK1
      have hJ9 := rgJ9_4463bd3 hP hD hk1 hFc (atH ht hP1) hD1
      clear hP hD hPc hKc hDc hFc hP1 hD1 hk1 hz1
      obtain ⟨hP, hD⟩ := hJ9
      clear hK1
      generalize H1 = H at hP hS ⊢
      refine W.widen (k := 0) (n := 0) (Nat.le_of_ble_eq_true rfl) (Nat.le_of_ble_eq_true rfl) ?_
      refine W.widen (k := 0) (n := 0) (Nat.le_of_ble_eq_true rfl) (Nat.le_of_ble_eq_true rfl) ?_
      have hP9 := hP
      have hD9 := hD
      have hK9 := (rgK6_eadb845 hK)
      have hf9_0 : (0 ≤ za0_4_49.toInt ∧ za0_4_49.toInt ≤ 36) := by omega
      have hf9_1 : (0 ≤ za0_0_3_37.toInt ∧ za0_0_3_37.toInt ≤ 1000) := by omega
      have hf9_2 : (0 ≤ za0_0_5_39.toInt ∧ za0_0_5_39.toInt ≤ 1000) := by omega
      have hf9_3 : (0 ≤ x46.toInt ∧ x46.toInt ≤ 4) := by omega
      have hf9_4 : (NOk za0_2_f_51 za0_3_f_52 za0_4_49) := by assumption
      exact W.vret hx hb hr (fun t ht hW => ⟨⟨(), rfl, trivial, za0_4_49, za0_5_36, za0_0_3_37, za0_0_4_38, za0_0_5_39, za0_0_6_40, za0_0_7_41, za0_1_f_50, za0_2_f_51, za0_3_f_52, x46, y33, hf9_0, hf9_1, hf9_2, hf9_3, hf9_4, atB ht hP9, va_K.moved hW.alike hK9, hD9⟩, hS.F ht⟩) hS.2.2 dX5_readDeposit_76
  · have c7_1 : ¬ (a1_2.toInt < 4) := mt (cv_lt rfl (by decide)).mpr c7_1
    refine lv_aload_n hx hb dX5_readDeposit_10 rfl (lv_at hl 1 rfl) ?_
    refine lv_iconst (v := 5) hx hb dX5_readDeposit_11 (by decide) ?_
    refine lv_aload_n hx hb dX5_readDeposit_12 rfl (lv_at hl 1 rfl) ?_
    refine va_get (D := (dC, dI)) (ci := 4) (v := .ref a0_0) (C := RX5) (T := TX5) (N := 6) hx hb hts inlX5 hown hK hP 0 rgL9_97de23c rfl 0 (by decide) (hts (.fieldLink RX5 12 "ClosedUntil$TextReader" "tokens" "LClosedUntil$Tokens;") qw_98) (fun _ h9 => h9) rfl dX5_readDeposit_13 ?_
    refine va_getN (D := (dC, dI)) (ci := 6) (v := .int a0_0_5) (C := RX7) (T := TX7) (N := 8) hx hb hts inlX7 hown hK hP 1 rgL9_8416470 rfl 5 (by decide) (va_Nw.use rfl (nf_3 hN)) (fun _ h9 => h9) rfl dX5_readDeposit_16 ?_
    have qc5 : (5 : Int32).toInt = 5 := by decide
    have hPc := (rgP9_cb41b5f hP)
    have hKc := (rgK6_eadb845 hK)
    have hDc := (rgD9_428f3ed hD)
    have hFc := freeW hDc hS hA
    refine va_callv (va_runV (As := [.int 5, .int a0_0_5]) (rest := []) ⟨hx, hb, hml, hown, hts⟩ (k_X5_fail l dC dI g s.heap.size (a0) (5) (a0_0_5) (a0_0) (a0_1) (a0_2) (a0_3) (a0_4) (a0_5) (by omega) (by omega) (by omega)) (cwV 2 hts (gwV qw_105 qw_106 qw_107 qw_100 qw_104) rfl rfl rfl (by decide +kernel) ⟨Nat.le_of_ble_eq_true rfl, Nat.le_of_ble_eq_true rfl⟩) ⟨fun a U g9 mk q => ⟨q.1, q.2.1, q.2.2.1, va_K.moved (u := U) (U := U.calling g9 mk a) (Vm.Alike.refl U.vm) q.2.2.2.1, q.2.2.2.2.1, Ev.bl q.2.2.2.2.2⟩, va_recv hK hP (ci := 4) (q0 := 0) rfl rgL9_97de23c, fun U hU hW => ⟨rfl, by rw [hU], atB hU hPc, va_K.moved hW.alike hKc, hDc.weaken (fun _ _ _ _ => trivial), hE.go hS hFc hU hW⟩⟩ rfl rfl hl.1 rfl (lv_room (Nat.le_of_ble_eq_true rfl)) dX5_readDeposit_19 ⟨Nat.le_of_ble_eq_true rfl, Nat.le_of_ble_eq_true rfl⟩) hS (fun q _ h => hFc q h) hFc (fun u55 t H1 locs ht hvm h_u55 hB hz1 hk1 hS => ?_)
    obtain ⟨za0_5_57, hF58, hP1, hK1, hD1⟩ := hB
    have hK1 := va_K.moved hvm.symm hK1
    have hJ9 := rgJ9_deacaee hP hD hk1 hFc (atH ht hP1) hD1
    clear hP hD hPc hKc hDc hFc hP1 hD1 hk1 hz1
    obtain ⟨hP, hD⟩ := hJ9
    clear hK1
    generalize H1 = H at hP hS ⊢
    refine W.widen (k := 0) (n := 0) (Nat.le_of_ble_eq_true rfl) (Nat.le_of_ble_eq_true rfl) ?_
    refine W.widen (k := 0) (n := 0) (Nat.le_of_ble_eq_true rfl) (Nat.le_of_ble_eq_true rfl) ?_
    have hP9 := hP
    have hD9 := hD
    have hK9 := (rgK6_eadb845 hK)
    have hf9_0 : (0 ≤ a0_4.toInt ∧ a0_4.toInt ≤ 36) := by omega
    have hf9_1 : (0 ≤ a0_0_3.toInt ∧ a0_0_3.toInt ≤ 1000) := by omega
    have hf9_2 : (0 ≤ a0_0_5.toInt ∧ a0_0_5.toInt ≤ 1000) := by omega
    have hf9_3 : (0 ≤ a1_2.toInt ∧ a1_2.toInt ≤ 4) := by omega
    have hf9_4 : (NOk a0_2_f a0_3_f a0_4) := by assumption
    exact W.vret hx hb hr (fun t ht hW => ⟨⟨(), rfl, trivial, a0_4, za0_5_57, a0_0_3, a0_0_4, a0_0_5, a0_0_6, a0_0_7, a0_1_f, a0_2_f, a0_3_f, a1_2, a1_3_f, hf9_0, hf9_1, hf9_2, hf9_3, hf9_4, atB ht hP9, va_K.moved hW.alike hK9, hD9⟩, hS.F ht⟩) hS.2.2 dX5_readDeposit_22
set_option maxHeartbeats 4000000 in
set_option maxRecDepth 100000 in
theorem k_X5_readPiece (l : Launch) (dC : Nat → ClassId) (dI : Nat → Nat → Nat) (g : Gv) (sz : Nat) (a0 : Nat) (a1 : Nat) (a2 : Nat) (a0_0 : Nat) (a0_1 : Nat) (a0_2 : Nat) (a0_3 : Nat) (a0_4 : Int32) (a0_5 : Int32) (a0_0_0 : Nat) (a0_0_1 : Nat) (a0_0_2 : Int32) (a0_0_3 : Int32) (a0_0_4 : Int32) (a0_0_5 : Int32) (a0_0_6 : Int64) (a0_0_7 : Int32) (a0_0_0_c : ClassId) (a0_0_0_f : Nat → Int64) (a0_0_1_c : ClassId) (a0_0_1_f : Nat → Int32) (a0_1_c : ClassId) (a0_1_f : Nat → Int64) (a0_2_c : ClassId) (a0_2_f : Nat → Int32) (a0_3_c : ClassId) (a0_3_f : Nat → Int32) (a1_0 : Int32) (a1_1 : Nat) (a1_2 : Int32) (a1_3 : Nat) (a1_4 : Int32) (a1_5 : Nat) (a1_6 : Nat) (a1_7 : Nat) (a1_8 : Int32) (a1_9 : Nat) (a1_10 : Nat) (a1_11 : Nat) (a1_12 : Nat) (a1_13 : Nat) (a1_5_c : ClassId) (a1_5_f : Nat → Int32) (a1_6_c : ClassId) (a1_6_f : Nat → Int32) (a1_7_c : ClassId) (a1_7_f : Nat → Int32) (a2_0 : Nat) (a2_1 : Nat) (a2_2 : Nat) (a2_3 : Nat) (a2_4 : Nat) (a2_5 : Nat) (a2_0_c : ClassId) (a2_0_f : Nat → Int32) (h_a0_4 : 0 ≤ a0_4.toInt ∧ a0_4.toInt ≤ 36) (h_a0_0_2 : 0 ≤ a0_0_2.toInt ∧ a0_0_2.toInt ≤ 1000) (h_a0_0_3 : 0 ≤ a0_0_3.toInt ∧ a0_0_3.toInt ≤ 1000) (h_a0_0_5 : 0 ≤ a0_0_5.toInt ∧ a0_0_5.toInt ≤ 1000) (h_a1_0 : 0 ≤ a1_0.toInt ∧ a1_0.toInt ≤ 8) (h_a1_2 : 0 ≤ a1_2.toInt ∧ a1_2.toInt ≤ 4) (h_a1_4 : 0 ≤ a1_4.toInt ∧ a1_4.toInt ≤ 24) (h_a1_8 : 0 ≤ a1_8.toInt ∧ a1_8.toInt ≤ 12) (hno : NOk a0_2_f a0_3_f a0_4) : Met l yX5_readPiece (.code yX5_readPiece cX5_readPiece 6 none :: TBL) ({ frames := 5, cells := 0, slots := 0, locals := 110 }) (va_Pc [.ref a0, .ref a1, .ref a2] (fun U => U.heap.size = sz ∧ va_P (dC, dI) vwCl [(a0, .inr (4, [.ref a0_0, .ref a0_1, .ref a0_2, .ref a0_3, .int a0_4, .int a0_5])), (a0_0, .inr (6, [.ref a0_0_0, .ref a0_0_1, .int a0_0_2, .int a0_0_3, .int a0_0_4, .int a0_0_5, .long a0_0_6, .int a0_0_7])), (a0_0_0, .inl (a0_0_0_c, 12, .inr (.inl a0_0_0_f))), (a0_0_1, .inl (a0_0_1_c, 1000, .inl a0_0_1_f)), (a0_1, .inl (a0_1_c, 36, .inr (.inl a0_1_f))), (a0_2, .inl (a0_2_c, 36, .inl a0_2_f)), (a0_3, .inl (a0_3_c, 36, .inl a0_3_f)), (a1, .inr (0, [.int a1_0, .ref a1_1, .int a1_2, .ref a1_3, .int a1_4, .ref a1_5, .ref a1_6, .ref a1_7, .int a1_8, .ref a1_9, .ref a1_10, .ref a1_11, .ref a1_12, .ref a1_13])), (a1_5, .inl (a1_5_c, 24, .inl a1_5_f)), (a1_6, .inl (a1_6_c, 24, .inl a1_6_f)), (a1_7, .inl (a1_7_c, 24, .inl a1_7_f)), (a2, .inr (2, [.ref a2_0, .ref a2_1, .ref a2_2, .ref a2_3, .ref a2_4, .ref a2_5])), (a2_0, .inl (a2_0_c, 24, .inl a2_0_f))] U.heap ∧ va_K (dC, dI) vwCl [(a0_0_0_c, .long), (a0_0_1_c, .byte), (a0_1_c, .long), (a0_2_c, .int), (a0_3_c, .int), (a1_5_c, .int), (a1_6_c, .int), (a1_7_c, .int), (a2_0_c, .int)] U ∧ va_D (fun _ => True) [(a0, .inr (4, [.ref a0_0, .ref a0_1, .ref a0_2, .ref a0_3, .int a0_4, .int a0_5])), (a0_0, .inr (6, [.ref a0_0_0, .ref a0_0_1, .int a0_0_2, .int a0_0_3, .int a0_0_4, .int a0_0_5, .long a0_0_6, .int a0_0_7])), (a0_0_0, .inl (a0_0_0_c, 12, .inr (.inl a0_0_0_f))), (a0_0_1, .inl (a0_0_1_c, 1000, .inl a0_0_1_f)), (a0_1, .inl (a0_1_c, 36, .inr (.inl a0_1_f))), (a0_2, .inl (a0_2_c, 36, .inl a0_2_f)), (a0_3, .inl (a0_3_c, 36, .inl a0_3_f)), (a1, .inr (0, [.int a1_0, .ref a1_1, .int a1_2, .ref a1_3, .int a1_4, .ref a1_5, .ref a1_6, .ref a1_7, .int a1_8, .ref a1_9, .ref a1_10, .ref a1_11, .ref a1_12, .ref a1_13])), (a1_5, .inl (a1_5_c, 24, .inl a1_5_f)), (a1_6, .inl (a1_6_c, 24, .inl a1_6_f)), (a1_7, .inl (a1_7_c, 24, .inl a1_7_f)), (a2, .inr (2, [.ref a2_0, .ref a2_1, .ref a2_2, .ref a2_3, .ref a2_4, .ref a2_5])), (a2_0, .inl (a2_0_c, 24, .inl a2_0_f))] ∧ Ev g (va_A [(a0, .inr (4, [.ref a0_0, .ref a0_1, .ref a0_2, .ref a0_3, .int a0_4, .int a0_5])), (a0_0, .inr (6, [.ref a0_0_0, .ref a0_0_1, .int a0_0_2, .int a0_0_3, .int a0_0_4, .int a0_0_5, .long a0_0_6, .int a0_0_7])), (a0_0_0, .inl (a0_0_0_c, 12, .inr (.inl a0_0_0_f))), (a0_0_1, .inl (a0_0_1_c, 1000, .inl a0_0_1_f)), (a0_1, .inl (a0_1_c, 36, .inr (.inl a0_1_f))), (a0_2, .inl (a0_2_c, 36, .inl a0_2_f)), (a0_3, .inl (a0_3_c, 36, .inl a0_3_f)), (a1, .inr (0, [.int a1_0, .ref a1_1, .int a1_2, .ref a1_3, .int a1_4, .ref a1_5, .ref a1_6, .ref a1_7, .int a1_8, .ref a1_9, .ref a1_10, .ref a1_11, .ref a1_12, .ref a1_13])), (a1_5, .inl (a1_5_c, 24, .inl a1_5_f)), (a1_6, .inl (a1_6_c, 24, .inl a1_6_f)), (a1_7, .inl (a1_7_c, 24, .inl a1_7_f)), (a2, .inr (2, [.ref a2_0, .ref a2_1, .ref a2_2, .ref a2_3, .ref a2_4, .ref a2_5])), (a2_0, .inl (a2_0_c, 24, .inl a2_0_f))] sz) U)) (va_Qv (fun (_ : Unit) => True) (fun (_ : Unit) (t : State) => ∃ (za0_4 : Int32) (za0_5 : Int32) (za0_0_3 : Int32) (za0_0_4 : Int32) (za0_0_5 : Int32) (za0_0_6 : Int64) (za0_0_7 : Int32) (za0_1_f : Nat → Int64) (za0_2_f : Nat → Int32) (za0_3_f : Nat → Int32) (za1_4 : Int32) (za1_5_f : Nat → Int32) (za1_6_f : Nat → Int32) (za1_7_f : Nat → Int32) (za2_0_f : Nat → Int32), (0 ≤ za0_4.toInt ∧ za0_4.toInt ≤ 36) ∧ (0 ≤ za0_0_3.toInt ∧ za0_0_3.toInt ≤ 1000) ∧ (0 ≤ za0_0_5.toInt ∧ za0_0_5.toInt ≤ 1000) ∧ (0 ≤ za1_4.toInt ∧ za1_4.toInt ≤ 24) ∧ (NOk za0_2_f za0_3_f za0_4) ∧ va_P (dC, dI) vwCl [(a0, .inr (4, [.ref a0_0, .ref a0_1, .ref a0_2, .ref a0_3, .int za0_4, .int za0_5])), (a0_0, .inr (6, [.ref a0_0_0, .ref a0_0_1, .int a0_0_2, .int za0_0_3, .int za0_0_4, .int za0_0_5, .long za0_0_6, .int za0_0_7])), (a0_0_0, .inl (a0_0_0_c, 12, .inr (.inl a0_0_0_f))), (a0_0_1, .inl (a0_0_1_c, 1000, .inl a0_0_1_f)), (a0_1, .inl (a0_1_c, 36, .inr (.inl za0_1_f))), (a0_2, .inl (a0_2_c, 36, .inl za0_2_f)), (a0_3, .inl (a0_3_c, 36, .inl za0_3_f)), (a1, .inr (0, [.int a1_0, .ref a1_1, .int a1_2, .ref a1_3, .int za1_4, .ref a1_5, .ref a1_6, .ref a1_7, .int a1_8, .ref a1_9, .ref a1_10, .ref a1_11, .ref a1_12, .ref a1_13])), (a1_5, .inl (a1_5_c, 24, .inl za1_5_f)), (a1_6, .inl (a1_6_c, 24, .inl za1_6_f)), (a1_7, .inl (a1_7_c, 24, .inl za1_7_f)), (a2, .inr (2, [.ref a2_0, .ref a2_1, .ref a2_2, .ref a2_3, .ref a2_4, .ref a2_5])), (a2_0, .inl (a2_0_c, 24, .inl za2_0_f))] t.heap ∧ va_K (dC, dI) vwCl [] t ∧ va_D (va_A [(a0, .inr (4, [.ref a0_0, .ref a0_1, .ref a0_2, .ref a0_3, .int a0_4, .int a0_5])), (a0_0, .inr (6, [.ref a0_0_0, .ref a0_0_1, .int a0_0_2, .int a0_0_3, .int a0_0_4, .int a0_0_5, .long a0_0_6, .int a0_0_7])), (a0_0_0, .inl (a0_0_0_c, 12, .inr (.inl a0_0_0_f))), (a0_0_1, .inl (a0_0_1_c, 1000, .inl a0_0_1_f)), (a0_1, .inl (a0_1_c, 36, .inr (.inl a0_1_f))), (a0_2, .inl (a0_2_c, 36, .inl a0_2_f)), (a0_3, .inl (a0_3_c, 36, .inl a0_3_f)), (a1, .inr (0, [.int a1_0, .ref a1_1, .int a1_2, .ref a1_3, .int a1_4, .ref a1_5, .ref a1_6, .ref a1_7, .int a1_8, .ref a1_9, .ref a1_10, .ref a1_11, .ref a1_12, .ref a1_13])), (a1_5, .inl (a1_5_c, 24, .inl a1_5_f)), (a1_6, .inl (a1_6_c, 24, .inl a1_6_f)), (a1_7, .inl (a1_7_c, 24, .inl a1_7_f)), (a2, .inr (2, [.ref a2_0, .ref a2_1, .ref a2_2, .ref a2_3, .ref a2_4, .ref a2_5])), (a2_0, .inl (a2_0_c, 24, .inl a2_0_f))] sz) [(a0, .inr (4, [.ref a0_0, .ref a0_1, .ref a0_2, .ref a0_3, .int za0_4, .int za0_5])), (a0_0, .inr (6, [.ref a0_0_0, .ref a0_0_1, .int a0_0_2, .int za0_0_3, .int za0_0_4, .int za0_0_5, .long za0_0_6, .int za0_0_7])), (a0_0_0, .inl (a0_0_0_c, 12, .inr (.inl a0_0_0_f))), (a0_0_1, .inl (a0_0_1_c, 1000, .inl a0_0_1_f)), (a0_1, .inl (a0_1_c, 36, .inr (.inl za0_1_f))), (a0_2, .inl (a0_2_c, 36, .inl za0_2_f)), (a0_3, .inl (a0_3_c, 36, .inl za0_3_f)), (a1, .inr (0, [.int a1_0, .ref a1_1, .int a1_2, .ref a1_3, .int za1_4, .ref a1_5, .ref a1_6, .ref a1_7, .int a1_8, .ref a1_9, .ref a1_10, .ref a1_11, .ref a1_12, .ref a1_13])), (a1_5, .inl (a1_5_c, 24, .inl za1_5_f)), (a1_6, .inl (a1_6_c, 24, .inl za1_6_f)), (a1_7, .inl (a1_7_c, 24, .inl za1_7_f)), (a2, .inr (2, [.ref a2_0, .ref a2_1, .ref a2_2, .ref a2_3, .ref a2_4, .ref a2_5])), (a2_0, .inl (a2_0_c, 24, .inl za2_0_f))]) (va_A [(a0, .inr (4, [.ref a0_0, .ref a0_1, .ref a0_2, .ref a0_3, .int a0_4, .int a0_5])), (a0_0, .inr (6, [.ref a0_0_0, .ref a0_0_1, .int a0_0_2, .int a0_0_3, .int a0_0_4, .int a0_0_5, .long a0_0_6, .int a0_0_7])), (a0_0_0, .inl (a0_0_0_c, 12, .inr (.inl a0_0_0_f))), (a0_0_1, .inl (a0_0_1_c, 1000, .inl a0_0_1_f)), (a0_1, .inl (a0_1_c, 36, .inr (.inl a0_1_f))), (a0_2, .inl (a0_2_c, 36, .inl a0_2_f)), (a0_3, .inl (a0_3_c, 36, .inl a0_3_f)), (a1, .inr (0, [.int a1_0, .ref a1_1, .int a1_2, .ref a1_3, .int a1_4, .ref a1_5, .ref a1_6, .ref a1_7, .int a1_8, .ref a1_9, .ref a1_10, .ref a1_11, .ref a1_12, .ref a1_13])), (a1_5, .inl (a1_5_c, 24, .inl a1_5_f)), (a1_6, .inl (a1_6_c, 24, .inl a1_6_f)), (a1_7, .inl (a1_7_c, 24, .inl a1_7_f)), (a2, .inr (2, [.ref a2_0, .ref a2_1, .ref a2_2, .ref a2_3, .ref a2_4, .ref a2_5])), (a2_0, .inl (a2_0_c, 24, .inl a2_0_f))] sz)) 0 0 (va_A [(a0, .inr (4, [.ref a0_0, .ref a0_1, .ref a0_2, .ref a0_3, .int a0_4, .int a0_5])), (a0_0, .inr (6, [.ref a0_0_0, .ref a0_0_1, .int a0_0_2, .int a0_0_3, .int a0_0_4, .int a0_0_5, .long a0_0_6, .int a0_0_7])), (a0_0_0, .inl (a0_0_0_c, 12, .inr (.inl a0_0_0_f))), (a0_0_1, .inl (a0_0_1_c, 1000, .inl a0_0_1_f)), (a0_1, .inl (a0_1_c, 36, .inr (.inl a0_1_f))), (a0_2, .inl (a0_2_c, 36, .inl a0_2_f)), (a0_3, .inl (a0_3_c, 36, .inl a0_3_f)), (a1, .inr (0, [.int a1_0, .ref a1_1, .int a1_2, .ref a1_3, .int a1_4, .ref a1_5, .ref a1_6, .ref a1_7, .int a1_8, .ref a1_9, .ref a1_10, .ref a1_11, .ref a1_12, .ref a1_13])), (a1_5, .inl (a1_5_c, 24, .inl a1_5_f)), (a1_6, .inl (a1_6_c, 24, .inl a1_6_f)), (a1_7, .inl (a1_7_c, 24, .inl a1_7_f)), (a2, .inr (2, [.ref a2_0, .ref a2_1, .ref a2_2, .ref a2_3, .ref a2_4, .ref a2_5])), (a2_0, .inl (a2_0_c, 24, .inl a2_0_f))] sz) := by
  refine Met.ofW (cc := cX5_readPiece) (maxL := 6) (ret := none) (by decide) rfl ?_
  intro p e s m args below meth c s₁ B hml hv
  obtain ⟨rfl, hsz, hP, hK, hD0, hE⟩ := hv
  have hx := B.exec
  have hb := B.bytes
  have hr := B.returns
  have hts0 := atoms_spec (ws := (.code yX5_readPiece cX5_readPiece 6 none :: TBL)) B.pre
  have hts := fun (w : Cond) (h : w ∈ TBL) => hts0 w (List.mem_cons_of_mem _ h)
  have hown : s.vm.findClass RX5 = some m.cls := findClass_of_methodNamed B.named
  have hlocks := B.notSynchronized
  have hN := hE.1
  subst hsz
  have hD := hD0.self (sz := s.heap.size)
  generalize hAe : va_A [(a0, .inr (4, [.ref a0_0, .ref a0_1, .ref a0_2, .ref a0_3, .int a0_4, .int a0_5])), (a0_0, .inr (6, [.ref a0_0_0, .ref a0_0_1, .int a0_0_2, .int a0_0_3, .int a0_0_4, .int a0_0_5, .long a0_0_6, .int a0_0_7])), (a0_0_0, .inl (a0_0_0_c, 12, .inr (.inl a0_0_0_f))), (a0_0_1, .inl (a0_0_1_c, 1000, .inl a0_0_1_f)), (a0_1, .inl (a0_1_c, 36, .inr (.inl a0_1_f))), (a0_2, .inl (a0_2_c, 36, .inl a0_2_f)), (a0_3, .inl (a0_3_c, 36, .inl a0_3_f)), (a1, .inr (0, [.int a1_0, .ref a1_1, .int a1_2, .ref a1_3, .int a1_4, .ref a1_5, .ref a1_6, .ref a1_7, .int a1_8, .ref a1_9, .ref a1_10, .ref a1_11, .ref a1_12, .ref a1_13])), (a1_5, .inl (a1_5_c, 24, .inl a1_5_f)), (a1_6, .inl (a1_6_c, 24, .inl a1_6_f)), (a1_7, .inl (a1_7_c, 24, .inl a1_7_f)), (a2, .inr (2, [.ref a2_0, .ref a2_1, .ref a2_2, .ref a2_3, .ref a2_4, .ref a2_5])), (a2_0, .inl (a2_0_c, 24, .inl a2_0_f))] s.heap.size = A at hD hE ⊢
  have hA : ∀ q : Nat, s.heap.size ≤ q → A q := fun q h => by rw [← hAe]; exact Or.inr h
  have hS : va_S A s.heap s.heap [] := va_S.rf
  replace hP : va_P (dC, dI) vwCl [(a0, .inr (4, [.ref a0_0, .ref a0_1, .ref a0_2, .ref a0_3, .int a0_4, .int a0_5])), (a0_0, .inr (6, [.ref a0_0_0, .ref a0_0_1, .int a0_0_2, .int a0_0_3, .int a0_0_4, .int a0_0_5, .long a0_0_6, .int a0_0_7])), (a0_0_0, .inl (a0_0_0_c, 12, .inr (.inl a0_0_0_f))), (a0_0_1, .inl (a0_0_1_c, 1000, .inl a0_0_1_f)), (a0_1, .inl (a0_1_c, 36, .inr (.inl a0_1_f))), (a0_2, .inl (a0_2_c, 36, .inl a0_2_f)), (a0_3, .inl (a0_3_c, 36, .inl a0_3_f)), (a1, .inr (0, [.int a1_0, .ref a1_1, .int a1_2, .ref a1_3, .int a1_4, .ref a1_5, .ref a1_6, .ref a1_7, .int a1_8, .ref a1_9, .ref a1_10, .ref a1_11, .ref a1_12, .ref a1_13])), (a1_5, .inl (a1_5_c, 24, .inl a1_5_f)), (a1_6, .inl (a1_6_c, 24, .inl a1_6_f)), (a1_7, .inl (a1_7_c, 24, .inl a1_7_f)), (a2, .inr (2, [.ref a2_0, .ref a2_1, .ref a2_2, .ref a2_3, .ref a2_4, .ref a2_5])), (a2_0, .inl (a2_0_c, 24, .inl a2_0_f))] s.heap := hP
  have hl := lv_entry ([.ref a0, .ref a1, .ref a2]) (n := 6) (Nat.le_of_ble_eq_true rfl)
  rw [lg_entry_eq]
  generalize (lg_sl ([.ref a0, .ref a1, .ref a2]) ++ List.replicate (6 - (lg_sl ([.ref a0, .ref a1, .ref a2])).length) Slot.unset).toArray = ls at hl ⊢
  have hl : lv_has ls 6 [(0, .ref a0), (1, .ref a1), (2, .ref a2)] := hl
  have b_a0_5 := i32b a0_5
  have b_a0_0_4 := i32b a0_0_4
  have b_a0_0_7 := i32b a0_0_7
  refine lv_aload_n hx hb dX5_readPiece_0 rfl (lv_at hl 1 rfl) ?_
  refine va_getN (D := (dC, dI)) (ci := 0) (v := .int a1_4) (C := RX1) (T := TX1) (N := 14) hx hb hts inlX1 hown hK hP 7 rgL13_37f2d2a rfl 4 (by decide) (va_Nw.use rfl (nf_36 hN)) (fun _ h9 => h9) rfl dX5_readPiece_1 ?_
  refine lv_istore_n (lv' := [(3, .int a1_4), (0, .ref a0), (1, .ref a1), (2, .ref a2)]) hx hb dX5_readPiece_4 rfl hl (by decide) rfl (fun ls hl => ?_)
  refine lv_iload_n hx hb dX5_readPiece_5 rfl (lv_at hl 0 rfl) ?_
  refine lv_bipush (v := 24) hx hb dX5_readPiece_6 (by decide) ?_
  refine lv_icmp_lt (tgt := 24) hx hb dX5_readPiece_8 (by decide) (fun c8_1 => ?_) (fun c8_1 => ?_)
  · have c8_1 : a1_4.toInt < 24 := (cv_lt rfl (by decide)).mp c8_1
    refine lv_aload_n hx hb dX5_readPiece_24 rfl (lv_at hl 1 rfl) ?_
    refine va_get (D := (dC, dI)) (ci := 4) (v := .ref a0_0) (C := RX5) (T := TX5) (N := 6) hx hb hts inlX5 hown hK hP 0 rgL13_890e5ad rfl 0 (by decide) (hts (.fieldLink RX5 12 "ClosedUntil$TextReader" "tokens" "LClosedUntil$Tokens;") qw_98) (fun _ h9 => h9) rfl dX5_readPiece_25 ?_
    have hPc := (rgP13_17b4e51 hP)
    have hKc := (rgK9_2a876ff hK)
    have hDc := (rgD13_e5bb7df hD)
    have hFc := freeW hDc hS hA
    refine va_callv (va_runVN (As := []) (rest := []) ⟨hx, hb, hml, hown, hts⟩ (k_X7_advance l dC dI g s.heap.size (a0_0) (a0_0_0) (a0_0_1) (a0_0_2) (a0_0_3) (a0_0_4) (a0_0_5) (a0_0_6) (a0_0_7) (a0_0_0_c) (a0_0_0_f) (a0_0_1_c) (a0_0_1_f) (by omega) (by omega) (by omega)) ⟨va_cnB 0 hts (gwC qw_93) rfl rfl rfl (nm_13 hN) (hts (.initialized RX7) qw_70) (by decide +kernel) ⟨Nat.le_of_ble_eq_true rfl, Nat.le_of_ble_eq_true rfl⟩, (hts (.instanceMethod yX7_advance) qw_95), (hts (.selects RX7 yX7_advance yX7_advance) qw_96)⟩ ⟨fun a U g9 mk q => ⟨q.1, q.2.1, q.2.2.1, va_K.moved (u := U) (U := U.calling g9 mk a) (Vm.Alike.refl U.vm) q.2.2.2.1, q.2.2.2.2.1, Ev.bl q.2.2.2.2.2⟩, va_recv hK hP (ci := 6) (q0 := 1) rfl rgL13_042e8a6, fun U hU hW => ⟨rfl, by rw [hU], atB hU hPc, va_K.moved hW.alike hKc, hDc.weaken (fun _ _ _ _ => trivial), hE.go hS hFc hU hW⟩⟩ rfl rfl hl.1 rfl (lv_room (Nat.le_of_ble_eq_true rfl)) dX5_readPiece_28 ⟨Nat.le_of_ble_eq_true rfl, Nat.le_of_ble_eq_true rfl⟩) hS (fun q _ h => hFc q h) hFc (fun u2 t H1 locs ht hvm h_u2 hB hz1 hk1 hS => ?_)
    obtain ⟨za0_3_4, za0_4_5, za0_5_6, za0_6_7, za0_7_8, hF9, hF10, hP1, hK1, hD1⟩ := hB
    have hK1 := va_K.moved hvm.symm hK1
    have hJ9 := rgJ13_e1b1c38 hP hD hk1 hFc (atH ht hP1) hD1
    clear hP hD hPc hKc hDc hFc hP1 hD1 hk1 hz1
    obtain ⟨hP, hD⟩ := hJ9
    clear hK1
    generalize H1 = H at hP hS ⊢
    refine W.widen (k := 0) (n := 0) (Nat.le_of_ble_eq_true rfl) (Nat.le_of_ble_eq_true rfl) ?_
    refine lv_aload_n hx hb dX5_readPiece_31 rfl (lv_at hl 1 rfl) ?_
    have hPc := (rgP13_083a1f4 hP)
    have hKc := (rgK9_8c12c1d hK)
    have hDc := (rgD13_99fac62 hD)
    have hFc := freeW hDc hS hA
    refine va_calll (va_runV (As := []) (rest := []) ⟨hx, hb, hml, hown, hts⟩ (k_X5_readNewName l dC dI g H.size (a0) (a0_0) (a0_1) (a0_2) (a0_3) (a0_4) (a0_5) (a0_0_0) (a0_0_1) (a0_0_2) (za0_3_4) (za0_4_5) (za0_5_6) (za0_6_7) (za0_7_8) (a0_0_0_c) (a0_0_0_f) (a0_0_1_c) (a0_0_1_f) (a0_1_c) (a0_1_f) (by omega) (by omega) (by omega) (by omega)) (cwV 0 hts (gwV qw_190 qw_191 qw_192 qw_100 qw_189) rfl rfl rfl (by decide +kernel) ⟨Nat.le_of_ble_eq_true rfl, Nat.le_of_ble_eq_true rfl⟩) ⟨fun a U g9 mk q => ⟨q.1, q.2.1, q.2.2.1, va_K.moved (u := U) (U := U.calling g9 mk a) (Vm.Alike.refl U.vm) q.2.2.2.1, q.2.2.2.2.1, Ev.bl q.2.2.2.2.2⟩, va_recv hK hP (ci := 4) (q0 := 0) rfl rgL13_890e5ad, fun U hU hW => ⟨rfl, by rw [hU], atB hU hPc, va_K.moved hW.alike hKc, hDc.weaken (fun _ _ _ _ => trivial), hE.go hS hFc hU hW⟩⟩ rfl rfl hl.1 rfl (lv_room (Nat.le_of_ble_eq_true rfl)) dX5_readPiece_32 ⟨Nat.le_of_ble_eq_true rfl, Nat.le_of_ble_eq_true rfl⟩) hS (fun q _ h => hFc q h) hFc (fun r12 u11 t H1 locs ht hvm h_u11 hB hz1 hk1 hS => ?_)
    obtain ⟨za0_5_13, za0_0_3_14, za0_0_4_15, za0_0_5_16, za0_0_6_17, za0_0_7_18, hF19, hF20, hF21, hP1, hK1, hD1⟩ := hB
    have hK1 := va_K.moved hvm.symm hK1
    have hJ9 := rgJ13_cb5dedb hP hD hk1 hFc (atH ht hP1) hD1
    clear hP hD hPc hKc hDc hFc hP1 hD1 hk1 hz1
    obtain ⟨hP, hD⟩ := hJ9
    clear hK1
    generalize H1 = H at hP hS ⊢
    refine W.widen (k := 0) (n := 0) (Nat.le_of_ble_eq_true rfl) (Nat.le_of_ble_eq_true rfl) ?_
    refine lv_lstore (lv' := [(4, .long r12), (3, .int a1_4), (0, .ref a0), (1, .ref a1), (2, .ref a2)]) hx hb dX5_readPiece_35 hl (by decide) rfl (fun ls hl => ?_)
    refine lv_aload_n hx hb dX5_readPiece_37 rfl (lv_at hl 4 rfl) ?_
    refine va_getN (D := (dC, dI)) (ci := 2) (v := .ref a2_0) (C := RX3) (T := TX3) (N := 6) hx hb hts inlX3 hown hK hP 11 rgL13_cc99607 rfl 0 (by decide) (va_Nw.use rfl (nf_12 hN)) (fun _ h9 => h9) rfl dX5_readPiece_38 ?_
    refine lv_iload_n hx hb dX5_readPiece_41 rfl (lv_at hl 1 rfl) ?_
    refine lv_aload_n hx hb dX5_readPiece_42 rfl (lv_at hl 2 rfl) ?_
    refine lv_iconst (v := 5) hx hb dX5_readPiece_43 (by decide) ?_
    have qc5 : (5 : Int32).toInt = 5 := by decide
    have hPc := (rgP13_688883d hP)
    have hKc := (rgK9_2a876ff hK)
    have hDc := (rgD13_143f4da hD)
    have hFc := freeW hDc hS hA
    refine va_calli (va_runV (As := [.int 5]) (rest := [.int a1_4, .ref a2_0]) ⟨hx, hb, hml, hown, hts⟩ (k_X5_passes l dC dI g H.size (a0) (5) (a0_0) (a0_1) (a0_2) (a0_3) (a0_4) (za0_5_13) (a0_0_0) (a0_0_1) (a0_0_2) (za0_0_3_14) (za0_0_4_15) (za0_0_5_16) (za0_0_6_17) (za0_0_7_18) (a0_0_0_c) (a0_0_0_f) (a0_0_1_c) (a0_0_1_f) (by omega) (by omega) (by omega) (by omega)) (cwV 1 hts (gwV qw_101 qw_102 qw_103 qw_100 qw_99) rfl rfl rfl (by decide +kernel) ⟨Nat.le_of_ble_eq_true rfl, Nat.le_of_ble_eq_true rfl⟩) ⟨fun a U g9 mk q => ⟨q.1, q.2.1, q.2.2.1, va_K.moved (u := U) (U := U.calling g9 mk a) (Vm.Alike.refl U.vm) q.2.2.2.1, q.2.2.2.2.1, Ev.bl q.2.2.2.2.2⟩, va_recv hK hP (ci := 4) (q0 := 0) rfl rgL13_890e5ad, fun U hU hW => ⟨rfl, by rw [hU], atB hU hPc, va_K.moved hW.alike hKc, hDc.weaken (fun _ _ _ _ => trivial), hE.go hS hFc hU hW⟩⟩ rfl rfl hl.1 rfl (lv_room (Nat.le_of_ble_eq_true rfl)) dX5_readPiece_44 ⟨Nat.le_of_ble_eq_true rfl, Nat.le_of_ble_eq_true rfl⟩) hS (fun q _ h => hFc q h) hFc (fun r23 u22 t H1 locs ht hvm h_u22 hB hz1 hk1 hS => ?_)
    obtain ⟨za0_0_3_24, za0_0_4_25, za0_0_5_26, za0_0_6_27, za0_0_7_28, hF29, hF30, hF31, hP1, hK1, hD1⟩ := hB
    have hK1 := va_K.moved hvm.symm hK1
    have hJ9 := rgJ13_d0dfb98 hP hD hk1 hFc (atH ht hP1) hD1
    clear hP hD hPc hKc hDc hFc hP1 hD1 hk1 hz1
    obtain ⟨hP, hD⟩ := hJ9
    clear hK1
    generalize H1 = H at hP hS ⊢
    refine W.widen (k := 0) (n := 0) (Nat.le_of_ble_eq_true rfl) (Nat.le_of_ble_eq_true rfl) ?_
    have h_r23 := congrArg Int32.toInt h_u22
    have hz_r23 : r23 = 0 ∨ r23 = 1 := h_u22 ▸ hF31
    have b_r23 := z01 hz_r23
    refine lv_if_eq (tgt := 58) hx hb dX5_readPiece_47 (by decide) (fun c47_32 => ?_) (fun c47_32 => ?_)
    · have c47_32 : r23.toInt = 0 := (cv_eq rfl (by decide)).mp c47_32
      refine lv_iconst (v := (-1)) hx hb dX5_readPiece_58 (by decide) ?_
      refine va_iast hx hb hK hP hD hS 12 8 rgL13_551ea76 rgT9_e83ad87 (vinI (by omega) (by omega)) dX5_readPiece_59 (fun H locs hP9 hD9 hS9 => ?_)
      obtain ⟨y33, e_y33⟩ : ∃ y, (upd a2_0_f a1_4.toNatClampNeg ((-1))) = y := ⟨_, rfl⟩
      clear hP hD hS
      obtain ⟨hP, hD⟩ := rgS13_979e4b8 (e := (a2_0, .inl (a2_0_c, 24, .inl y33))) hP9 hD9 (congrArg (fun z9 => (((a2_0, .inl (a2_0_c, 24, .inl z9)) : Nat × va_E))) e_y33)
      have hS := hS9; clear hP9 hD9 hS9
      refine lv_aload_n hx hb dX5_readPiece_60 rfl (lv_at hl 3 rfl) ?_
      refine va_getN (D := (dC, dI)) (ci := 0) (v := .ref a1_5) (C := RX1) (T := TX1) (N := 14) hx hb hts inlX1 hown hK hP 7 rgL13_37f2d2a rfl 5 (by decide) (va_Nw.use rfl (nf_38 hN)) (fun _ h9 => h9) rfl dX5_readPiece_61 ?_
      refine lv_iload_n hx hb dX5_readPiece_64 rfl (lv_at hl 1 rfl) ?_
      refine lv_aload_n hx hb dX5_readPiece_65 rfl (lv_at hl 2 rfl) ?_
      have hPc := (rgP13_688883d hP)
      have hKc := (rgK9_2a876ff hK)
      have hDc := (rgD13_143f4da hD)
      have hFc := freeW hDc hS hA
      refine va_calli (va_runV (As := []) (rest := [.int a1_4, .ref a1_5]) ⟨hx, hb, hml, hown, hts⟩ (k_X5_readDate l dC dI g H.size (a0) (a0_0) (a0_1) (a0_2) (a0_3) (a0_4) (za0_5_13) (a0_0_0) (a0_0_1) (a0_0_2) (za0_0_3_24) (za0_0_4_25) (za0_0_5_26) (za0_0_6_27) (za0_0_7_28) (a0_0_0_c) (a0_0_0_f) (a0_0_1_c) (a0_0_1_f) (by omega) (by omega) (by omega) (by omega)) (cwV 0 hts (gwV qw_202 qw_203 qw_204 qw_100 qw_201) rfl rfl rfl (by decide +kernel) ⟨Nat.le_of_ble_eq_true rfl, Nat.le_of_ble_eq_true rfl⟩) ⟨fun a U g9 mk q => ⟨q.1, q.2.1, q.2.2.1, va_K.moved (u := U) (U := U.calling g9 mk a) (Vm.Alike.refl U.vm) q.2.2.2.1, q.2.2.2.2.1, Ev.bl q.2.2.2.2.2⟩, va_recv hK hP (ci := 4) (q0 := 0) rfl rgL13_890e5ad, fun U hU hW => ⟨rfl, by rw [hU], atB hU hPc, va_K.moved hW.alike hKc, hDc.weaken (fun _ _ _ _ => trivial), hE.go hS hFc hU hW⟩⟩ rfl rfl hl.1 rfl (lv_room (Nat.le_of_ble_eq_true rfl)) dX5_readPiece_66 ⟨Nat.le_of_ble_eq_true rfl, Nat.le_of_ble_eq_true rfl⟩) hS (fun q _ h => hFc q h) hFc (fun r35 u34 t H1 locs ht hvm h_u34 hB hz1 hk1 hS => ?_)
      obtain ⟨za0_5_36, za0_0_3_37, za0_0_4_38, za0_0_5_39, za0_0_6_40, za0_0_7_41, hF42, hF43, hF44, hP1, hK1, hD1⟩ := hB
      have hK1 := va_K.moved hvm.symm hK1
      have hJ9 := rgJ13_d0dfb98 hP hD hk1 hFc (atH ht hP1) hD1
      clear hP hD hPc hKc hDc hFc hP1 hD1 hk1 hz1
      obtain ⟨hP, hD⟩ := hJ9
      clear hK1
      generalize H1 = H at hP hS ⊢
      refine W.widen (k := 0) (n := 0) (Nat.le_of_ble_eq_true rfl) (Nat.le_of_ble_eq_true rfl) ?_
      have h_r35 := congrArg Int32.toInt h_u34
      have b_r35 := i32b r35
      refine va_iast hx hb hK hP hD hS 8 5 rgL13_f102f36 rgT9_6f20d7e (vinI (by omega) (by omega)) dX5_readPiece_69 (fun H locs hP9 hD9 hS9 => ?_)
      obtain ⟨y45, e_y45⟩ : ∃ y, (upd a1_5_f a1_4.toNatClampNeg r35) = y := ⟨_, rfl⟩
      clear hP hD hS
      obtain ⟨hP, hD⟩ := rgS13_f10bd06 (e := (a1_5, .inl (a1_5_c, 24, .inl y45))) hP9 hD9 (congrArg (fun z9 => (((a1_5, .inl (a1_5_c, 24, .inl z9)) : Nat × va_E))) e_y45)
      have hS := hS9; clear hP9 hD9 hS9
      refine lv_aload_n hx hb dX5_readPiece_70 rfl (lv_at hl 3 rfl) ?_
      refine va_getN (D := (dC, dI)) (ci := 0) (v := .ref a1_6) (C := RX1) (T := TX1) (N := 14) hx hb hts inlX1 hown hK hP 7 rgL13_37f2d2a rfl 6 (by decide) (va_Nw.use rfl (nf_41 hN)) (fun _ h9 => h9) rfl dX5_readPiece_71 ?_
      refine lv_iload_n hx hb dX5_readPiece_74 rfl (lv_at hl 1 rfl) ?_
      refine lv_aload_n hx hb dX5_readPiece_75 rfl (lv_at hl 2 rfl) ?_
      have hPc := (rgP13_2c0acea hP)
      have hKc := (rgK9_ac80f80 hK)
      have hDc := (rgD13_2c0914f hD)
      have hFc := freeW hDc hS hA
      refine va_calli (va_runV (As := []) (rest := [.int a1_4, .ref a1_6]) ⟨hx, hb, hml, hown, hts⟩ (k_X5_readPeopleOf l dC dI g H.size (a0) (a0_0) (a0_1) (a0_2) (a0_3) (a0_4) (za0_5_36) (a0_0_0) (a0_0_1) (a0_0_2) (za0_0_3_37) (za0_0_4_38) (za0_0_5_39) (za0_0_6_40) (za0_0_7_41) (a0_0_0_c) (a0_0_0_f) (a0_0_1_c) (a0_0_1_f) (a0_1_c) (a0_1_f) (a0_2_c) (a0_2_f) (a0_3_c) (a0_3_f) (by omega) (by omega) (by omega) (by omega) (by assumption)) (cwV 0 hts (gwV qw_206 qw_207 qw_208 qw_100 qw_205) rfl rfl rfl (by decide +kernel) ⟨Nat.le_of_ble_eq_true rfl, Nat.le_of_ble_eq_true rfl⟩) ⟨fun a U g9 mk q => ⟨q.1, q.2.1, q.2.2.1, va_K.moved (u := U) (U := U.calling g9 mk a) (Vm.Alike.refl U.vm) q.2.2.2.1, q.2.2.2.2.1, Ev.bl q.2.2.2.2.2⟩, va_recv hK hP (ci := 4) (q0 := 0) rfl rgL13_890e5ad, fun U hU hW => ⟨rfl, by rw [hU], atB hU hPc, va_K.moved hW.alike hKc, hDc.weaken (fun _ _ _ _ => trivial), hE.go hS hFc hU hW⟩⟩ rfl rfl hl.1 rfl (lv_room (Nat.le_of_ble_eq_true rfl)) dX5_readPiece_76 ⟨Nat.le_of_ble_eq_true rfl, Nat.le_of_ble_eq_true rfl⟩) hS (fun q _ h => hFc q h) hFc (fun r47 u46 t H1 locs ht hvm h_u46 hB hz1 hk1 hS => ?_)
      obtain ⟨za0_5_48, za0_0_3_49, za0_0_4_50, za0_0_5_51, za0_0_6_52, za0_0_7_53, hF54, hF55, hF56, hP1, hK1, hD1⟩ := hB
      have hK1 := va_K.moved hvm.symm hK1
      have hJ9 := rgJ13_7c0c7c9 hP hD hk1 hFc (atH ht hP1) hD1
      clear hP hD hPc hKc hDc hFc hP1 hD1 hk1 hz1
      obtain ⟨hP, hD⟩ := hJ9
      clear hK1
      generalize H1 = H at hP hS ⊢
      refine W.widen (k := 0) (n := 0) (Nat.le_of_ble_eq_true rfl) (Nat.le_of_ble_eq_true rfl) ?_
      have h_r47 := congrArg Int32.toInt h_u46
      have b_r47 := i32b r47
      refine va_iast hx hb hK hP hD hS 9 6 rgL13_1206a9c rgT9_4ac895f (vinI (by omega) (by omega)) dX5_readPiece_79 (fun H locs hP9 hD9 hS9 => ?_)
      obtain ⟨y57, e_y57⟩ : ∃ y, (upd a1_6_f a1_4.toNatClampNeg r47) = y := ⟨_, rfl⟩
      clear hP hD hS
      obtain ⟨hP, hD⟩ := rgS13_b3ba14e (e := (a1_6, .inl (a1_6_c, 24, .inl y57))) hP9 hD9 (congrArg (fun z9 => (((a1_6, .inl (a1_6_c, 24, .inl z9)) : Nat × va_E))) e_y57)
      have hS := hS9; clear hP9 hD9 hS9
      refine lv_aload_n hx hb dX5_readPiece_80 rfl (lv_at hl 3 rfl) ?_
      refine va_getN (D := (dC, dI)) (ci := 0) (v := .ref a1_7) (C := RX1) (T := TX1) (N := 14) hx hb hts inlX1 hown hK hP 7 rgL13_37f2d2a rfl 7 (by decide) (va_Nw.use rfl (nf_43 hN)) (fun _ h9 => h9) rfl dX5_readPiece_81 ?_
      refine lv_iload_n hx hb dX5_readPiece_84 rfl (lv_at hl 1 rfl) ?_
      refine lv_aload_n hx hb dX5_readPiece_85 rfl (lv_at hl 2 rfl) ?_
      refine lv_bipush (v := 7) hx hb dX5_readPiece_86 (by decide) ?_
      have qc7 : (7 : Int32).toInt = 7 := by decide
      have hPc := (rgP13_688883d hP)
      have hKc := (rgK9_2a876ff hK)
      have hDc := (rgD13_143f4da hD)
      have hFc := freeW hDc hS hA
      refine va_calli (va_runV (As := [.int 7]) (rest := [.int a1_4, .ref a1_7]) ⟨hx, hb, hml, hown, hts⟩ (k_X5_passes l dC dI g H.size (a0) (7) (a0_0) (a0_1) (a0_2) (a0_3) (a0_4) (za0_5_48) (a0_0_0) (a0_0_1) (a0_0_2) (za0_0_3_49) (za0_0_4_50) (za0_0_5_51) (za0_0_6_52) (za0_0_7_53) (a0_0_0_c) (a0_0_0_f) (a0_0_1_c) (a0_0_1_f) (by omega) (by omega) (by omega) (by omega)) (cwV 1 hts (gwV qw_101 qw_102 qw_103 qw_100 qw_99) rfl rfl rfl (by decide +kernel) ⟨Nat.le_of_ble_eq_true rfl, Nat.le_of_ble_eq_true rfl⟩) ⟨fun a U g9 mk q => ⟨q.1, q.2.1, q.2.2.1, va_K.moved (u := U) (U := U.calling g9 mk a) (Vm.Alike.refl U.vm) q.2.2.2.1, q.2.2.2.2.1, Ev.bl q.2.2.2.2.2⟩, va_recv hK hP (ci := 4) (q0 := 0) rfl rgL13_890e5ad, fun U hU hW => ⟨rfl, by rw [hU], atB hU hPc, va_K.moved hW.alike hKc, hDc.weaken (fun _ _ _ _ => trivial), hE.go hS hFc hU hW⟩⟩ rfl rfl hl.1 rfl (lv_room (Nat.le_of_ble_eq_true rfl)) dX5_readPiece_88 ⟨Nat.le_of_ble_eq_true rfl, Nat.le_of_ble_eq_true rfl⟩) hS (fun q _ h => hFc q h) hFc (fun r59 u58 t H1 locs ht hvm h_u58 hB hz1 hk1 hS => ?_)
      obtain ⟨za0_0_3_60, za0_0_4_61, za0_0_5_62, za0_0_6_63, za0_0_7_64, hF65, hF66, hF67, hP1, hK1, hD1⟩ := hB
      have hK1 := va_K.moved hvm.symm hK1
      have hJ9 := rgJ13_d0dfb98 hP hD hk1 hFc (atH ht hP1) hD1
      clear hP hD hPc hKc hDc hFc hP1 hD1 hk1 hz1
      obtain ⟨hP, hD⟩ := hJ9
      clear hK1
      generalize H1 = H at hP hS ⊢
      refine W.widen (k := 0) (n := 0) (Nat.le_of_ble_eq_true rfl) (Nat.le_of_ble_eq_true rfl) ?_
      have h_r59 := congrArg Int32.toInt h_u58
      have hz_r59 : r59 = 0 ∨ r59 = 1 := h_u58 ▸ hF67
      have b_r59 := z01 hz_r59
      refine lv_if_eq (tgt := 102) hx hb dX5_readPiece_91 (by decide) (fun c91_68 => ?_) (fun c91_68 => ?_)
      · have c91_68 : r59.toInt = 0 := (cv_eq rfl (by decide)).mp c91_68
        refine lv_iconst (v := (-1)) hx hb dX5_readPiece_102 (by decide) ?_
        refine va_iast hx hb hK hP hD hS 10 7 rgL13_e69bf83 rgT9_b6a8be7 (vinI (by omega) (by omega)) dX5_readPiece_103 (fun H locs hP9 hD9 hS9 => ?_)
        obtain ⟨y69, e_y69⟩ : ∃ y, (upd a1_7_f a1_4.toNatClampNeg ((-1))) = y := ⟨_, rfl⟩
        clear hP hD hS
        obtain ⟨hP, hD⟩ := rgS13_ab58875 (e := (a1_7, .inl (a1_7_c, 24, .inl y69))) hP9 hD9 (congrArg (fun z9 => (((a1_7, .inl (a1_7_c, 24, .inl z9)) : Nat × va_E))) e_y69)
        have hS := hS9; clear hP9 hD9 hS9
        refine lv_aload_n hx hb dX5_readPiece_104 rfl (lv_at hl 2 rfl) ?_
        refine lv_bipush (v := 14) hx hb dX5_readPiece_105 (by decide) ?_
        have qc14 : (14 : Int32).toInt = 14 := by decide
        have hPc := (rgP13_688883d hP)
        have hKc := (rgK9_2a876ff hK)
        have hDc := (rgD13_143f4da hD)
        have hFc := freeW hDc hS hA
        refine va_callv (va_runV (As := [.int 14]) (rest := []) ⟨hx, hb, hml, hown, hts⟩ (k_X5_pass l dC dI g H.size (a0) (14) (a0_0) (a0_1) (a0_2) (a0_3) (a0_4) (za0_5_48) (a0_0_0) (a0_0_1) (a0_0_2) (za0_0_3_60) (za0_0_4_61) (za0_0_5_62) (za0_0_6_63) (za0_0_7_64) (a0_0_0_c) (a0_0_0_f) (a0_0_1_c) (a0_0_1_f) (by omega) (by omega) (by omega) (by omega)) (cwV 1 hts (gwV qw_194 qw_195 qw_196 qw_100 qw_193) rfl rfl rfl (by decide +kernel) ⟨Nat.le_of_ble_eq_true rfl, Nat.le_of_ble_eq_true rfl⟩) ⟨fun a U g9 mk q => ⟨q.1, q.2.1, q.2.2.1, va_K.moved (u := U) (U := U.calling g9 mk a) (Vm.Alike.refl U.vm) q.2.2.2.1, q.2.2.2.2.1, Ev.bl q.2.2.2.2.2⟩, va_recv hK hP (ci := 4) (q0 := 0) rfl rgL13_890e5ad, fun U hU hW => ⟨rfl, by rw [hU], atB hU hPc, va_K.moved hW.alike hKc, hDc.weaken (fun _ _ _ _ => trivial), hE.go hS hFc hU hW⟩⟩ rfl rfl hl.1 rfl (lv_room (Nat.le_of_ble_eq_true rfl)) dX5_readPiece_107 ⟨Nat.le_of_ble_eq_true rfl, Nat.le_of_ble_eq_true rfl⟩) hS (fun q _ h => hFc q h) hFc (fun u70 t H1 locs ht hvm h_u70 hB hz1 hk1 hS => ?_)
        obtain ⟨za0_5_72, za0_0_3_73, za0_0_4_74, za0_0_5_75, za0_0_6_76, za0_0_7_77, hF78, hF79, hF80, hP1, hK1, hD1⟩ := hB
        have hK1 := va_K.moved hvm.symm hK1
        have hJ9 := rgJ13_d0dfb98 hP hD hk1 hFc (atH ht hP1) hD1
        clear hP hD hPc hKc hDc hFc hP1 hD1 hk1 hz1
        obtain ⟨hP, hD⟩ := hJ9
        clear hK1
        generalize H1 = H at hP hS ⊢
        refine W.widen (k := 0) (n := 0) (Nat.le_of_ble_eq_true rfl) (Nat.le_of_ble_eq_true rfl) ?_
        refine lv_aload_n hx hb dX5_readPiece_110 rfl (lv_at hl 2 rfl) ?_
        refine va_get (D := (dC, dI)) (ci := 4) (v := .int za0_5_72) (C := RX5) (T := TX5) (N := 6) hx hb hts inlX5 hown hK hP 0 rgL13_890e5ad rfl 5 (by decide) (hts (.fieldLink RX5 41 "ClosedUntil$TextReader" "fault" "I") qw_97) (fun _ h9 => h9) rfl dX5_readPiece_111 ?_
        refine lv_iconst (v := (-1)) hx hb dX5_readPiece_114 (by decide) ?_
        refine lv_icmp_ne (tgt := 136) hx hb dX5_readPiece_115 (by decide) (fun c115_81 => ?_) (fun c115_81 => ?_)
        · have c115_81 : ¬ (za0_5_72.toInt = (-1)) := mt (cv_eq rfl (by decide)).mpr c115_81
          refine W.widen (k := 0) (n := 0) (Nat.le_of_ble_eq_true rfl) (Nat.le_of_ble_eq_true rfl) ?_
          have hP9 := hP
          have hD9 := hD
          have hK9 := (rgK9_204429a hK)
          have hf9_0 : (0 ≤ a0_4.toInt ∧ a0_4.toInt ≤ 36) := by omega
          have hf9_1 : (0 ≤ za0_0_3_73.toInt ∧ za0_0_3_73.toInt ≤ 1000) := by omega
          have hf9_2 : (0 ≤ za0_0_5_75.toInt ∧ za0_0_5_75.toInt ≤ 1000) := by omega
          have hf9_3 : (0 ≤ a1_4.toInt ∧ a1_4.toInt ≤ 24) := by omega
          have hf9_4 : (NOk a0_2_f a0_3_f a0_4) := by assumption
          exact W.vret hx hb hr (fun t ht hW => ⟨⟨(), rfl, trivial, a0_4, za0_5_72, za0_0_3_73, za0_0_4_74, za0_0_5_75, za0_0_6_76, za0_0_7_77, a0_1_f, a0_2_f, a0_3_f, a1_4, y45, y57, y69, y33, hf9_0, hf9_1, hf9_2, hf9_3, hf9_4, atB ht hP9, va_K.moved hW.alike hK9, hD9⟩, hS.F ht⟩) hS.2.2 dX5_readPiece_136
        · have c115_81 : za0_5_72.toInt = (-1) := (cv_eq rfl (by decide)).mp c115_81
          refine lv_aload_n hx hb dX5_readPiece_118 rfl (lv_at hl 3 rfl) ?_
          refine lv_dup hx hb dX5_readPiece_119 rfl ?_
          refine va_getN (D := (dC, dI)) (ci := 0) (v := .int a1_4) (C := RX1) (T := TX1) (N := 14) hx hb hts inlX1 hown hK hP 7 rgL13_37f2d2a rfl 4 (by decide) (va_Nw.use rfl (nf_36 hN)) (fun _ h9 => h9) rfl dX5_readPiece_120 ?_
          refine lv_iconst (v := 1) hx hb dX5_readPiece_123 (by decide) ?_
          refine lv_iadd hx hb dX5_readPiece_124 ?_
          refine lv_topi (fun x82 e_x82 => ?_)
          try have e_x82 := ti_add e_x82 rfl (show (1 : Int32).toInt = 1 by decide) (by omega)
          refine va_putN (D := (dC, dI)) (ci := 0) (v := .int x82) (ty := .int) (C := RX1) (T := TX1) (N := 14) hx hb hts inlX1 tyX1 tyX1_ok nmX1 hown hK hP hD hS 7 rgL13_37f2d2a rfl 4 (by decide) (va_Nw.use rfl (nf_36 hN)) (fun _ h9 => h9) rfl (by decide +kernel) rfl rfl (Nat.le_of_ble_eq_true rfl) dX5_readPiece_125 (fun H locs hP9 hD9 hS9 => ?_)
          clear hP hD hS
          obtain ⟨hP, hD⟩ := rgS13_5107f5d (e := (a1, .inr (0, [.int a1_0, .ref a1_1, .int a1_2, .ref a1_3, .int x82, .ref a1_5, .ref a1_6, .ref a1_7, .int a1_8, .ref a1_9, .ref a1_10, .ref a1_11, .ref a1_12, .ref a1_13]))) hP9 hD9 rfl
          have hS := hS9; clear hP9 hD9 hS9
          refine lv_aload_n hx hb dX5_readPiece_128 rfl (lv_at hl 2 rfl) ?_
          refine lv_lload hx hb dX5_readPiece_129 (lv_at hl 0 rfl) ?_
          refine lv_iconst (v := 4) hx hb dX5_readPiece_131 (by decide) ?_
          refine lv_iload_n hx hb dX5_readPiece_132 rfl (lv_at hl 1 rfl) ?_
          have qc4 : (4 : Int32).toInt = 4 := by decide
          have hPc := (rgP13_3115942 hP)
          have hKc := (rgK9_f236e41 hK)
          have hDc := (rgD13_8026d88 hD)
          have hFc := freeW hDc hS hA
          refine va_callv (va_runV (As := [.long r12, .int 4, .int a1_4]) (rest := []) ⟨hx, hb, hml, hown, hts⟩ (k_X5_addName l dC dI g H.size (a0) (r12) (4) (a1_4) (a0_0) (a0_1) (a0_2) (a0_3) (a0_4) (za0_5_72) (a0_1_c) (a0_1_f) (a0_2_c) (a0_2_f) (a0_3_c) (a0_3_f) (by omega) (by assumption) (by omega)) (cwV 3 hts (gwV qw_198 qw_199 qw_200 qw_100 qw_197) rfl rfl rfl (by decide +kernel) ⟨Nat.le_of_ble_eq_true rfl, Nat.le_of_ble_eq_true rfl⟩) ⟨fun a U g9 mk q => ⟨q.1, q.2.1, q.2.2.1, va_K.moved (u := U) (U := U.calling g9 mk a) (Vm.Alike.refl U.vm) q.2.2.2.1, q.2.2.2.2.1, Ev.bl q.2.2.2.2.2⟩, va_recv hK hP (ci := 4) (q0 := 0) rfl rgL13_890e5ad, fun U hU hW => ⟨rfl, by rw [hU], atB hU hPc, va_K.moved hW.alike hKc, hDc.weaken (fun _ _ _ _ => trivial), hE.go hS hFc hU hW⟩⟩ rfl rfl hl.1 rfl (lv_room (Nat.le_of_ble_eq_true rfl)) dX5_readPiece_133 ⟨Nat.le_of_ble_eq_true rfl, Nat.le_of_ble_eq_true rfl⟩) hS (fun q _ h => hFc q h) hFc (fun u83 t H1 locs ht hvm h_u83 hB hz1 hk1 hS => ?_)
          obtain ⟨za0_4_85, za0_1_f_86, za0_2_f_87, za0_3_f_88, hF89, hF90, hP1, hK1, hD1⟩ := hB
          have hK1 := va_K.moved hvm.symm hK1
          have hJ9 := rgJ13_5f5eb83 hP hD hk1 hFc (atH ht hP1) hD1
          clear hP hD hPc hKc hDc hFc hP1 hD1 hk1 hz1
          obtain ⟨hP, hD⟩ := hJ9
          clear hK1
          generalize H1 = H at hP hS ⊢
          refine W.widen (k := 0) (n := 0) (Nat.le_of_ble_eq_true rfl) (Nat.le_of_ble_eq_true rfl) ?_
          refine W.widen (k := 0) (n := 0) (Nat.le_of_ble_eq_true rfl) (Nat.le_of_ble_eq_true rfl) ?_
          have hP9 := hP
          have hD9 := hD
          have hK9 := (rgK9_204429a hK)
          have hf9_0 : (0 ≤ za0_4_85.toInt ∧ za0_4_85.toInt ≤ 36) := by omega
          have hf9_1 : (0 ≤ za0_0_3_73.toInt ∧ za0_0_3_73.toInt ≤ 1000) := by omega
          have hf9_2 : (0 ≤ za0_0_5_75.toInt ∧ za0_0_5_75.toInt ≤ 1000) := by omega
          have hf9_3 : (0 ≤ x82.toInt ∧ x82.toInt ≤ 24) := by omega
          have hf9_4 : (NOk za0_2_f_87 za0_3_f_88 za0_4_85) := by assumption
          exact W.vret hx hb hr (fun t ht hW => ⟨⟨(), rfl, trivial, za0_4_85, za0_5_72, za0_0_3_73, za0_0_4_74, za0_0_5_75, za0_0_6_76, za0_0_7_77, za0_1_f_86, za0_2_f_87, za0_3_f_88, x82, y45, y57, y69, y33, hf9_0, hf9_1, hf9_2, hf9_3, hf9_4, atB ht hP9, va_K.moved hW.alike hK9, hD9⟩, hS.F ht⟩) hS.2.2 dX5_readPiece_136
      · have c91_68 : ¬ (r59.toInt = 0) := mt (cv_eq rfl (by decide)).mpr c91_68
        refine lv_aload_n hx hb dX5_readPiece_94 rfl (lv_at hl 2 rfl) ?_
        refine lv_iconst (v := 3) hx hb dX5_readPiece_95 (by decide) ?_
        have qc3 : (3 : Int32).toInt = 3 := by decide
        have hPc := (rgP13_2c0acea hP)
        have hKc := (rgK9_ac80f80 hK)
        have hDc := (rgD13_2c0914f hD)
        have hFc := freeW hDc hS hA
        refine va_calli (va_runV (As := [.int 3]) (rest := [.int a1_4, .ref a1_7]) ⟨hx, hb, hml, hown, hts⟩ (k_X5_readName l dC dI g H.size (a0) (3) (a0_0) (a0_1) (a0_2) (a0_3) (a0_4) (za0_5_48) (a0_0_0) (a0_0_1) (a0_0_2) (za0_0_3_60) (za0_0_4_61) (za0_0_5_62) (za0_0_6_63) (za0_0_7_64) (a0_0_0_c) (a0_0_0_f) (a0_0_1_c) (a0_0_1_f) (a0_1_c) (a0_1_f) (a0_2_c) (a0_2_f) (a0_3_c) (a0_3_f) (by omega) (by omega) (by omega) (by omega) (by assumption)) (cwV 1 hts (gwV qw_121 qw_122 qw_123 qw_100 qw_120) rfl rfl rfl (by decide +kernel) ⟨Nat.le_of_ble_eq_true rfl, Nat.le_of_ble_eq_true rfl⟩) ⟨fun a U g9 mk q => ⟨q.1, q.2.1, q.2.2.1, va_K.moved (u := U) (U := U.calling g9 mk a) (Vm.Alike.refl U.vm) q.2.2.2.1, q.2.2.2.2.1, Ev.bl q.2.2.2.2.2⟩, va_recv hK hP (ci := 4) (q0 := 0) rfl rgL13_890e5ad, fun U hU hW => ⟨rfl, by rw [hU], atB hU hPc, va_K.moved hW.alike hKc, hDc.weaken (fun _ _ _ _ => trivial), hE.go hS hFc hU hW⟩⟩ rfl rfl hl.1 rfl (lv_room (Nat.le_of_ble_eq_true rfl)) dX5_readPiece_96 ⟨Nat.le_of_ble_eq_true rfl, Nat.le_of_ble_eq_true rfl⟩) hS (fun q _ h => hFc q h) hFc (fun r92 u91 t H1 locs ht hvm h_u91 hB hz1 hk1 hS => ?_)
        obtain ⟨za0_5_93, za0_0_3_94, za0_0_4_95, za0_0_5_96, za0_0_6_97, za0_0_7_98, hF99, hF100, hF101, hF102, hP1, hK1, hD1⟩ := hB
        have hK1 := va_K.moved hvm.symm hK1
        have hJ9 := rgJ13_7c0c7c9 hP hD hk1 hFc (atH ht hP1) hD1
        clear hP hD hPc hKc hDc hFc hP1 hD1 hk1 hz1
        obtain ⟨hP, hD⟩ := hJ9
        clear hK1
        generalize H1 = H at hP hS ⊢
        refine W.widen (k := 0) (n := 0) (Nat.le_of_ble_eq_true rfl) (Nat.le_of_ble_eq_true rfl) ?_
        have h_r92 := congrArg Int32.toInt h_u91
        have b_r92 := i32b r92
        refine lv_goto (tgt := 103) hx hb dX5_readPiece_99 (by decide) ?_
        refine va_iast hx hb hK hP hD hS 10 7 rgL13_e69bf83 rgT9_b6a8be7 (vinI (by omega) (by omega)) dX5_readPiece_103 (fun H locs hP9 hD9 hS9 => ?_)
        obtain ⟨y103, e_y103⟩ : ∃ y, (upd a1_7_f a1_4.toNatClampNeg r92) = y := ⟨_, rfl⟩
        clear hP hD hS
        obtain ⟨hP, hD⟩ := rgS13_ab58875 (e := (a1_7, .inl (a1_7_c, 24, .inl y103))) hP9 hD9 (congrArg (fun z9 => (((a1_7, .inl (a1_7_c, 24, .inl z9)) : Nat × va_E))) e_y103)
        have hS := hS9; clear hP9 hD9 hS9
        refine lv_aload_n hx hb dX5_readPiece_104 rfl (lv_at hl 2 rfl) ?_
        refine lv_bipush (v := 14) hx hb dX5_readPiece_105 (by decide) ?_
        have qc14 : (14 : Int32).toInt = 14 := by decide
        have hPc := (rgP13_688883d hP)
        have hKc := (rgK9_2a876ff hK)
        have hDc := (rgD13_143f4da hD)
        have hFc := freeW hDc hS hA
        refine va_callv (va_runV (As := [.int 14]) (rest := []) ⟨hx, hb, hml, hown, hts⟩ (k_X5_pass l dC dI g H.size (a0) (14) (a0_0) (a0_1) (a0_2) (a0_3) (a0_4) (za0_5_93) (a0_0_0) (a0_0_1) (a0_0_2) (za0_0_3_94) (za0_0_4_95) (za0_0_5_96) (za0_0_6_97) (za0_0_7_98) (a0_0_0_c) (a0_0_0_f) (a0_0_1_c) (a0_0_1_f) (by omega) (by omega) (by omega) (by omega)) (cwV 1 hts (gwV qw_194 qw_195 qw_196 qw_100 qw_193) rfl rfl rfl (by decide +kernel) ⟨Nat.le_of_ble_eq_true rfl, Nat.le_of_ble_eq_true rfl⟩) ⟨fun a U g9 mk q => ⟨q.1, q.2.1, q.2.2.1, va_K.moved (u := U) (U := U.calling g9 mk a) (Vm.Alike.refl U.vm) q.2.2.2.1, q.2.2.2.2.1, Ev.bl q.2.2.2.2.2⟩, va_recv hK hP (ci := 4) (q0 := 0) rfl rgL13_890e5ad, fun U hU hW => ⟨rfl, by rw [hU], atB hU hPc, va_K.moved hW.alike hKc, hDc.weaken (fun _ _ _ _ => trivial), hE.go hS hFc hU hW⟩⟩ rfl rfl hl.1 rfl (lv_room (Nat.le_of_ble_eq_true rfl)) dX5_readPiece_107 ⟨Nat.le_of_ble_eq_true rfl, Nat.le_of_ble_eq_true rfl⟩) hS (fun q _ h => hFc q h) hFc (fun u104 t H1 locs ht hvm h_u104 hB hz1 hk1 hS => ?_)
        obtain ⟨za0_5_106, za0_0_3_107, za0_0_4_108, za0_0_5_109, za0_0_6_110, za0_0_7_111, hF112, hF113, hF114, hP1, hK1, hD1⟩ := hB
        have hK1 := va_K.moved hvm.symm hK1
        have hJ9 := rgJ13_d0dfb98 hP hD hk1 hFc (atH ht hP1) hD1
        clear hP hD hPc hKc hDc hFc hP1 hD1 hk1 hz1
        obtain ⟨hP, hD⟩ := hJ9
        clear hK1
        generalize H1 = H at hP hS ⊢
        refine W.widen (k := 0) (n := 0) (Nat.le_of_ble_eq_true rfl) (Nat.le_of_ble_eq_true rfl) ?_
        refine lv_aload_n hx hb dX5_readPiece_110 rfl (lv_at hl 2 rfl) ?_
        refine va_get (D := (dC, dI)) (ci := 4) (v := .int za0_5_106) (C := RX5) (T := TX5) (N := 6) hx hb hts inlX5 hown hK hP 0 rgL13_890e5ad rfl 5 (by decide) (hts (.fieldLink RX5 41 "ClosedUntil$TextReader" "fault" "I") qw_97) (fun _ h9 => h9) rfl dX5_readPiece_111 ?_
        refine lv_iconst (v := (-1)) hx hb dX5_readPiece_114 (by decide) ?_
        refine lv_icmp_ne (tgt := 136) hx hb dX5_readPiece_115 (by decide) (fun c115_115 => ?_) (fun c115_115 => ?_)
        · have c115_115 : ¬ (za0_5_106.toInt = (-1)) := mt (cv_eq rfl (by decide)).mpr c115_115
          refine W.widen (k := 0) (n := 0) (Nat.le_of_ble_eq_true rfl) (Nat.le_of_ble_eq_true rfl) ?_
          have hP9 := hP
          have hD9 := hD
          have hK9 := (rgK9_204429a hK)
          have hf9_0 : (0 ≤ a0_4.toInt ∧ a0_4.toInt ≤ 36) := by omega
          have hf9_1 : (0 ≤ za0_0_3_107.toInt ∧ za0_0_3_107.toInt ≤ 1000) := by omega
          have hf9_2 : (0 ≤ za0_0_5_109.toInt ∧ za0_0_5_109.toInt ≤ 1000) := by omega
          have hf9_3 : (0 ≤ a1_4.toInt ∧ a1_4.toInt ≤ 24) := by omega
          have hf9_4 : (NOk a0_2_f a0_3_f a0_4) := by assumption
          exact W.vret hx hb hr (fun t ht hW => ⟨⟨(), rfl, trivial, a0_4, za0_5_106, za0_0_3_107, za0_0_4_108, za0_0_5_109, za0_0_6_110, za0_0_7_111, a0_1_f, a0_2_f, a0_3_f, a1_4, y45, y57, y103, y33, hf9_0, hf9_1, hf9_2, hf9_3, hf9_4, atB ht hP9, va_K.moved hW.alike hK9, hD9⟩, hS.F ht⟩) hS.2.2 dX5_readPiece_136
        · have c115_115 : za0_5_106.toInt = (-1) := (cv_eq rfl (by decide)).mp c115_115
          refine lv_aload_n hx hb dX5_readPiece_118 rfl (lv_at hl 3 rfl) ?_
          refine lv_dup hx hb dX5_readPiece_119 rfl ?_
          refine va_getN (D := (dC, dI)) (ci := 0) (v := .int a1_4) (C := RX1) (T := TX1) (N := 14) hx hb hts inlX1 hown hK hP 7 rgL13_37f2d2a rfl 4 (by decide) (va_Nw.use rfl (nf_36 hN)) (fun _ h9 => h9) rfl dX5_readPiece_120 ?_
          refine lv_iconst (v := 1) hx hb dX5_readPiece_123 (by decide) ?_
          refine lv_iadd hx hb dX5_readPiece_124 ?_
          refine lv_topi (fun x116 e_x116 => ?_)
          try have e_x116 := ti_add e_x116 rfl (show (1 : Int32).toInt = 1 by decide) (by omega)
          refine va_putN (D := (dC, dI)) (ci := 0) (v := .int x116) (ty := .int) (C := RX1) (T := TX1) (N := 14) hx hb hts inlX1 tyX1 tyX1_ok nmX1 hown hK hP hD hS 7 rgL13_37f2d2a rfl 4 (by decide) (va_Nw.use rfl (nf_36 hN)) (fun _ h9 => h9) rfl (by decide +kernel) rfl rfl (Nat.le_of_ble_eq_true rfl) dX5_readPiece_125 (fun H locs hP9 hD9 hS9 => ?_)
          clear hP hD hS
          obtain ⟨hP, hD⟩ := rgS13_5107f5d (e := (a1, .inr (0, [.int a1_0, .ref a1_1, .int a1_2, .ref a1_3, .int x116, .ref a1_5, .ref a1_6, .ref a1_7, .int a1_8, .ref a1_9, .ref a1_10, .ref a1_11, .ref a1_12, .ref a1_13]))) hP9 hD9 rfl
          have hS := hS9; clear hP9 hD9 hS9
          refine lv_aload_n hx hb dX5_readPiece_128 rfl (lv_at hl 2 rfl) ?_
          refine lv_lload hx hb dX5_readPiece_129 (lv_at hl 0 rfl) ?_
          refine lv_iconst (v := 4) hx hb dX5_readPiece_131 (by decide) ?_
          refine lv_iload_n hx hb dX5_readPiece_132 rfl (lv_at hl 1 rfl) ?_
          have qc4 : (4 : Int32).toInt = 4 := by decide
          have hPc := (rgP13_3115942 hP)
          have hKc := (rgK9_f236e41 hK)
          have hDc := (rgD13_8026d88 hD)
          have hFc := freeW hDc hS hA
          refine va_callv (va_runV (As := [.long r12, .int 4, .int a1_4]) (rest := []) ⟨hx, hb, hml, hown, hts⟩ (k_X5_addName l dC dI g H.size (a0) (r12) (4) (a1_4) (a0_0) (a0_1) (a0_2) (a0_3) (a0_4) (za0_5_106) (a0_1_c) (a0_1_f) (a0_2_c) (a0_2_f) (a0_3_c) (a0_3_f) (by omega) (by assumption) (by omega)) (cwV 3 hts (gwV qw_198 qw_199 qw_200 qw_100 qw_197) rfl rfl rfl (by decide +kernel) ⟨Nat.le_of_ble_eq_true rfl, Nat.le_of_ble_eq_true rfl⟩) ⟨fun a U g9 mk q => ⟨q.1, q.2.1, q.2.2.1, va_K.moved (u := U) (U := U.calling g9 mk a) (Vm.Alike.refl U.vm) q.2.2.2.1, q.2.2.2.2.1, Ev.bl q.2.2.2.2.2⟩, va_recv hK hP (ci := 4) (q0 := 0) rfl rgL13_890e5ad, fun U hU hW => ⟨rfl, by rw [hU], atB hU hPc, va_K.moved hW.alike hKc, hDc.weaken (fun _ _ _ _ => trivial), hE.go hS hFc hU hW⟩⟩ rfl rfl hl.1 rfl (lv_room (Nat.le_of_ble_eq_true rfl)) dX5_readPiece_133 ⟨Nat.le_of_ble_eq_true rfl, Nat.le_of_ble_eq_true rfl⟩) hS (fun q _ h => hFc q h) hFc (fun u117 t H1 locs ht hvm h_u117 hB hz1 hk1 hS => ?_)
          obtain ⟨za0_4_119, za0_1_f_120, za0_2_f_121, za0_3_f_122, hF123, hF124, hP1, hK1, hD1⟩ := hB
          have hK1 := va_K.moved hvm.symm hK1
          have hJ9 := rgJ13_5f5eb83 hP hD hk1 hFc (atH ht hP1) hD1
          clear hP hD hPc hKc hDc hFc hP1 hD1 hk1 hz1
          obtain ⟨hP, hD⟩ := hJ9
          clear hK1
          generalize H1 = H at hP hS ⊢
          refine W.widen (k := 0) (n := 0) (Nat.le_of_ble_eq_true rfl) (Nat.le_of_ble_eq_true rfl) ?_
          refine W.widen (k := 0) (n := 0) (Nat.le_of_ble_eq_true rfl) (Nat.le_of_ble_eq_true rfl) ?_
          have hP9 := hP
          have hD9 := hD
          have hK9 := (rgK9_204429a hK)
          have hf9_0 : (0 ≤ za0_4_119.toInt ∧ za0_4_119.toInt ≤ 36) := by omega
          have hf9_1 : (0 ≤ za0_0_3_107.toInt ∧ za0_0_3_107.toInt ≤ 1000) := by omega
          have hf9_2 : (0 ≤ za0_0_5_109.toInt ∧ za0_0_5_109.toInt ≤ 1000) := by omega
          have hf9_3 : (0 ≤ x116.toInt ∧ x116.toInt ≤ 24) := by omega
          have hf9_4 : (NOk za0_2_f_121 za0_3_f_122 za0_4_119) := by assumption
          exact W.vret hx hb hr (fun t ht hW => ⟨⟨(), rfl, trivial, za0_4_119, za0_5_106, za0_0_3_107, za0_0_4_108, za0_0_5_109, za0_0_6_110, za0_0_7_111, za0_1_f_120, za0_2_f_121, za0_3_f_122, x116, y45, y57, y103, y33, hf9_0, hf9_1, hf9_2, hf9_3, hf9_4, atB ht hP9, va_K.moved hW.alike hK9, hD9⟩, hS.F ht⟩) hS.2.2 dX5_readPiece_136
    · have c47_32 : ¬ (r23.toInt = 0) := mt (cv_eq rfl (by decide)).mpr c47_32
      refine lv_aload_n hx hb dX5_readPiece_50 rfl (lv_at hl 2 rfl) ?_
      refine lv_iconst (v := 4) hx hb dX5_readPiece_51 (by decide) ?_
      have qc4 : (4 : Int32).toInt = 4 := by decide
      have hPc := (rgP13_2c0acea hP)
      have hKc := (rgK9_ac80f80 hK)
      have hDc := (rgD13_2c0914f hD)
      have hFc := freeW hDc hS hA
      refine va_calli (va_runV (As := [.int 4]) (rest := [.int a1_4, .ref a2_0]) ⟨hx, hb, hml, hown, hts⟩ (k_X5_readName l dC dI g H.size (a0) (4) (a0_0) (a0_1) (a0_2) (a0_3) (a0_4) (za0_5_13) (a0_0_0) (a0_0_1) (a0_0_2) (za0_0_3_24) (za0_0_4_25) (za0_0_5_26) (za0_0_6_27) (za0_0_7_28) (a0_0_0_c) (a0_0_0_f) (a0_0_1_c) (a0_0_1_f) (a0_1_c) (a0_1_f) (a0_2_c) (a0_2_f) (a0_3_c) (a0_3_f) (by omega) (by omega) (by omega) (by omega) (by assumption)) (cwV 1 hts (gwV qw_121 qw_122 qw_123 qw_100 qw_120) rfl rfl rfl (by decide +kernel) ⟨Nat.le_of_ble_eq_true rfl, Nat.le_of_ble_eq_true rfl⟩) ⟨fun a U g9 mk q => ⟨q.1, q.2.1, q.2.2.1, va_K.moved (u := U) (U := U.calling g9 mk a) (Vm.Alike.refl U.vm) q.2.2.2.1, q.2.2.2.2.1, Ev.bl q.2.2.2.2.2⟩, va_recv hK hP (ci := 4) (q0 := 0) rfl rgL13_890e5ad, fun U hU hW => ⟨rfl, by rw [hU], atB hU hPc, va_K.moved hW.alike hKc, hDc.weaken (fun _ _ _ _ => trivial), hE.go hS hFc hU hW⟩⟩ rfl rfl hl.1 rfl (lv_room (Nat.le_of_ble_eq_true rfl)) dX5_readPiece_52 ⟨Nat.le_of_ble_eq_true rfl, Nat.le_of_ble_eq_true rfl⟩) hS (fun q _ h => hFc q h) hFc (fun r126 u125 t H1 locs ht hvm h_u125 hB hz1 hk1 hS => ?_)
      obtain ⟨za0_5_127, za0_0_3_128, za0_0_4_129, za0_0_5_130, za0_0_6_131, za0_0_7_132, hF133, hF134, hF135, hF136, hP1, hK1, hD1⟩ := hB
      have hK1 := va_K.moved hvm.symm hK1
      have hJ9 := rgJ13_7c0c7c9 hP hD hk1 hFc (atH ht hP1) hD1
      clear hP hD hPc hKc hDc hFc hP1 hD1 hk1 hz1
      obtain ⟨hP, hD⟩ := hJ9
      clear hK1
      generalize H1 = H at hP hS ⊢
      refine W.widen (k := 0) (n := 0) (Nat.le_of_ble_eq_true rfl) (Nat.le_of_ble_eq_true rfl) ?_
      have h_r126 := congrArg Int32.toInt h_u125
      have b_r126 := i32b r126
      refine lv_goto (tgt := 59) hx hb dX5_readPiece_55 (by decide) ?_
      refine va_iast hx hb hK hP hD hS 12 8 rgL13_551ea76 rgT9_e83ad87 (vinI (by omega) (by omega)) dX5_readPiece_59 (fun H locs hP9 hD9 hS9 => ?_)
      obtain ⟨y137, e_y137⟩ : ∃ y, (upd a2_0_f a1_4.toNatClampNeg r126) = y := ⟨_, rfl⟩
      clear hP hD hS
      obtain ⟨hP, hD⟩ := rgS13_979e4b8 (e := (a2_0, .inl (a2_0_c, 24, .inl y137))) hP9 hD9 (congrArg (fun z9 => (((a2_0, .inl (a2_0_c, 24, .inl z9)) : Nat × va_E))) e_y137)
      have hS := hS9; clear hP9 hD9 hS9
      refine lv_aload_n hx hb dX5_readPiece_60 rfl (lv_at hl 3 rfl) ?_
      refine va_getN (D := (dC, dI)) (ci := 0) (v := .ref a1_5) (C := RX1) (T := TX1) (N := 14) hx hb hts inlX1 hown hK hP 7 rgL13_37f2d2a rfl 5 (by decide) (va_Nw.use rfl (nf_38 hN)) (fun _ h9 => h9) rfl dX5_readPiece_61 ?_
      refine lv_iload_n hx hb dX5_readPiece_64 rfl (lv_at hl 1 rfl) ?_
      refine lv_aload_n hx hb dX5_readPiece_65 rfl (lv_at hl 2 rfl) ?_
      have hPc := (rgP13_688883d hP)
      have hKc := (rgK9_2a876ff hK)
      have hDc := (rgD13_143f4da hD)
      have hFc := freeW hDc hS hA
      refine va_calli (va_runV (As := []) (rest := [.int a1_4, .ref a1_5]) ⟨hx, hb, hml, hown, hts⟩ (k_X5_readDate l dC dI g H.size (a0) (a0_0) (a0_1) (a0_2) (a0_3) (a0_4) (za0_5_127) (a0_0_0) (a0_0_1) (a0_0_2) (za0_0_3_128) (za0_0_4_129) (za0_0_5_130) (za0_0_6_131) (za0_0_7_132) (a0_0_0_c) (a0_0_0_f) (a0_0_1_c) (a0_0_1_f) (by omega) (by omega) (by omega) (by omega)) (cwV 0 hts (gwV qw_202 qw_203 qw_204 qw_100 qw_201) rfl rfl rfl (by decide +kernel) ⟨Nat.le_of_ble_eq_true rfl, Nat.le_of_ble_eq_true rfl⟩) ⟨fun a U g9 mk q => ⟨q.1, q.2.1, q.2.2.1, va_K.moved (u := U) (U := U.calling g9 mk a) (Vm.Alike.refl U.vm) q.2.2.2.1, q.2.2.2.2.1, Ev.bl q.2.2.2.2.2⟩, va_recv hK hP (ci := 4) (q0 := 0) rfl rgL13_890e5ad, fun U hU hW => ⟨rfl, by rw [hU], atB hU hPc, va_K.moved hW.alike hKc, hDc.weaken (fun _ _ _ _ => trivial), hE.go hS hFc hU hW⟩⟩ rfl rfl hl.1 rfl (lv_room (Nat.le_of_ble_eq_true rfl)) dX5_readPiece_66 ⟨Nat.le_of_ble_eq_true rfl, Nat.le_of_ble_eq_true rfl⟩) hS (fun q _ h => hFc q h) hFc (fun r139 u138 t H1 locs ht hvm h_u138 hB hz1 hk1 hS => ?_)
      obtain ⟨za0_5_140, za0_0_3_141, za0_0_4_142, za0_0_5_143, za0_0_6_144, za0_0_7_145, hF146, hF147, hF148, hP1, hK1, hD1⟩ := hB
      have hK1 := va_K.moved hvm.symm hK1
      have hJ9 := rgJ13_d0dfb98 hP hD hk1 hFc (atH ht hP1) hD1
      clear hP hD hPc hKc hDc hFc hP1 hD1 hk1 hz1
      obtain ⟨hP, hD⟩ := hJ9
      clear hK1
      generalize H1 = H at hP hS ⊢
      refine W.widen (k := 0) (n := 0) (Nat.le_of_ble_eq_true rfl) (Nat.le_of_ble_eq_true rfl) ?_
      have h_r139 := congrArg Int32.toInt h_u138
      have b_r139 := i32b r139
      refine va_iast hx hb hK hP hD hS 8 5 rgL13_f102f36 rgT9_6f20d7e (vinI (by omega) (by omega)) dX5_readPiece_69 (fun H locs hP9 hD9 hS9 => ?_)
      obtain ⟨y149, e_y149⟩ : ∃ y, (upd a1_5_f a1_4.toNatClampNeg r139) = y := ⟨_, rfl⟩
      clear hP hD hS
      obtain ⟨hP, hD⟩ := rgS13_f10bd06 (e := (a1_5, .inl (a1_5_c, 24, .inl y149))) hP9 hD9 (congrArg (fun z9 => (((a1_5, .inl (a1_5_c, 24, .inl z9)) : Nat × va_E))) e_y149)
      have hS := hS9; clear hP9 hD9 hS9
      refine lv_aload_n hx hb dX5_readPiece_70 rfl (lv_at hl 3 rfl) ?_
      refine va_getN (D := (dC, dI)) (ci := 0) (v := .ref a1_6) (C := RX1) (T := TX1) (N := 14) hx hb hts inlX1 hown hK hP 7 rgL13_37f2d2a rfl 6 (by decide) (va_Nw.use rfl (nf_41 hN)) (fun _ h9 => h9) rfl dX5_readPiece_71 ?_
      refine lv_iload_n hx hb dX5_readPiece_74 rfl (lv_at hl 1 rfl) ?_
      refine lv_aload_n hx hb dX5_readPiece_75 rfl (lv_at hl 2 rfl) ?_
      have hPc := (rgP13_2c0acea hP)
      have hKc := (rgK9_ac80f80 hK)
      have hDc := (rgD13_2c0914f hD)
      have hFc := freeW hDc hS hA
      refine va_calli (va_runV (As := []) (rest := [.int a1_4, .ref a1_6]) ⟨hx, hb, hml, hown, hts⟩ (k_X5_readPeopleOf l dC dI g H.size (a0) (a0_0) (a0_1) (a0_2) (a0_3) (a0_4) (za0_5_140) (a0_0_0) (a0_0_1) (a0_0_2) (za0_0_3_141) (za0_0_4_142) (za0_0_5_143) (za0_0_6_144) (za0_0_7_145) (a0_0_0_c) (a0_0_0_f) (a0_0_1_c) (a0_0_1_f) (a0_1_c) (a0_1_f) (a0_2_c) (a0_2_f) (a0_3_c) (a0_3_f) (by omega) (by omega) (by omega) (by omega) (by assumption)) (cwV 0 hts (gwV qw_206 qw_207 qw_208 qw_100 qw_205) rfl rfl rfl (by decide +kernel) ⟨Nat.le_of_ble_eq_true rfl, Nat.le_of_ble_eq_true rfl⟩) ⟨fun a U g9 mk q => ⟨q.1, q.2.1, q.2.2.1, va_K.moved (u := U) (U := U.calling g9 mk a) (Vm.Alike.refl U.vm) q.2.2.2.1, q.2.2.2.2.1, Ev.bl q.2.2.2.2.2⟩, va_recv hK hP (ci := 4) (q0 := 0) rfl rgL13_890e5ad, fun U hU hW => ⟨rfl, by rw [hU], atB hU hPc, va_K.moved hW.alike hKc, hDc.weaken (fun _ _ _ _ => trivial), hE.go hS hFc hU hW⟩⟩ rfl rfl hl.1 rfl (lv_room (Nat.le_of_ble_eq_true rfl)) dX5_readPiece_76 ⟨Nat.le_of_ble_eq_true rfl, Nat.le_of_ble_eq_true rfl⟩) hS (fun q _ h => hFc q h) hFc (fun r151 u150 t H1 locs ht hvm h_u150 hB hz1 hk1 hS => ?_)
      obtain ⟨za0_5_152, za0_0_3_153, za0_0_4_154, za0_0_5_155, za0_0_6_156, za0_0_7_157, hF158, hF159, hF160, hP1, hK1, hD1⟩ := hB
      have hK1 := va_K.moved hvm.symm hK1
      have hJ9 := rgJ13_7c0c7c9 hP hD hk1 hFc (atH ht hP1) hD1
      clear hP hD hPc hKc hDc hFc hP1 hD1 hk1 hz1
      obtain ⟨hP, hD⟩ := hJ9
      clear hK1
      generalize H1 = H at hP hS ⊢
      refine W.widen (k := 0) (n := 0) (Nat.le_of_ble_eq_true rfl) (Nat.le_of_ble_eq_true rfl) ?_
      have h_r151 := congrArg Int32.toInt h_u150
      have b_r151 := i32b r151
      refine va_iast hx hb hK hP hD hS 9 6 rgL13_1206a9c rgT9_4ac895f (vinI (by omega) (by omega)) dX5_readPiece_79 (fun H locs hP9 hD9 hS9 => ?_)
      obtain ⟨y161, e_y161⟩ : ∃ y, (upd a1_6_f a1_4.toNatClampNeg r151) = y := ⟨_, rfl⟩
      clear hP hD hS
      obtain ⟨hP, hD⟩ := rgS13_b3ba14e (e := (a1_6, .inl (a1_6_c, 24, .inl y161))) hP9 hD9 (congrArg (fun z9 => (((a1_6, .inl (a1_6_c, 24, .inl z9)) : Nat × va_E))) e_y161)
      have hS := hS9; clear hP9 hD9 hS9
      refine lv_aload_n hx hb dX5_readPiece_80 rfl (lv_at hl 3 rfl) ?_
      refine va_getN (D := (dC, dI)) (ci := 0) (v := .ref a1_7) (C := RX1) (T := TX1) (N := 14) hx hb hts inlX1 hown hK hP 7 rgL13_37f2d2a rfl 7 (by decide) (va_Nw.use rfl (nf_43 hN)) (fun _ h9 => h9) rfl dX5_readPiece_81 ?_
      refine lv_iload_n hx hb dX5_readPiece_84 rfl (lv_at hl 1 rfl) ?_
      refine lv_aload_n hx hb dX5_readPiece_85 rfl (lv_at hl 2 rfl) ?_
      refine lv_bipush (v := 7) hx hb dX5_readPiece_86 (by decide) ?_
      have qc7 : (7 : Int32).toInt = 7 := by decide
      have hPc := (rgP13_688883d hP)
      have hKc := (rgK9_2a876ff hK)
      have hDc := (rgD13_143f4da hD)
      have hFc := freeW hDc hS hA
      refine va_calli (va_runV (As := [.int 7]) (rest := [.int a1_4, .ref a1_7]) ⟨hx, hb, hml, hown, hts⟩ (k_X5_passes l dC dI g H.size (a0) (7) (a0_0) (a0_1) (a0_2) (a0_3) (a0_4) (za0_5_152) (a0_0_0) (a0_0_1) (a0_0_2) (za0_0_3_153) (za0_0_4_154) (za0_0_5_155) (za0_0_6_156) (za0_0_7_157) (a0_0_0_c) (a0_0_0_f) (a0_0_1_c) (a0_0_1_f) (by omega) (by omega) (by omega) (by omega)) (cwV 1 hts (gwV qw_101 qw_102 qw_103 qw_100 qw_99) rfl rfl rfl (by decide +kernel) ⟨Nat.le_of_ble_eq_true rfl, Nat.le_of_ble_eq_true rfl⟩) ⟨fun a U g9 mk q => ⟨q.1, q.2.1, q.2.2.1, va_K.moved (u := U) (U := U.calling g9 mk a) (Vm.Alike.refl U.vm) q.2.2.2.1, q.2.2.2.2.1, Ev.bl q.2.2.2.2.2⟩, va_recv hK hP (ci := 4) (q0 := 0) rfl rgL13_890e5ad, fun U hU hW => ⟨rfl, by rw [hU], atB hU hPc, va_K.moved hW.alike hKc, hDc.weaken (fun _ _ _ _ => trivial), hE.go hS hFc hU hW⟩⟩ rfl rfl hl.1 rfl (lv_room (Nat.le_of_ble_eq_true rfl)) dX5_readPiece_88 ⟨Nat.le_of_ble_eq_true rfl, Nat.le_of_ble_eq_true rfl⟩) hS (fun q _ h => hFc q h) hFc (fun r163 u162 t H1 locs ht hvm h_u162 hB hz1 hk1 hS => ?_)
      obtain ⟨za0_0_3_164, za0_0_4_165, za0_0_5_166, za0_0_6_167, za0_0_7_168, hF169, hF170, hF171, hP1, hK1, hD1⟩ := hB
      have hK1 := va_K.moved hvm.symm hK1
      have hJ9 := rgJ13_d0dfb98 hP hD hk1 hFc (atH ht hP1) hD1
      clear hP hD hPc hKc hDc hFc hP1 hD1 hk1 hz1
      obtain ⟨hP, hD⟩ := hJ9
      clear hK1
      generalize H1 = H at hP hS ⊢
      refine W.widen (k := 0) (n := 0) (Nat.le_of_ble_eq_true rfl) (Nat.le_of_ble_eq_true rfl) ?_
      have h_r163 := congrArg Int32.toInt h_u162
      have hz_r163 : r163 = 0 ∨ r163 = 1 := h_u162 ▸ hF171
      have b_r163 := z01 hz_r163
      refine lv_if_eq (tgt := 102) hx hb dX5_readPiece_91 (by decide) (fun c91_172 => ?_) (fun c91_172 => ?_)
      · have c91_172 : r163.toInt = 0 := (cv_eq rfl (by decide)).mp c91_172
        refine lv_iconst (v := (-1)) hx hb dX5_readPiece_102 (by decide) ?_
        refine va_iast hx hb hK hP hD hS 10 7 rgL13_e69bf83 rgT9_b6a8be7 (vinI (by omega) (by omega)) dX5_readPiece_103 (fun H locs hP9 hD9 hS9 => ?_)
        obtain ⟨y173, e_y173⟩ : ∃ y, (upd a1_7_f a1_4.toNatClampNeg ((-1))) = y := ⟨_, rfl⟩
        clear hP hD hS
        obtain ⟨hP, hD⟩ := rgS13_ab58875 (e := (a1_7, .inl (a1_7_c, 24, .inl y173))) hP9 hD9 (congrArg (fun z9 => (((a1_7, .inl (a1_7_c, 24, .inl z9)) : Nat × va_E))) e_y173)
        have hS := hS9; clear hP9 hD9 hS9
        refine lv_aload_n hx hb dX5_readPiece_104 rfl (lv_at hl 2 rfl) ?_
        refine lv_bipush (v := 14) hx hb dX5_readPiece_105 (by decide) ?_
        have qc14 : (14 : Int32).toInt = 14 := by decide
        have hPc := (rgP13_688883d hP)
        have hKc := (rgK9_2a876ff hK)
        have hDc := (rgD13_143f4da hD)
        have hFc := freeW hDc hS hA
        refine va_callv (va_runV (As := [.int 14]) (rest := []) ⟨hx, hb, hml, hown, hts⟩ (k_X5_pass l dC dI g H.size (a0) (14) (a0_0) (a0_1) (a0_2) (a0_3) (a0_4) (za0_5_152) (a0_0_0) (a0_0_1) (a0_0_2) (za0_0_3_164) (za0_0_4_165) (za0_0_5_166) (za0_0_6_167) (za0_0_7_168) (a0_0_0_c) (a0_0_0_f) (a0_0_1_c) (a0_0_1_f) (by omega) (by omega) (by omega) (by omega)) (cwV 1 hts (gwV qw_194 qw_195 qw_196 qw_100 qw_193) rfl rfl rfl (by decide +kernel) ⟨Nat.le_of_ble_eq_true rfl, Nat.le_of_ble_eq_true rfl⟩) ⟨fun a U g9 mk q => ⟨q.1, q.2.1, q.2.2.1, va_K.moved (u := U) (U := U.calling g9 mk a) (Vm.Alike.refl U.vm) q.2.2.2.1, q.2.2.2.2.1, Ev.bl q.2.2.2.2.2⟩, va_recv hK hP (ci := 4) (q0 := 0) rfl rgL13_890e5ad, fun U hU hW => ⟨rfl, by rw [hU], atB hU hPc, va_K.moved hW.alike hKc, hDc.weaken (fun _ _ _ _ => trivial), hE.go hS hFc hU hW⟩⟩ rfl rfl hl.1 rfl (lv_room (Nat.le_of_ble_eq_true rfl)) dX5_readPiece_107 ⟨Nat.le_of_ble_eq_true rfl, Nat.le_of_ble_eq_true rfl⟩) hS (fun q _ h => hFc q h) hFc (fun u174 t H1 locs ht hvm h_u174 hB hz1 hk1 hS => ?_)
        obtain ⟨za0_5_176, za0_0_3_177, za0_0_4_178, za0_0_5_179, za0_0_6_180, za0_0_7_181, hF182, hF183, hF184, hP1, hK1, hD1⟩ := hB
        have hK1 := va_K.moved hvm.symm hK1
        have hJ9 := rgJ13_d0dfb98 hP hD hk1 hFc (atH ht hP1) hD1
        clear hP hD hPc hKc hDc hFc hP1 hD1 hk1 hz1
        obtain ⟨hP, hD⟩ := hJ9
        clear hK1
        generalize H1 = H at hP hS ⊢
        refine W.widen (k := 0) (n := 0) (Nat.le_of_ble_eq_true rfl) (Nat.le_of_ble_eq_true rfl) ?_
        refine lv_aload_n hx hb dX5_readPiece_110 rfl (lv_at hl 2 rfl) ?_
        refine va_get (D := (dC, dI)) (ci := 4) (v := .int za0_5_176) (C := RX5) (T := TX5) (N := 6) hx hb hts inlX5 hown hK hP 0 rgL13_890e5ad rfl 5 (by decide) (hts (.fieldLink RX5 41 "ClosedUntil$TextReader" "fault" "I") qw_97) (fun _ h9 => h9) rfl dX5_readPiece_111 ?_
        refine lv_iconst (v := (-1)) hx hb dX5_readPiece_114 (by decide) ?_
        refine lv_icmp_ne (tgt := 136) hx hb dX5_readPiece_115 (by decide) (fun c115_185 => ?_) (fun c115_185 => ?_)
        · have c115_185 : ¬ (za0_5_176.toInt = (-1)) := mt (cv_eq rfl (by decide)).mpr c115_185
          refine W.widen (k := 0) (n := 0) (Nat.le_of_ble_eq_true rfl) (Nat.le_of_ble_eq_true rfl) ?_
          have hP9 := hP
          have hD9 := hD
          have hK9 := (rgK9_204429a hK)
          have hf9_0 : (0 ≤ a0_4.toInt ∧ a0_4.toInt ≤ 36) := by omega
          have hf9_1 : (0 ≤ za0_0_3_177.toInt ∧ za0_0_3_177.toInt ≤ 1000) := by omega
          have hf9_2 : (0 ≤ za0_0_5_179.toInt ∧ za0_0_5_179.toInt ≤ 1000) := by omega
          have hf9_3 : (0 ≤ a1_4.toInt ∧ a1_4.toInt ≤ 24) := by omega
          have hf9_4 : (NOk a0_2_f a0_3_f a0_4) := by assumption
          exact W.vret hx hb hr (fun t ht hW => ⟨⟨(), rfl, trivial, a0_4, za0_5_176, za0_0_3_177, za0_0_4_178, za0_0_5_179, za0_0_6_180, za0_0_7_181, a0_1_f, a0_2_f, a0_3_f, a1_4, y149, y161, y173, y137, hf9_0, hf9_1, hf9_2, hf9_3, hf9_4, atB ht hP9, va_K.moved hW.alike hK9, hD9⟩, hS.F ht⟩) hS.2.2 dX5_readPiece_136
        · have c115_185 : za0_5_176.toInt = (-1) := (cv_eq rfl (by decide)).mp c115_185
          refine lv_aload_n hx hb dX5_readPiece_118 rfl (lv_at hl 3 rfl) ?_
          refine lv_dup hx hb dX5_readPiece_119 rfl ?_
          refine va_getN (D := (dC, dI)) (ci := 0) (v := .int a1_4) (C := RX1) (T := TX1) (N := 14) hx hb hts inlX1 hown hK hP 7 rgL13_37f2d2a rfl 4 (by decide) (va_Nw.use rfl (nf_36 hN)) (fun _ h9 => h9) rfl dX5_readPiece_120 ?_
          refine lv_iconst (v := 1) hx hb dX5_readPiece_123 (by decide) ?_
          refine lv_iadd hx hb dX5_readPiece_124 ?_
          refine lv_topi (fun x186 e_x186 => ?_)
          try have e_x186 := ti_add e_x186 rfl (show (1 : Int32).toInt = 1 by decide) (by omega)
          refine va_putN (D := (dC, dI)) (ci := 0) (v := .int x186) (ty := .int) (C := RX1) (T := TX1) (N := 14) hx hb hts inlX1 tyX1 tyX1_ok nmX1 hown hK hP hD hS 7 rgL13_37f2d2a rfl 4 (by decide) (va_Nw.use rfl (nf_36 hN)) (fun _ h9 => h9) rfl (by decide +kernel) rfl rfl (Nat.le_of_ble_eq_true rfl) dX5_readPiece_125 (fun H locs hP9 hD9 hS9 => ?_)
          clear hP hD hS
          obtain ⟨hP, hD⟩ := rgS13_5107f5d (e := (a1, .inr (0, [.int a1_0, .ref a1_1, .int a1_2, .ref a1_3, .int x186, .ref a1_5, .ref a1_6, .ref a1_7, .int a1_8, .ref a1_9, .ref a1_10, .ref a1_11, .ref a1_12, .ref a1_13]))) hP9 hD9 rfl
          have hS := hS9; clear hP9 hD9 hS9
          refine lv_aload_n hx hb dX5_readPiece_128 rfl (lv_at hl 2 rfl) ?_
          refine lv_lload hx hb dX5_readPiece_129 (lv_at hl 0 rfl) ?_
          refine lv_iconst (v := 4) hx hb dX5_readPiece_131 (by decide) ?_
          refine lv_iload_n hx hb dX5_readPiece_132 rfl (lv_at hl 1 rfl) ?_
          have qc4 : (4 : Int32).toInt = 4 := by decide
          have hPc := (rgP13_3115942 hP)
          have hKc := (rgK9_f236e41 hK)
          have hDc := (rgD13_8026d88 hD)
          have hFc := freeW hDc hS hA
          refine va_callv (va_runV (As := [.long r12, .int 4, .int a1_4]) (rest := []) ⟨hx, hb, hml, hown, hts⟩ (k_X5_addName l dC dI g H.size (a0) (r12) (4) (a1_4) (a0_0) (a0_1) (a0_2) (a0_3) (a0_4) (za0_5_176) (a0_1_c) (a0_1_f) (a0_2_c) (a0_2_f) (a0_3_c) (a0_3_f) (by omega) (by assumption) (by omega)) (cwV 3 hts (gwV qw_198 qw_199 qw_200 qw_100 qw_197) rfl rfl rfl (by decide +kernel) ⟨Nat.le_of_ble_eq_true rfl, Nat.le_of_ble_eq_true rfl⟩) ⟨fun a U g9 mk q => ⟨q.1, q.2.1, q.2.2.1, va_K.moved (u := U) (U := U.calling g9 mk a) (Vm.Alike.refl U.vm) q.2.2.2.1, q.2.2.2.2.1, Ev.bl q.2.2.2.2.2⟩, va_recv hK hP (ci := 4) (q0 := 0) rfl rgL13_890e5ad, fun U hU hW => ⟨rfl, by rw [hU], atB hU hPc, va_K.moved hW.alike hKc, hDc.weaken (fun _ _ _ _ => trivial), hE.go hS hFc hU hW⟩⟩ rfl rfl hl.1 rfl (lv_room (Nat.le_of_ble_eq_true rfl)) dX5_readPiece_133 ⟨Nat.le_of_ble_eq_true rfl, Nat.le_of_ble_eq_true rfl⟩) hS (fun q _ h => hFc q h) hFc (fun u187 t H1 locs ht hvm h_u187 hB hz1 hk1 hS => ?_)
          obtain ⟨za0_4_189, za0_1_f_190, za0_2_f_191, za0_3_f_192, hF193, hF194, hP1, hK1, hD1⟩ := hB
          have hK1 := va_K.moved hvm.symm hK1
          have hJ9 := rgJ13_5f5eb83 hP hD hk1 hFc (atH ht hP1) hD1
          clear hP hD hPc hKc hDc hFc hP1 hD1 hk1 hz1
          obtain ⟨hP, hD⟩ := hJ9
          clear hK1
          generalize H1 = H at hP hS ⊢
          refine W.widen (k := 0) (n := 0) (Nat.le_of_ble_eq_true rfl) (Nat.le_of_ble_eq_true rfl) ?_
          refine W.widen (k := 0) (n := 0) (Nat.le_of_ble_eq_true rfl) (Nat.le_of_ble_eq_true rfl) ?_
          have hP9 := hP
          have hD9 := hD
          have hK9 := (rgK9_204429a hK)
          have hf9_0 : (0 ≤ za0_4_189.toInt ∧ za0_4_189.toInt ≤ 36) := by omega
          have hf9_1 : (0 ≤ za0_0_3_177.toInt ∧ za0_0_3_177.toInt ≤ 1000) := by omega
          have hf9_2 : (0 ≤ za0_0_5_179.toInt ∧ za0_0_5_179.toInt ≤ 1000) := by omega
          have hf9_3 : (0 ≤ x186.toInt ∧ x186.toInt ≤ 24) := by omega
          have hf9_4 : (NOk za0_2_f_191 za0_3_f_192 za0_4_189) := by assumption
          exact W.vret hx hb hr (fun t ht hW => ⟨⟨(), rfl, trivial, za0_4_189, za0_5_176, za0_0_3_177, za0_0_4_178, za0_0_5_179, za0_0_6_180, za0_0_7_181, za0_1_f_190, za0_2_f_191, za0_3_f_192, x186, y149, y161, y173, y137, hf9_0, hf9_1, hf9_2, hf9_3, hf9_4, atB ht hP9, va_K.moved hW.alike hK9, hD9⟩, hS.F ht⟩) hS.2.2 dX5_readPiece_136
      · have c91_172 : ¬ (r163.toInt = 0) := mt (cv_eq rfl (by decide)).mpr c91_172
        refine lv_aload_n hx hb dX5_readPiece_94 rfl (lv_at hl 2 rfl) ?_
        refine lv_iconst (v := 3) hx hb dX5_readPiece_95 (by decide) ?_
        have qc3 : (3 : Int32).toInt = 3 := by decide
        have hPc := (rgP13_2c0acea hP)
        have hKc := (rgK9_ac80f80 hK)
        have hDc := (rgD13_2c0914f hD)
        have hFc := freeW hDc hS hA
        refine va_calli (va_runV (As := [.int 3]) (rest := [.int a1_4, .ref a1_7]) ⟨hx, hb, hml, hown, hts⟩ (k_X5_readName l dC dI g H.size (a0) (3) (a0_0) (a0_1) (a0_2) (a0_3) (a0_4) (za0_5_152) (a0_0_0) (a0_0_1) (a0_0_2) (za0_0_3_164) (za0_0_4_165) (za0_0_5_166) (za0_0_6_167) (za0_0_7_168) (a0_0_0_c) (a0_0_0_f) (a0_0_1_c) (a0_0_1_f) (a0_1_c) (a0_1_f) (a0_2_c) (a0_2_f) (a0_3_c) (a0_3_f) (by omega) (by omega) (by omega) (by omega) (by assumption)) (cwV 1 hts (gwV qw_121 qw_122 qw_123 qw_100 qw_120) rfl rfl rfl (by decide +kernel) ⟨Nat.le_of_ble_eq_true rfl, Nat.le_of_ble_eq_true rfl⟩) ⟨fun a U g9 mk q => ⟨q.1, q.2.1, q.2.2.1, va_K.moved (u := U) (U := U.calling g9 mk a) (Vm.Alike.refl U.vm) q.2.2.2.1, q.2.2.2.2.1, Ev.bl q.2.2.2.2.2⟩, va_recv hK hP (ci := 4) (q0 := 0) rfl rgL13_890e5ad, fun U hU hW => ⟨rfl, by rw [hU], atB hU hPc, va_K.moved hW.alike hKc, hDc.weaken (fun _ _ _ _ => trivial), hE.go hS hFc hU hW⟩⟩ rfl rfl hl.1 rfl (lv_room (Nat.le_of_ble_eq_true rfl)) dX5_readPiece_96 ⟨Nat.le_of_ble_eq_true rfl, Nat.le_of_ble_eq_true rfl⟩) hS (fun q _ h => hFc q h) hFc (fun r196 u195 t H1 locs ht hvm h_u195 hB hz1 hk1 hS => ?_)
        obtain ⟨za0_5_197, za0_0_3_198, za0_0_4_199, za0_0_5_200, za0_0_6_201, za0_0_7_202, hF203, hF204, hF205, hF206, hP1, hK1, hD1⟩ := hB
        have hK1 := va_K.moved hvm.symm hK1
        have hJ9 := rgJ13_7c0c7c9 hP hD hk1 hFc (atH ht hP1) hD1
        clear hP hD hPc hKc hDc hFc hP1 hD1 hk1 hz1
        obtain ⟨hP, hD⟩ := hJ9
        clear hK1
        generalize H1 = H at hP hS ⊢
        refine W.widen (k := 0) (n := 0) (Nat.le_of_ble_eq_true rfl) (Nat.le_of_ble_eq_true rfl) ?_
        have h_r196 := congrArg Int32.toInt h_u195
        have b_r196 := i32b r196
        refine lv_goto (tgt := 103) hx hb dX5_readPiece_99 (by decide) ?_
        refine va_iast hx hb hK hP hD hS 10 7 rgL13_e69bf83 rgT9_b6a8be7 (vinI (by omega) (by omega)) dX5_readPiece_103 (fun H locs hP9 hD9 hS9 => ?_)
        obtain ⟨y207, e_y207⟩ : ∃ y, (upd a1_7_f a1_4.toNatClampNeg r196) = y := ⟨_, rfl⟩
        clear hP hD hS
        obtain ⟨hP, hD⟩ := rgS13_ab58875 (e := (a1_7, .inl (a1_7_c, 24, .inl y207))) hP9 hD9 (congrArg (fun z9 => (((a1_7, .inl (a1_7_c, 24, .inl z9)) : Nat × va_E))) e_y207)
        have hS := hS9; clear hP9 hD9 hS9
        refine lv_aload_n hx hb dX5_readPiece_104 rfl (lv_at hl 2 rfl) ?_
        refine lv_bipush (v := 14) hx hb dX5_readPiece_105 (by decide) ?_
        have qc14 : (14 : Int32).toInt = 14 := by decide
        have hPc := (rgP13_688883d hP)
        have hKc := (rgK9_2a876ff hK)
        have hDc := (rgD13_143f4da hD)
        have hFc := freeW hDc hS hA
        refine va_callv (va_runV (As := [.int 14]) (rest := []) ⟨hx, hb, hml, hown, hts⟩ (k_X5_pass l dC dI g H.size (a0) (14) (a0_0) (a0_1) (a0_2) (a0_3) (a0_4) (za0_5_197) (a0_0_0) (a0_0_1) (a0_0_2) (za0_0_3_198) (za0_0_4_199) (za0_0_5_200) (za0_0_6_201) (za0_0_7_202) (a0_0_0_c) (a0_0_0_f) (a0_0_1_c) (a0_0_1_f) (by omega) (by omega) (by omega) (by omega)) (cwV 1 hts (gwV qw_194 qw_195 qw_196 qw_100 qw_193) rfl rfl rfl (by decide +kernel) ⟨Nat.le_of_ble_eq_true rfl, Nat.le_of_ble_eq_true rfl⟩) ⟨fun a U g9 mk q => ⟨q.1, q.2.1, q.2.2.1, va_K.moved (u := U) (U := U.calling g9 mk a) (Vm.Alike.refl U.vm) q.2.2.2.1, q.2.2.2.2.1, Ev.bl q.2.2.2.2.2⟩, va_recv hK hP (ci := 4) (q0 := 0) rfl rgL13_890e5ad, fun U hU hW => ⟨rfl, by rw [hU], atB hU hPc, va_K.moved hW.alike hKc, hDc.weaken (fun _ _ _ _ => trivial), hE.go hS hFc hU hW⟩⟩ rfl rfl hl.1 rfl (lv_room (Nat.le_of_ble_eq_true rfl)) dX5_readPiece_107 ⟨Nat.le_of_ble_eq_true rfl, Nat.le_of_ble_eq_true rfl⟩) hS (fun q _ h => hFc q h) hFc (fun u208 t H1 locs ht hvm h_u208 hB hz1 hk1 hS => ?_)
        obtain ⟨za0_5_210, za0_0_3_211, za0_0_4_212, za0_0_5_213, za0_0_6_214, za0_0_7_215, hF216, hF217, hF218, hP1, hK1, hD1⟩ := hB
        have hK1 := va_K.moved hvm.symm hK1
        have hJ9 := rgJ13_d0dfb98 hP hD hk1 hFc (atH ht hP1) hD1
        clear hP hD hPc hKc hDc hFc hP1 hD1 hk1 hz1
        obtain ⟨hP, hD⟩ := hJ9
        clear hK1
        generalize H1 = H at hP hS ⊢
        refine W.widen (k := 0) (n := 0) (Nat.le_of_ble_eq_true rfl) (Nat.le_of_ble_eq_true rfl) ?_
        refine lv_aload_n hx hb dX5_readPiece_110 rfl (lv_at hl 2 rfl) ?_
        refine va_get (D := (dC, dI)) (ci := 4) (v := .int za0_5_210) (C := RX5) (T := TX5) (N := 6) hx hb hts inlX5 hown hK hP 0 rgL13_890e5ad rfl 5 (by decide) (hts (.fieldLink RX5 41 "ClosedUntil$TextReader" "fault" "I") qw_97) (fun _ h9 => h9) rfl dX5_readPiece_111 ?_
        refine lv_iconst (v := (-1)) hx hb dX5_readPiece_114 (by decide) ?_
        refine lv_icmp_ne (tgt := 136) hx hb dX5_readPiece_115 (by decide) (fun c115_219 => ?_) (fun c115_219 => ?_)
        · have c115_219 : ¬ (za0_5_210.toInt = (-1)) := mt (cv_eq rfl (by decide)).mpr c115_219
          refine W.widen (k := 0) (n := 0) (Nat.le_of_ble_eq_true rfl) (Nat.le_of_ble_eq_true rfl) ?_
          have hP9 := hP
          have hD9 := hD
          have hK9 := (rgK9_204429a hK)
          have hf9_0 : (0 ≤ a0_4.toInt ∧ a0_4.toInt ≤ 36) := by omega
          have hf9_1 : (0 ≤ za0_0_3_211.toInt ∧ za0_0_3_211.toInt ≤ 1000) := by omega
          have hf9_2 : (0 ≤ za0_0_5_213.toInt ∧ za0_0_5_213.toInt ≤ 1000) := by omega
          have hf9_3 : (0 ≤ a1_4.toInt ∧ a1_4.toInt ≤ 24) := by omega
          have hf9_4 : (NOk a0_2_f a0_3_f a0_4) := by assumption
          exact W.vret hx hb hr (fun t ht hW => ⟨⟨(), rfl, trivial, a0_4, za0_5_210, za0_0_3_211, za0_0_4_212, za0_0_5_213, za0_0_6_214, za0_0_7_215, a0_1_f, a0_2_f, a0_3_f, a1_4, y149, y161, y207, y137, hf9_0, hf9_1, hf9_2, hf9_3, hf9_4, atB ht hP9, va_K.moved hW.alike hK9, hD9⟩, hS.F ht⟩) hS.2.2 dX5_readPiece_136
        · have c115_219 : za0_5_210.toInt = (-1) := (cv_eq rfl (by decide)).mp c115_219
          refine lv_aload_n hx hb dX5_readPiece_118 rfl (lv_at hl 3 rfl) ?_
          refine lv_dup hx hb dX5_readPiece_119 rfl ?_
          refine va_getN (D := (dC, dI)) (ci := 0) (v := .int a1_4) (C := RX1) (T := TX1) (N := 14) hx hb hts inlX1 hown hK hP 7 rgL13_37f2d2a rfl 4 (by decide) (va_Nw.use rfl (nf_36 hN)) (fun _ h9 => h9) rfl dX5_readPiece_120 ?_
          refine lv_iconst (v := 1) hx hb dX5_readPiece_123 (by decide) ?_
          refine lv_iadd hx hb dX5_readPiece_124 ?_
          refine lv_topi (fun x220 e_x220 => ?_)
          try have e_x220 := ti_add e_x220 rfl (show (1 : Int32).toInt = 1 by decide) (by omega)
          refine va_putN (D := (dC, dI)) (ci := 0) (v := .int x220) (ty := .int) (C := RX1) (T := TX1) (N := 14) hx hb hts inlX1 tyX1 tyX1_ok nmX1 hown hK hP hD hS 7 rgL13_37f2d2a rfl 4 (by decide) (va_Nw.use rfl (nf_36 hN)) (fun _ h9 => h9) rfl (by decide +kernel) rfl rfl (Nat.le_of_ble_eq_true rfl) dX5_readPiece_125 (fun H locs hP9 hD9 hS9 => ?_)
          clear hP hD hS
          obtain ⟨hP, hD⟩ := rgS13_5107f5d (e := (a1, .inr (0, [.int a1_0, .ref a1_1, .int a1_2, .ref a1_3, .int x220, .ref a1_5, .ref a1_6, .ref a1_7, .int a1_8, .ref a1_9, .ref a1_10, .ref a1_11, .ref a1_12, .ref a1_13]))) hP9 hD9 rfl
          have hS := hS9; clear hP9 hD9 hS9
          refine lv_aload_n hx hb dX5_readPiece_128 rfl (lv_at hl 2 rfl) ?_
          refine lv_lload hx hb dX5_readPiece_129 (lv_at hl 0 rfl) ?_
          refine lv_iconst (v := 4) hx hb dX5_readPiece_131 (by decide) ?_
          refine lv_iload_n hx hb dX5_readPiece_132 rfl (lv_at hl 1 rfl) ?_
          have qc4 : (4 : Int32).toInt = 4 := by decide
          have hPc := (rgP13_3115942 hP)
          have hKc := (rgK9_f236e41 hK)
          have hDc := (rgD13_8026d88 hD)
          have hFc := freeW hDc hS hA
          refine va_callv (va_runV (As := [.long r12, .int 4, .int a1_4]) (rest := []) ⟨hx, hb, hml, hown, hts⟩ (k_X5_addName l dC dI g H.size (a0) (r12) (4) (a1_4) (a0_0) (a0_1) (a0_2) (a0_3) (a0_4) (za0_5_210) (a0_1_c) (a0_1_f) (a0_2_c) (a0_2_f) (a0_3_c) (a0_3_f) (by omega) (by assumption) (by omega)) (cwV 3 hts (gwV qw_198 qw_199 qw_200 qw_100 qw_197) rfl rfl rfl (by decide +kernel) ⟨Nat.le_of_ble_eq_true rfl, Nat.le_of_ble_eq_true rfl⟩) ⟨fun a U g9 mk q => ⟨q.1, q.2.1, q.2.2.1, va_K.moved (u := U) (U := U.calling g9 mk a) (Vm.Alike.refl U.vm) q.2.2.2.1, q.2.2.2.2.1, Ev.bl q.2.2.2.2.2⟩, va_recv hK hP (ci := 4) (q0 := 0) rfl rgL13_890e5ad, fun U hU hW => ⟨rfl, by rw [hU], atB hU hPc, va_K.moved hW.alike hKc, hDc.weaken (fun _ _ _ _ => trivial), hE.go hS hFc hU hW⟩⟩ rfl rfl hl.1 rfl (lv_room (Nat.le_of_ble_eq_true rfl)) dX5_readPiece_133 ⟨Nat.le_of_ble_eq_true rfl, Nat.le_of_ble_eq_true rfl⟩) hS (fun q _ h => hFc q h) hFc (fun u221 t H1 locs ht hvm h_u221 hB hz1 hk1 hS => ?_)
          obtain ⟨za0_4_223, za0_1_f_224, za0_2_f_225, za0_3_f_226, hF227, hF228, hP1, hK1, hD1⟩ := hB
          have hK1 := va_K.moved hvm.symm hK1
          have hJ9 := rgJ13_5f5eb83 hP hD hk1 hFc (atH ht hP1) hD1
          clear hP hD hPc hKc hDc hFc hP1 hD1 hk1 hz1
          obtain ⟨hP, hD⟩ := hJ9
          clear hK1
          generalize H1 = H at hP hS ⊢
          refine W.widen (k := 0) (n := 0) (Nat.le_of_ble_eq_true rfl) (Nat.le_of_ble_eq_true rfl) ?_
          refine W.widen (k := 0) (n := 0) (Nat.le_of_ble_eq_true rfl) (Nat.le_of_ble_eq_true rfl) ?_
          have hP9 := hP
          have hD9 := hD
          have hK9 := (rgK9_204429a hK)
          have hf9_0 : (0 ≤ za0_4_223.toInt ∧ za0_4_223.toInt ≤ 36) := by omega
          have hf9_1 : (0 ≤ za0_0_3_211.toInt ∧ za0_0_3_211.toInt ≤ 1000) := by omega
          have hf9_2 : (0 ≤ za0_0_5_213.toInt ∧ za0_0_5_213.toInt ≤ 1000) := by omega
          have hf9_3 : (0 ≤ x220.toInt ∧ x220.toInt ≤ 24) := by omega
          have hf9_4 : (NOk za0_2_f_225 za0_3_f_226 za0_4_223) := by assumption
          exact W.vret hx hb hr (fun t ht hW => ⟨⟨(), rfl, trivial, za0_4_223, za0_5_210, za0_0_3_211, za0_0_4_212, za0_0_5_213, za0_0_6_214, za0_0_7_215, za0_1_f_224, za0_2_f_225, za0_3_f_226, x220, y149, y161, y207, y137, hf9_0, hf9_1, hf9_2, hf9_3, hf9_4, atB ht hP9, va_K.moved hW.alike hK9, hD9⟩, hS.F ht⟩) hS.2.2 dX5_readPiece_136
  · have c8_1 : ¬ (a1_4.toInt < 24) := mt (cv_lt rfl (by decide)).mpr c8_1
    refine lv_aload_n hx hb dX5_readPiece_11 rfl (lv_at hl 1 rfl) ?_
    refine lv_iconst (v := 5) hx hb dX5_readPiece_12 (by decide) ?_
    refine lv_aload_n hx hb dX5_readPiece_13 rfl (lv_at hl 1 rfl) ?_
    refine va_get (D := (dC, dI)) (ci := 4) (v := .ref a0_0) (C := RX5) (T := TX5) (N := 6) hx hb hts inlX5 hown hK hP 0 rgL13_890e5ad rfl 0 (by decide) (hts (.fieldLink RX5 12 "ClosedUntil$TextReader" "tokens" "LClosedUntil$Tokens;") qw_98) (fun _ h9 => h9) rfl dX5_readPiece_14 ?_
    refine va_getN (D := (dC, dI)) (ci := 6) (v := .int a0_0_5) (C := RX7) (T := TX7) (N := 8) hx hb hts inlX7 hown hK hP 1 rgL13_042e8a6 rfl 5 (by decide) (va_Nw.use rfl (nf_3 hN)) (fun _ h9 => h9) rfl dX5_readPiece_17 ?_
    have qc5 : (5 : Int32).toInt = 5 := by decide
    have hPc := (rgP13_c385d03 hP)
    have hKc := (rgK9_204429a hK)
    have hDc := (rgD13_9e851cf hD)
    have hFc := freeW hDc hS hA
    refine va_callv (va_runV (As := [.int 5, .int a0_0_5]) (rest := []) ⟨hx, hb, hml, hown, hts⟩ (k_X5_fail l dC dI g s.heap.size (a0) (5) (a0_0_5) (a0_0) (a0_1) (a0_2) (a0_3) (a0_4) (a0_5) (by omega) (by omega) (by omega)) (cwV 2 hts (gwV qw_105 qw_106 qw_107 qw_100 qw_104) rfl rfl rfl (by decide +kernel) ⟨Nat.le_of_ble_eq_true rfl, Nat.le_of_ble_eq_true rfl⟩) ⟨fun a U g9 mk q => ⟨q.1, q.2.1, q.2.2.1, va_K.moved (u := U) (U := U.calling g9 mk a) (Vm.Alike.refl U.vm) q.2.2.2.1, q.2.2.2.2.1, Ev.bl q.2.2.2.2.2⟩, va_recv hK hP (ci := 4) (q0 := 0) rfl rgL13_890e5ad, fun U hU hW => ⟨rfl, by rw [hU], atB hU hPc, va_K.moved hW.alike hKc, hDc.weaken (fun _ _ _ _ => trivial), hE.go hS hFc hU hW⟩⟩ rfl rfl hl.1 rfl (lv_room (Nat.le_of_ble_eq_true rfl)) dX5_readPiece_20 ⟨Nat.le_of_ble_eq_true rfl, Nat.le_of_ble_eq_true rfl⟩) hS (fun q _ h => hFc q h) hFc (fun u229 t H1 locs ht hvm h_u229 hB hz1 hk1 hS => ?_)
    obtain ⟨za0_5_231, hF232, hP1, hK1, hD1⟩ := hB
    have hK1 := va_K.moved hvm.symm hK1
    have hJ9 := rgJ13_5034f5f hP hD hk1 hFc (atH ht hP1) hD1
    clear hP hD hPc hKc hDc hFc hP1 hD1 hk1 hz1
    obtain ⟨hP, hD⟩ := hJ9
    clear hK1
    generalize H1 = H at hP hS ⊢
    refine W.widen (k := 0) (n := 0) (Nat.le_of_ble_eq_true rfl) (Nat.le_of_ble_eq_true rfl) ?_
    refine W.widen (k := 0) (n := 0) (Nat.le_of_ble_eq_true rfl) (Nat.le_of_ble_eq_true rfl) ?_
    have hP9 := hP
    have hD9 := hD
    have hK9 := (rgK9_204429a hK)
    have hf9_0 : (0 ≤ a0_4.toInt ∧ a0_4.toInt ≤ 36) := by omega
    have hf9_1 : (0 ≤ a0_0_3.toInt ∧ a0_0_3.toInt ≤ 1000) := by omega
    have hf9_2 : (0 ≤ a0_0_5.toInt ∧ a0_0_5.toInt ≤ 1000) := by omega
    have hf9_3 : (0 ≤ a1_4.toInt ∧ a1_4.toInt ≤ 24) := by omega
    have hf9_4 : (NOk a0_2_f a0_3_f a0_4) := by assumption
    exact W.vret hx hb hr (fun t ht hW => ⟨⟨(), rfl, trivial, a0_4, za0_5_231, a0_0_3, a0_0_4, a0_0_5, a0_0_6, a0_0_7, a0_1_f, a0_2_f, a0_3_f, a1_4, a1_5_f, a1_6_f, a1_7_f, a2_0_f, hf9_0, hf9_1, hf9_2, hf9_3, hf9_4, atB ht hP9, va_K.moved hW.alike hK9, hD9⟩, hS.F ht⟩) hS.2.2 dX5_readPiece_23
