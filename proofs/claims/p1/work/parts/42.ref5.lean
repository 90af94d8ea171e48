theorem dX9_isPiece_0 : decode cX9_isPiece 0 = .ok (.iload_n 1, 1) := by decide +kernel
theorem dX9_isPiece_1 : decode cX9_isPiece 1 = .ok (.i2l, 1) := by decide +kernel
theorem dX9_isPiece_2 : decode cX9_isPiece 2 = .ok (.lconst 0, 1) := by decide +kernel
theorem dX9_isPiece_3 : decode cX9_isPiece 3 = .ok (.aload_n 0, 1) := by decide +kernel
theorem dX9_isPiece_4 : decode cX9_isPiece 4 = .ok (.getfield 20, 3) := by decide +kernel
theorem dX9_isPiece_7 : decode cX9_isPiece 7 = .ok (.iconst 0, 1) := by decide +kernel
theorem dX9_isPiece_8 : decode cX9_isPiece 8 = .ok (.iaload, 1) := by decide +kernel
theorem dX9_isPiece_9 : decode cX9_isPiece 9 = .ok (.iconst 1, 1) := by decide +kernel
theorem dX9_isPiece_10 : decode cX9_isPiece 10 = .ok (.isub, 1) := by decide +kernel
theorem dX9_isPiece_11 : decode cX9_isPiece 11 = .ok (.i2l, 1) := by decide +kernel
theorem dX9_isPiece_12 : decode cX9_isPiece 12 = .ok (.invokestatic 123, 3) := by decide +kernel
theorem dX9_isPiece_15 : decode cX9_isPiece 15 = .ok (.ireturn, 1) := by decide +kernel
theorem dX9_isClosure_0 : decode cX9_isClosure 0 = .ok (.iload_n 1, 1) := by decide +kernel
theorem dX9_isClosure_1 : decode cX9_isClosure 1 = .ok (.i2l, 1) := by decide +kernel
theorem dX9_isClosure_2 : decode cX9_isClosure 2 = .ok (.lconst 0, 1) := by decide +kernel
theorem dX9_isClosure_3 : decode cX9_isClosure 3 = .ok (.aload_n 0, 1) := by decide +kernel
theorem dX9_isClosure_4 : decode cX9_isClosure 4 = .ok (.getfield 23, 3) := by decide +kernel
theorem dX9_isClosure_7 : decode cX9_isClosure 7 = .ok (.iconst 0, 1) := by decide +kernel
theorem dX9_isClosure_8 : decode cX9_isClosure 8 = .ok (.iaload, 1) := by decide +kernel
theorem dX9_isClosure_9 : decode cX9_isClosure 9 = .ok (.iconst 1, 1) := by decide +kernel
theorem dX9_isClosure_10 : decode cX9_isClosure 10 = .ok (.isub, 1) := by decide +kernel
theorem dX9_isClosure_11 : decode cX9_isClosure 11 = .ok (.i2l, 1) := by decide +kernel
theorem dX9_isClosure_12 : decode cX9_isClosure 12 = .ok (.invokestatic 123, 3) := by decide +kernel
theorem dX9_isClosure_15 : decode cX9_isClosure 15 = .ok (.ireturn, 1) := by decide +kernel
theorem dX9_isPerson_0 : decode cX9_isPerson 0 = .ok (.iload_n 1, 1) := by decide +kernel
theorem dX9_isPerson_1 : decode cX9_isPerson 1 = .ok (.i2l, 1) := by decide +kernel
theorem dX9_isPerson_2 : decode cX9_isPerson 2 = .ok (.lconst 0, 1) := by decide +kernel
theorem dX9_isPerson_3 : decode cX9_isPerson 3 = .ok (.aload_n 0, 1) := by decide +kernel
theorem dX9_isPerson_4 : decode cX9_isPerson 4 = .ok (.getfield 13, 3) := by decide +kernel
theorem dX9_isPerson_7 : decode cX9_isPerson 7 = .ok (.iconst 0, 1) := by decide +kernel
theorem dX9_isPerson_8 : decode cX9_isPerson 8 = .ok (.iaload, 1) := by decide +kernel
theorem dX9_isPerson_9 : decode cX9_isPerson 9 = .ok (.iconst 1, 1) := by decide +kernel
theorem dX9_isPerson_10 : decode cX9_isPerson 10 = .ok (.isub, 1) := by decide +kernel
theorem dX9_isPerson_11 : decode cX9_isPerson 11 = .ok (.i2l, 1) := by decide +kernel
theorem dX9_isPerson_12 : decode cX9_isPerson 12 = .ok (.invokestatic 123, 3) := by decide +kernel
theorem dX9_isPerson_15 : decode cX9_isPerson 15 = .ok (.ireturn, 1) := by decide +kernel
theorem dX9_piece_0 : decode cX9_piece 0 = .ok (.aload_n 0, 1) := by decide +kernel
theorem dX9_piece_1 : decode cX9_piece 1 = .ok (.iconst 0, 1) := by decide +kernel
theorem dX9_piece_2 : decode cX9_piece 2 = .ok (.putfield 85, 3) := by decide +kernel
theorem dX9_piece_5 : decode cX9_piece 5 = .ok (.aload_n 0, 1) := by decide +kernel
theorem dX9_piece_6 : decode cX9_piece 6 = .ok (.iload_n 1, 1) := by decide +kernel
theorem dX9_piece_7 : decode cX9_piece 7 = .ok (.invokevirtual 322, 3) := by decide +kernel
theorem dX9_piece_10 : decode cX9_piece 10 = .ok (.ifCond .ne 6, 3) := by decide +kernel
theorem dX9_piece_13 : decode cX9_piece 13 = .ok (.bipush (-2), 2) := by decide +kernel
theorem dX9_piece_15 : decode cX9_piece 15 = .ok (.ireturn, 1) := by decide +kernel
theorem dX9_piece_16 : decode cX9_piece 16 = .ok (.iload_n 2, 1) := by decide +kernel
theorem dX9_piece_17 : decode cX9_piece 17 = .ok (.tableswitch 79 0 5 #[39, 46, 53, 60, 67, 73], 39) := by decide +kernel
theorem dX9_piece_56 : decode cX9_piece 56 = .ok (.aload_n 0, 1) := by decide +kernel
theorem dX9_piece_57 : decode cX9_piece 57 = .ok (.getfield 70, 3) := by decide +kernel
theorem dX9_piece_60 : decode cX9_piece 60 = .ok (.iload_n 1, 1) := by decide +kernel
theorem dX9_piece_61 : decode cX9_piece 61 = .ok (.iaload, 1) := by decide +kernel
theorem dX9_piece_62 : decode cX9_piece 62 = .ok (.ireturn, 1) := by decide +kernel
theorem dX9_piece_63 : decode cX9_piece 63 = .ok (.aload_n 0, 1) := by decide +kernel
theorem dX9_piece_64 : decode cX9_piece 64 = .ok (.getfield 48, 3) := by decide +kernel
theorem dX9_piece_67 : decode cX9_piece 67 = .ok (.iload_n 1, 1) := by decide +kernel
theorem dX9_piece_68 : decode cX9_piece 68 = .ok (.iaload, 1) := by decide +kernel
theorem dX9_piece_69 : decode cX9_piece 69 = .ok (.ireturn, 1) := by decide +kernel
theorem dX9_piece_70 : decode cX9_piece 70 = .ok (.aload_n 0, 1) := by decide +kernel
theorem dX9_piece_71 : decode cX9_piece 71 = .ok (.getfield 51, 3) := by decide +kernel
theorem dX9_piece_74 : decode cX9_piece 74 = .ok (.iload_n 1, 1) := by decide +kernel
theorem dX9_piece_75 : decode cX9_piece 75 = .ok (.iaload, 1) := by decide +kernel
theorem dX9_piece_76 : decode cX9_piece 76 = .ok (.ireturn, 1) := by decide +kernel
theorem dX9_piece_77 : decode cX9_piece 77 = .ok (.aload_n 0, 1) := by decide +kernel
theorem dX9_piece_78 : decode cX9_piece 78 = .ok (.getfield 54, 3) := by decide +kernel
theorem dX9_piece_81 : decode cX9_piece 81 = .ok (.iload_n 1, 1) := by decide +kernel
theorem dX9_piece_82 : decode cX9_piece 82 = .ok (.iaload, 1) := by decide +kernel
theorem dX9_piece_83 : decode cX9_piece 83 = .ok (.ireturn, 1) := by decide +kernel
theorem dX9_piece_84 : decode cX9_piece 84 = .ok (.aload_n 0, 1) := by decide +kernel
theorem dX9_piece_85 : decode cX9_piece 85 = .ok (.iload_n 1, 1) := by decide +kernel
theorem dX9_piece_86 : decode cX9_piece 86 = .ok (.invokevirtual 325, 3) := by decide +kernel
theorem dX9_piece_89 : decode cX9_piece 89 = .ok (.ireturn, 1) := by decide +kernel
theorem dX9_piece_90 : decode cX9_piece 90 = .ok (.aload_n 0, 1) := by decide +kernel
theorem dX9_piece_91 : decode cX9_piece 91 = .ok (.iload_n 1, 1) := by decide +kernel
theorem dX9_piece_92 : decode cX9_piece 92 = .ok (.invokevirtual 328, 3) := by decide +kernel
theorem dX9_piece_95 : decode cX9_piece 95 = .ok (.ireturn, 1) := by decide +kernel
theorem dX9_piece_96 : decode cX9_piece 96 = .ok (.bipush (-2), 2) := by decide +kernel
theorem dX9_piece_98 : decode cX9_piece 98 = .ok (.ireturn, 1) := by decide +kernel
theorem dX9_person_0 : decode cX9_person 0 = .ok (.aload_n 0, 1) := by decide +kernel
theorem dX9_person_1 : decode cX9_person 1 = .ok (.iconst 0, 1) := by decide +kernel
theorem dX9_person_2 : decode cX9_person 2 = .ok (.putfield 85, 3) := by decide +kernel
theorem dX9_person_5 : decode cX9_person 5 = .ok (.aload_n 0, 1) := by decide +kernel
theorem dX9_person_6 : decode cX9_person 6 = .ok (.iload_n 1, 1) := by decide +kernel
theorem dX9_person_7 : decode cX9_person 7 = .ok (.invokevirtual 331, 3) := by decide +kernel
theorem dX9_person_10 : decode cX9_person 10 = .ok (.ifCond .ne 6, 3) := by decide +kernel
theorem dX9_person_13 : decode cX9_person 13 = .ok (.bipush (-2), 2) := by decide +kernel
theorem dX9_person_15 : decode cX9_person 15 = .ok (.ireturn, 1) := by decide +kernel
theorem dX9_person_16 : decode cX9_person 16 = .ok (.iload_n 2, 1) := by decide +kernel
theorem dX9_person_17 : decode cX9_person 17 = .ok (.ifCond .ne 12, 3) := by decide +kernel
theorem dX9_person_20 : decode cX9_person 20 = .ok (.aload_n 0, 1) := by decide +kernel
theorem dX9_person_21 : decode cX9_person 21 = .ok (.getfield 30, 3) := by decide +kernel
theorem dX9_person_24 : decode cX9_person 24 = .ok (.iload_n 1, 1) := by decide +kernel
theorem dX9_person_25 : decode cX9_person 25 = .ok (.iaload, 1) := by decide +kernel
theorem dX9_person_26 : decode cX9_person 26 = .ok (.goto 35, 3) := by decide +kernel
theorem dX9_person_29 : decode cX9_person 29 = .ok (.iload_n 2, 1) := by decide +kernel
theorem dX9_person_30 : decode cX9_person 30 = .ok (.iconst 1, 1) := by decide +kernel
theorem dX9_person_31 : decode cX9_person 31 = .ok (.if_icmp .ne 15, 3) := by decide +kernel
theorem dX9_person_34 : decode cX9_person 34 = .ok (.aload_n 0, 1) := by decide +kernel
theorem dX9_person_35 : decode cX9_person 35 = .ok (.getfield 70, 3) := by decide +kernel
theorem dX9_person_38 : decode cX9_person 38 = .ok (.bipush 24, 2) := by decide +kernel
theorem dX9_person_40 : decode cX9_person 40 = .ok (.iload_n 1, 1) := by decide +kernel
theorem dX9_person_41 : decode cX9_person 41 = .ok (.iadd, 1) := by decide +kernel
theorem dX9_person_42 : decode cX9_person 42 = .ok (.iaload, 1) := by decide +kernel
theorem dX9_person_43 : decode cX9_person 43 = .ok (.goto 18, 3) := by decide +kernel
theorem dX9_person_46 : decode cX9_person 46 = .ok (.iload_n 2, 1) := by decide +kernel
theorem dX9_person_47 : decode cX9_person 47 = .ok (.iconst 2, 1) := by decide +kernel
theorem dX9_person_48 : decode cX9_person 48 = .ok (.if_icmp .ne 11, 3) := by decide +kernel
theorem dX9_person_51 : decode cX9_person 51 = .ok (.aload_n 0, 1) := by decide +kernel
theorem dX9_person_52 : decode cX9_person 52 = .ok (.iload_n 1, 1) := by decide +kernel
theorem dX9_person_53 : decode cX9_person 53 = .ok (.invokevirtual 334, 3) := by decide +kernel
theorem dX9_person_56 : decode cX9_person 56 = .ok (.goto 5, 3) := by decide +kernel
theorem dX9_person_59 : decode cX9_person 59 = .ok (.bipush (-2), 2) := by decide +kernel
theorem dX9_person_61 : decode cX9_person 61 = .ok (.ireturn, 1) := by decide +kernel
theorem dX9_closure_0 : decode cX9_closure 0 = .ok (.aload_n 0, 1) := by decide +kernel
theorem dX9_closure_1 : decode cX9_closure 1 = .ok (.iconst 0, 1) := by decide +kernel
theorem dX9_closure_2 : decode cX9_closure 2 = .ok (.putfield 85, 3) := by decide +kernel
theorem dX9_closure_5 : decode cX9_closure 5 = .ok (.aload_n 0, 1) := by decide +kernel
theorem dX9_closure_6 : decode cX9_closure 6 = .ok (.iload_n 1, 1) := by decide +kernel
theorem dX9_closure_7 : decode cX9_closure 7 = .ok (.invokevirtual 337, 3) := by decide +kernel
theorem dX9_closure_10 : decode cX9_closure 10 = .ok (.ifCond .ne 6, 3) := by decide +kernel
theorem dX9_closure_13 : decode cX9_closure 13 = .ok (.bipush (-2), 2) := by decide +kernel
theorem dX9_closure_15 : decode cX9_closure 15 = .ok (.ireturn, 1) := by decide +kernel
theorem dX9_closure_16 : decode cX9_closure 16 = .ok (.iload_n 2, 1) := by decide +kernel
theorem dX9_closure_17 : decode cX9_closure 17 = .ok (.tableswitch 104 0 6 #[43, 50, 57, 72, 82, 92, 98], 43) := by decide +kernel
theorem dX9_closure_60 : decode cX9_closure 60 = .ok (.aload_n 0, 1) := by decide +kernel
theorem dX9_closure_61 : decode cX9_closure 61 = .ok (.getfield 57, 3) := by decide +kernel
theorem dX9_closure_64 : decode cX9_closure 64 = .ok (.iload_n 1, 1) := by decide +kernel
theorem dX9_closure_65 : decode cX9_closure 65 = .ok (.iaload, 1) := by decide +kernel
theorem dX9_closure_66 : decode cX9_closure 66 = .ok (.ireturn, 1) := by decide +kernel
theorem dX9_closure_67 : decode cX9_closure 67 = .ok (.aload_n 0, 1) := by decide +kernel
theorem dX9_closure_68 : decode cX9_closure 68 = .ok (.getfield 60, 3) := by decide +kernel
theorem dX9_closure_71 : decode cX9_closure 71 = .ok (.iload_n 1, 1) := by decide +kernel
theorem dX9_closure_72 : decode cX9_closure 72 = .ok (.iaload, 1) := by decide +kernel
theorem dX9_closure_73 : decode cX9_closure 73 = .ok (.ireturn, 1) := by decide +kernel
theorem dX9_closure_74 : decode cX9_closure 74 = .ok (.aload_n 0, 1) := by decide +kernel
theorem dX9_closure_75 : decode cX9_closure 75 = .ok (.getfield 66, 3) := by decide +kernel
theorem dX9_closure_78 : decode cX9_closure 78 = .ok (.iload_n 1, 1) := by decide +kernel
theorem dX9_closure_79 : decode cX9_closure 79 = .ok (.baload, 1) := by decide +kernel
theorem dX9_closure_80 : decode cX9_closure 80 = .ok (.ifCond .eq 7, 3) := by decide +kernel
theorem dX9_closure_83 : decode cX9_closure 83 = .ok (.iconst 1, 1) := by decide +kernel
theorem dX9_closure_84 : decode cX9_closure 84 = .ok (.goto 4, 3) := by decide +kernel
theorem dX9_closure_87 : decode cX9_closure 87 = .ok (.iconst 0, 1) := by decide +kernel
theorem dX9_closure_88 : decode cX9_closure 88 = .ok (.ireturn, 1) := by decide +kernel
theorem dX9_closure_89 : decode cX9_closure 89 = .ok (.aload_n 0, 1) := by decide +kernel
theorem dX9_closure_90 : decode cX9_closure 90 = .ok (.getfield 70, 3) := by decide +kernel
theorem dX9_closure_93 : decode cX9_closure 93 = .ok (.bipush 44, 2) := by decide +kernel
theorem dX9_closure_95 : decode cX9_closure 95 = .ok (.iload_n 1, 1) := by decide +kernel
theorem dX9_closure_96 : decode cX9_closure 96 = .ok (.iadd, 1) := by decide +kernel
theorem dX9_closure_97 : decode cX9_closure 97 = .ok (.iaload, 1) := by decide +kernel
theorem dX9_closure_98 : decode cX9_closure 98 = .ok (.ireturn, 1) := by decide +kernel
theorem dX9_closure_99 : decode cX9_closure 99 = .ok (.aload_n 0, 1) := by decide +kernel
theorem dX9_closure_100 : decode cX9_closure 100 = .ok (.getfield 70, 3) := by decide +kernel
theorem dX9_closure_103 : decode cX9_closure 103 = .ok (.bipush 32, 2) := by decide +kernel
theorem dX9_closure_105 : decode cX9_closure 105 = .ok (.iload_n 1, 1) := by decide +kernel
theorem dX9_closure_106 : decode cX9_closure 106 = .ok (.iadd, 1) := by decide +kernel
theorem dX9_closure_107 : decode cX9_closure 107 = .ok (.iaload, 1) := by decide +kernel
theorem dX9_closure_108 : decode cX9_closure 108 = .ok (.ireturn, 1) := by decide +kernel
theorem dX9_closure_109 : decode cX9_closure 109 = .ok (.aload_n 0, 1) := by decide +kernel
theorem dX9_closure_110 : decode cX9_closure 110 = .ok (.iload_n 1, 1) := by decide +kernel
theorem dX9_closure_111 : decode cX9_closure 111 = .ok (.invokevirtual 340, 3) := by decide +kernel
theorem dX9_closure_114 : decode cX9_closure 114 = .ok (.ireturn, 1) := by decide +kernel
theorem dX9_closure_115 : decode cX9_closure 115 = .ok (.aload_n 0, 1) := by decide +kernel
theorem dX9_closure_116 : decode cX9_closure 116 = .ok (.iload_n 1, 1) := by decide +kernel
theorem dX9_closure_117 : decode cX9_closure 117 = .ok (.invokevirtual 343, 3) := by decide +kernel
theorem dX9_closure_120 : decode cX9_closure 120 = .ok (.ireturn, 1) := by decide +kernel
theorem dX9_closure_121 : decode cX9_closure 121 = .ok (.bipush (-2), 2) := by decide +kernel
theorem dX9_closure_123 : decode cX9_closure 123 = .ok (.ireturn, 1) := by decide +kernel
theorem dX9_term_0 : decode cX9_term 0 = .ok (.aload_n 0, 1) := by decide +kernel
theorem dX9_term_1 : decode cX9_term 1 = .ok (.iconst 0, 1) := by decide +kernel
theorem dX9_term_2 : decode cX9_term 2 = .ok (.putfield 85, 3) := by decide +kernel
theorem dX9_term_5 : decode cX9_term 5 = .ok (.aload_n 0, 1) := by decide +kernel
theorem dX9_term_6 : decode cX9_term 6 = .ok (.iload_n 1, 1) := by decide +kernel
theorem dX9_term_7 : decode cX9_term 7 = .ok (.invokevirtual 337, 3) := by decide +kernel
theorem dX9_term_10 : decode cX9_term 10 = .ok (.ifCond .eq 29, 3) := by decide +kernel
theorem dX9_term_13 : decode cX9_term 13 = .ok (.aload_n 0, 1) := by decide +kernel
theorem dX9_term_14 : decode cX9_term 14 = .ok (.iload_n 2, 1) := by decide +kernel
theorem dX9_term_15 : decode cX9_term 15 = .ok (.invokevirtual 322, 3) := by decide +kernel
theorem dX9_term_18 : decode cX9_term 18 = .ok (.ifCond .eq 21, 3) := by decide +kernel
theorem dX9_term_21 : decode cX9_term 21 = .ok (.aload_n 0, 1) := by decide +kernel
theorem dX9_term_22 : decode cX9_term 22 = .ok (.iload_n 1, 1) := by decide +kernel
theorem dX9_term_23 : decode cX9_term 23 = .ok (.iload_n 2, 1) := by decide +kernel
theorem dX9_term_24 : decode cX9_term 24 = .ok (.invokevirtual 316, 3) := by decide +kernel
theorem dX9_term_27 : decode cX9_term 27 = .ok (.ifCond .eq 12, 3) := by decide +kernel
theorem dX9_term_30 : decode cX9_term 30 = .ok (.aload_n 0, 1) := by decide +kernel
theorem dX9_term_31 : decode cX9_term 31 = .ok (.iload_n 1, 1) := by decide +kernel
theorem dX9_term_32 : decode cX9_term 32 = .ok (.iload_n 2, 1) := by decide +kernel
theorem dX9_term_33 : decode cX9_term 33 = .ok (.invokevirtual 352, 3) := by decide +kernel
theorem dX9_term_36 : decode cX9_term 36 = .ok (.goto 4, 3) := by decide +kernel
theorem dX9_term_39 : decode cX9_term 39 = .ok (.iconst (-1), 1) := by decide +kernel
theorem dX9_term_40 : decode cX9_term 40 = .ok (.ireturn, 1) := by decide +kernel
theorem dX9_ends_0 : decode cX9_ends 0 = .ok (.aload_n 0, 1) := by decide +kernel
theorem dX9_ends_1 : decode cX9_ends 1 = .ok (.iconst 0, 1) := by decide +kernel
theorem dX9_ends_2 : decode cX9_ends 2 = .ok (.putfield 85, 3) := by decide +kernel
theorem dX9_ends_5 : decode cX9_ends 5 = .ok (.aload_n 0, 1) := by decide +kernel
theorem dX9_ends_6 : decode cX9_ends 6 = .ok (.iload_n 1, 1) := by decide +kernel
theorem dX9_ends_7 : decode cX9_ends 7 = .ok (.invokevirtual 337, 3) := by decide +kernel
theorem dX9_ends_10 : decode cX9_ends 10 = .ok (.ifCond .eq 20, 3) := by decide +kernel
theorem dX9_ends_13 : decode cX9_ends 13 = .ok (.aload_n 0, 1) := by decide +kernel
theorem dX9_ends_14 : decode cX9_ends 14 = .ok (.iload_n 2, 1) := by decide +kernel
theorem dX9_ends_15 : decode cX9_ends 15 = .ok (.invokevirtual 322, 3) := by decide +kernel
theorem dX9_ends_18 : decode cX9_ends 18 = .ok (.ifCond .eq 12, 3) := by decide +kernel
theorem dX9_ends_21 : decode cX9_ends 21 = .ok (.aload_n 0, 1) := by decide +kernel
theorem dX9_ends_22 : decode cX9_ends 22 = .ok (.iload_n 1, 1) := by decide +kernel
theorem dX9_ends_23 : decode cX9_ends 23 = .ok (.iload_n 2, 1) := by decide +kernel
theorem dX9_ends_24 : decode cX9_ends 24 = .ok (.invokevirtual 319, 3) := by decide +kernel
theorem dX9_ends_27 : decode cX9_ends 27 = .ok (.goto 4, 3) := by decide +kernel
theorem dX9_ends_30 : decode cX9_ends 30 = .ok (.iconst (-1), 1) := by decide +kernel
theorem dX9_ends_31 : decode cX9_ends 31 = .ok (.ireturn, 1) := by decide +kernel
theorem dX9_laysEnds_0 : decode cX9_laysEnds 0 = .ok (.iconst 0, 1) := by decide +kernel
theorem dX9_laysEnds_1 : decode cX9_laysEnds 1 = .ok (.istore_n 1, 1) := by decide +kernel
theorem dX9_laysEnds_2 : decode cX9_laysEnds 2 = .ok (.iload_n 1, 1) := by decide +kernel
theorem dX9_laysEnds_3 : decode cX9_laysEnds 3 = .ok (.aload_n 0, 1) := by decide +kernel
theorem dX9_laysEnds_4 : decode cX9_laysEnds 4 = .ok (.getfield 23, 3) := by decide +kernel
theorem dX9_laysEnds_7 : decode cX9_laysEnds 7 = .ok (.iconst 0, 1) := by decide +kernel
theorem dX9_laysEnds_8 : decode cX9_laysEnds 8 = .ok (.iaload, 1) := by decide +kernel
theorem dX9_laysEnds_9 : decode cX9_laysEnds 9 = .ok (.if_icmp .ge 44, 3) := by decide +kernel
theorem dX9_laysEnds_12 : decode cX9_laysEnds 12 = .ok (.iconst 0, 1) := by decide +kernel
theorem dX9_laysEnds_13 : decode cX9_laysEnds 13 = .ok (.istore_n 2, 1) := by decide +kernel
theorem dX9_laysEnds_14 : decode cX9_laysEnds 14 = .ok (.iload_n 2, 1) := by decide +kernel
theorem dX9_laysEnds_15 : decode cX9_laysEnds 15 = .ok (.aload_n 0, 1) := by decide +kernel
theorem dX9_laysEnds_16 : decode cX9_laysEnds 16 = .ok (.getfield 20, 3) := by decide +kernel
theorem dX9_laysEnds_19 : decode cX9_laysEnds 19 = .ok (.iconst 0, 1) := by decide +kernel
theorem dX9_laysEnds_20 : decode cX9_laysEnds 20 = .ok (.iaload, 1) := by decide +kernel
theorem dX9_laysEnds_21 : decode cX9_laysEnds 21 = .ok (.if_icmp .ge 26, 3) := by decide +kernel
theorem dX9_laysEnds_24 : decode cX9_laysEnds 24 = .ok (.aload_n 0, 1) := by decide +kernel
theorem dX9_laysEnds_25 : decode cX9_laysEnds 25 = .ok (.getfield 82, 3) := by decide +kernel
theorem dX9_laysEnds_28 : decode cX9_laysEnds 28 = .ok (.bipush 24, 2) := by decide +kernel
theorem dX9_laysEnds_30 : decode cX9_laysEnds 30 = .ok (.iload_n 1, 1) := by decide +kernel
theorem dX9_laysEnds_31 : decode cX9_laysEnds 31 = .ok (.imul, 1) := by decide +kernel
theorem dX9_laysEnds_32 : decode cX9_laysEnds 32 = .ok (.iload_n 2, 1) := by decide +kernel
theorem dX9_laysEnds_33 : decode cX9_laysEnds 33 = .ok (.iadd, 1) := by decide +kernel
theorem dX9_laysEnds_34 : decode cX9_laysEnds 34 = .ok (.aload_n 0, 1) := by decide +kernel
theorem dX9_laysEnds_35 : decode cX9_laysEnds 35 = .ok (.iload_n 1, 1) := by decide +kernel
theorem dX9_laysEnds_36 : decode cX9_laysEnds 36 = .ok (.iload_n 2, 1) := by decide +kernel
theorem dX9_laysEnds_37 : decode cX9_laysEnds 37 = .ok (.invokevirtual 319, 3) := by decide +kernel
theorem dX9_laysEnds_40 : decode cX9_laysEnds 40 = .ok (.iastore, 1) := by decide +kernel
theorem dX9_laysEnds_41 : decode cX9_laysEnds 41 = .ok (.iinc 2 1, 3) := by decide +kernel
theorem dX9_laysEnds_44 : decode cX9_laysEnds 44 = .ok (.goto (-30), 3) := by decide +kernel
theorem dX9_laysEnds_47 : decode cX9_laysEnds 47 = .ok (.iinc 1 1, 3) := by decide +kernel
theorem dX9_laysEnds_50 : decode cX9_laysEnds 50 = .ok (.goto (-48), 3) := by decide +kernel
theorem dX9_laysEnds_53 : decode cX9_laysEnds 53 = .ok (.return_, 1) := by decide +kernel
theorem dX9_opens_0 : decode cX9_opens 0 = .ok (.aload_n 0, 1) := by decide +kernel
theorem dX9_opens_1 : decode cX9_opens 1 = .ok (.iconst 0, 1) := by decide +kernel
theorem dX9_opens_2 : decode cX9_opens 2 = .ok (.putfield 85, 3) := by decide +kernel
theorem dX9_opens_5 : decode cX9_opens 5 = .ok (.aload_n 0, 1) := by decide +kernel
theorem dX9_opens_6 : decode cX9_opens 6 = .ok (.invokevirtual 361, 3) := by decide +kernel
theorem dX9_opens_9 : decode cX9_opens 9 = .ok (.aload_n 0, 1) := by decide +kernel
theorem dX9_opens_10 : decode cX9_opens 10 = .ok (.iload_n 1, 1) := by decide +kernel
theorem dX9_opens_11 : decode cX9_opens 11 = .ok (.invokevirtual 322, 3) := by decide +kernel
theorem dX9_opens_14 : decode cX9_opens 14 = .ok (.ifCond .eq 20, 3) := by decide +kernel
theorem dX9_opens_17 : decode cX9_opens 17 = .ok (.iload_n 2, 1) := by decide +kernel
theorem dX9_opens_18 : decode cX9_opens 18 = .ok (.invokestatic 364, 3) := by decide +kernel
theorem dX9_opens_21 : decode cX9_opens 21 = .ok (.ifCond .eq 13, 3) := by decide +kernel
theorem dX9_opens_24 : decode cX9_opens 24 = .ok (.aload_n 0, 1) := by decide +kernel
theorem dX9_opens_25 : decode cX9_opens 25 = .ok (.iload_n 1, 1) := by decide +kernel
theorem dX9_opens_26 : decode cX9_opens 26 = .ok (.iload_n 2, 1) := by decide +kernel
theorem dX9_opens_27 : decode cX9_opens 27 = .ok (.iconst 0, 1) := by decide +kernel
theorem dX9_opens_28 : decode cX9_opens 28 = .ok (.invokevirtual 367, 3) := by decide +kernel
theorem dX9_opens_31 : decode cX9_opens 31 = .ok (.goto 4, 3) := by decide +kernel
theorem dX9_opens_34 : decode cX9_opens 34 = .ok (.iconst (-1), 1) := by decide +kernel
theorem dX9_opens_35 : decode cX9_opens 35 = .ok (.ireturn, 1) := by decide +kernel
theorem dX9_allOf_0 : decode cX9_allOf 0 = .ok (.aload_n 0, 1) := by decide +kernel
theorem dX9_allOf_1 : decode cX9_allOf 1 = .ok (.iconst 0, 1) := by decide +kernel
theorem dX9_allOf_2 : decode cX9_allOf 2 = .ok (.putfield 85, 3) := by decide +kernel
theorem dX9_allOf_5 : decode cX9_allOf 5 = .ok (.aload_n 0, 1) := by decide +kernel
theorem dX9_allOf_6 : decode cX9_allOf 6 = .ok (.invokevirtual 361, 3) := by decide +kernel
theorem dX9_allOf_9 : decode cX9_allOf 9 = .ok (.aload_n 0, 1) := by decide +kernel
theorem dX9_allOf_10 : decode cX9_allOf 10 = .ok (.iload_n 1, 1) := by decide +kernel
theorem dX9_allOf_11 : decode cX9_allOf 11 = .ok (.invokevirtual 322, 3) := by decide +kernel
theorem dX9_allOf_14 : decode cX9_allOf 14 = .ok (.ifCond .eq 10, 3) := by decide +kernel
theorem dX9_allOf_17 : decode cX9_allOf 17 = .ok (.iload_n 2, 1) := by decide +kernel
theorem dX9_allOf_18 : decode cX9_allOf 18 = .ok (.invokestatic 364, 3) := by decide +kernel
theorem dX9_allOf_21 : decode cX9_allOf 21 = .ok (.ifCond .ne 5, 3) := by decide +kernel
theorem dX9_allOf_24 : decode cX9_allOf 24 = .ok (.iconst (-1), 1) := by decide +kernel
theorem dX9_allOf_25 : decode cX9_allOf 25 = .ok (.ireturn, 1) := by decide +kernel
theorem dX9_allOf_26 : decode cX9_allOf 26 = .ok (.iconst 0, 1) := by decide +kernel
theorem dX9_allOf_27 : decode cX9_allOf 27 = .ok (.istore_n 3, 1) := by decide +kernel
theorem dX9_allOf_28 : decode cX9_allOf 28 = .ok (.iconst 0, 1) := by decide +kernel
theorem dX9_allOf_29 : decode cX9_allOf 29 = .ok (.istore 4, 2) := by decide +kernel
theorem dX9_allOf_31 : decode cX9_allOf 31 = .ok (.iload 4, 2) := by decide +kernel
theorem dX9_allOf_33 : decode cX9_allOf 33 = .ok (.aload_n 0, 1) := by decide +kernel
theorem dX9_allOf_34 : decode cX9_allOf 34 = .ok (.getfield 20, 3) := by decide +kernel
theorem dX9_allOf_37 : decode cX9_allOf 37 = .ok (.iconst 0, 1) := by decide +kernel
theorem dX9_allOf_38 : decode cX9_allOf 38 = .ok (.iaload, 1) := by decide +kernel
theorem dX9_allOf_39 : decode cX9_allOf 39 = .ok (.if_icmp .ge 45, 3) := by decide +kernel
theorem dX9_allOf_42 : decode cX9_allOf 42 = .ok (.aload_n 0, 1) := by decide +kernel
theorem dX9_allOf_43 : decode cX9_allOf 43 = .ok (.iload 4, 2) := by decide +kernel
theorem dX9_allOf_45 : decode cX9_allOf 45 = .ok (.iload_n 1, 1) := by decide +kernel
theorem dX9_allOf_46 : decode cX9_allOf 46 = .ok (.invokevirtual 313, 3) := by decide +kernel
theorem dX9_allOf_49 : decode cX9_allOf 49 = .ok (.ifCond .ne 6, 3) := by decide +kernel
theorem dX9_allOf_52 : decode cX9_allOf 52 = .ok (.goto 26, 3) := by decide +kernel
theorem dX9_allOf_55 : decode cX9_allOf 55 = .ok (.aload_n 0, 1) := by decide +kernel
theorem dX9_allOf_56 : decode cX9_allOf 56 = .ok (.iload 4, 2) := by decide +kernel
theorem dX9_allOf_58 : decode cX9_allOf 58 = .ok (.iload_n 2, 1) := by decide +kernel
theorem dX9_allOf_59 : decode cX9_allOf 59 = .ok (.iconst 0, 1) := by decide +kernel
theorem dX9_allOf_60 : decode cX9_allOf 60 = .ok (.invokevirtual 367, 3) := by decide +kernel
theorem dX9_allOf_63 : decode cX9_allOf 63 = .ok (.istore 5, 2) := by decide +kernel
theorem dX9_allOf_65 : decode cX9_allOf 65 = .ok (.iload 5, 2) := by decide +kernel
theorem dX9_allOf_67 : decode cX9_allOf 67 = .ok (.iload_n 3, 1) := by decide +kernel
theorem dX9_allOf_68 : decode cX9_allOf 68 = .ok (.if_icmp .le 8, 3) := by decide +kernel
theorem dX9_allOf_71 : decode cX9_allOf 71 = .ok (.iload 5, 2) := by decide +kernel
theorem dX9_allOf_73 : decode cX9_allOf 73 = .ok (.goto 4, 3) := by decide +kernel
theorem dX9_allOf_76 : decode cX9_allOf 76 = .ok (.iload_n 3, 1) := by decide +kernel
theorem dX9_allOf_77 : decode cX9_allOf 77 = .ok (.istore_n 3, 1) := by decide +kernel
theorem dX9_allOf_78 : decode cX9_allOf 78 = .ok (.iinc 4 1, 3) := by decide +kernel
theorem dX9_allOf_81 : decode cX9_allOf 81 = .ok (.goto (-50), 3) := by decide +kernel
theorem dX9_allOf_84 : decode cX9_allOf 84 = .ok (.iload_n 3, 1) := by decide +kernel
theorem dX9_allOf_85 : decode cX9_allOf 85 = .ok (.ireturn, 1) := by decide +kernel
theorem dX9_reason_0 : decode cX9_reason 0 = .ok (.aload_n 0, 1) := by decide +kernel
theorem dX9_reason_1 : decode cX9_reason 1 = .ok (.iconst 0, 1) := by decide +kernel
theorem dX9_reason_2 : decode cX9_reason 2 = .ok (.putfield 85, 3) := by decide +kernel
theorem dX9_reason_5 : decode cX9_reason 5 = .ok (.aload_n 0, 1) := by decide +kernel
theorem dX9_reason_6 : decode cX9_reason 6 = .ok (.invokevirtual 361, 3) := by decide +kernel
theorem dX9_reason_9 : decode cX9_reason 9 = .ok (.aload_n 0, 1) := by decide +kernel
theorem dX9_reason_10 : decode cX9_reason 10 = .ok (.iload_n 1, 1) := by decide +kernel
theorem dX9_reason_11 : decode cX9_reason 11 = .ok (.invokevirtual 322, 3) := by decide +kernel
theorem dX9_reason_14 : decode cX9_reason 14 = .ok (.ifCond .eq 10, 3) := by decide +kernel
theorem dX9_reason_17 : decode cX9_reason 17 = .ok (.iload_n 2, 1) := by decide +kernel
theorem dX9_reason_18 : decode cX9_reason 18 = .ok (.invokestatic 364, 3) := by decide +kernel
theorem dX9_reason_21 : decode cX9_reason 21 = .ok (.ifCond .ne 5, 3) := by decide +kernel
theorem dX9_reason_24 : decode cX9_reason 24 = .ok (.iconst (-1), 1) := by decide +kernel
theorem dX9_reason_25 : decode cX9_reason 25 = .ok (.ireturn, 1) := by decide +kernel
theorem dX9_reason_26 : decode cX9_reason 26 = .ok (.aload_n 0, 1) := by decide +kernel
theorem dX9_reason_27 : decode cX9_reason 27 = .ok (.iload_n 1, 1) := by decide +kernel
theorem dX9_reason_28 : decode cX9_reason 28 = .ok (.iload_n 2, 1) := by decide +kernel
theorem dX9_reason_29 : decode cX9_reason 29 = .ok (.iconst 0, 1) := by decide +kernel
theorem dX9_reason_30 : decode cX9_reason 30 = .ok (.invokevirtual 367, 3) := by decide +kernel
theorem dX9_reason_33 : decode cX9_reason 33 = .ok (.istore_n 3, 1) := by decide +kernel
theorem dX9_reason_34 : decode cX9_reason 34 = .ok (.iconst 0, 1) := by decide +kernel
theorem dX9_reason_35 : decode cX9_reason 35 = .ok (.istore 4, 2) := by decide +kernel
theorem dX9_reason_37 : decode cX9_reason 37 = .ok (.iload 4, 2) := by decide +kernel
theorem dX9_reason_39 : decode cX9_reason 39 = .ok (.aload_n 0, 1) := by decide +kernel
theorem dX9_reason_40 : decode cX9_reason 40 = .ok (.getfield 23, 3) := by decide +kernel
theorem dX9_reason_43 : decode cX9_reason 43 = .ok (.iconst 0, 1) := by decide +kernel
theorem dX9_reason_44 : decode cX9_reason 44 = .ok (.iaload, 1) := by decide +kernel
theorem dX9_reason_45 : decode cX9_reason 45 = .ok (.if_icmp .ge 38, 3) := by decide +kernel
theorem dX9_reason_48 : decode cX9_reason 48 = .ok (.iload_n 3, 1) := by decide +kernel
theorem dX9_reason_49 : decode cX9_reason 49 = .ok (.ifCond .le 34, 3) := by decide +kernel
theorem dX9_reason_52 : decode cX9_reason 52 = .ok (.aload_n 0, 1) := by decide +kernel
theorem dX9_reason_53 : decode cX9_reason 53 = .ok (.iload 4, 2) := by decide +kernel
theorem dX9_reason_55 : decode cX9_reason 55 = .ok (.iload_n 2, 1) := by decide +kernel
theorem dX9_reason_56 : decode cX9_reason 56 = .ok (.iconst 0, 1) := by decide +kernel
theorem dX9_reason_57 : decode cX9_reason 57 = .ok (.invokevirtual 355, 3) := by decide +kernel
theorem dX9_reason_60 : decode cX9_reason 60 = .ok (.ifCond .eq 17, 3) := by decide +kernel
theorem dX9_reason_63 : decode cX9_reason 63 = .ok (.aload_n 0, 1) := by decide +kernel
theorem dX9_reason_64 : decode cX9_reason 64 = .ok (.iload 4, 2) := by decide +kernel
theorem dX9_reason_66 : decode cX9_reason 66 = .ok (.iload_n 1, 1) := by decide +kernel
theorem dX9_reason_67 : decode cX9_reason 67 = .ok (.invokevirtual 319, 3) := by decide +kernel
theorem dX9_reason_70 : decode cX9_reason 70 = .ok (.iload_n 3, 1) := by decide +kernel
theorem dX9_reason_71 : decode cX9_reason 71 = .ok (.if_icmp .ne 6, 3) := by decide +kernel
theorem dX9_reason_74 : decode cX9_reason 74 = .ok (.iload 4, 2) := by decide +kernel
theorem dX9_reason_76 : decode cX9_reason 76 = .ok (.ireturn, 1) := by decide +kernel
theorem dX9_reason_77 : decode cX9_reason 77 = .ok (.iinc 4 1, 3) := by decide +kernel
theorem dX9_reason_80 : decode cX9_reason 80 = .ok (.goto (-43), 3) := by decide +kernel
theorem dX9_reason_83 : decode cX9_reason 83 = .ok (.iconst (-1), 1) := by decide +kernel
theorem dX9_reason_84 : decode cX9_reason 84 = .ok (.ireturn, 1) := by decide +kernel
theorem dX9_closedBy_0 : decode cX9_closedBy 0 = .ok (.aload_n 0, 1) := by decide +kernel
theorem dX9_closedBy_1 : decode cX9_closedBy 1 = .ok (.iconst 0, 1) := by decide +kernel
theorem dX9_closedBy_2 : decode cX9_closedBy 2 = .ok (.putfield 85, 3) := by decide +kernel
theorem dX9_closedBy_5 : decode cX9_closedBy 5 = .ok (.aload_n 0, 1) := by decide +kernel
theorem dX9_closedBy_6 : decode cX9_closedBy 6 = .ok (.iload_n 1, 1) := by decide +kernel
theorem dX9_closedBy_7 : decode cX9_closedBy 7 = .ok (.invokevirtual 322, 3) := by decide +kernel
theorem dX9_closedBy_10 : decode cX9_closedBy 10 = .ok (.ifCond .eq 15, 3) := by decide +kernel
theorem dX9_closedBy_13 : decode cX9_closedBy 13 = .ok (.iload_n 2, 1) := by decide +kernel
theorem dX9_closedBy_14 : decode cX9_closedBy 14 = .ok (.i2l, 1) := by decide +kernel
theorem dX9_closedBy_15 : decode cX9_closedBy 15 = .ok (.lconst 0, 1) := by decide +kernel
theorem dX9_closedBy_16 : decode cX9_closedBy 16 = .ok (.ldc2_w 133, 3) := by decide +kernel
theorem dX9_closedBy_19 : decode cX9_closedBy 19 = .ok (.invokestatic 123, 3) := by decide +kernel
theorem dX9_closedBy_22 : decode cX9_closedBy 22 = .ok (.ifCond .ne 5, 3) := by decide +kernel
theorem dX9_closedBy_25 : decode cX9_closedBy 25 = .ok (.iconst (-1), 1) := by decide +kernel
theorem dX9_closedBy_26 : decode cX9_closedBy 26 = .ok (.ireturn, 1) := by decide +kernel
theorem dX9_closedBy_27 : decode cX9_closedBy 27 = .ok (.iconst 0, 1) := by decide +kernel
theorem dX9_closedBy_28 : decode cX9_closedBy 28 = .ok (.istore_n 3, 1) := by decide +kernel
theorem dX9_closedBy_29 : decode cX9_closedBy 29 = .ok (.iconst 0, 1) := by decide +kernel
theorem dX9_closedBy_30 : decode cX9_closedBy 30 = .ok (.istore 4, 2) := by decide +kernel
theorem dX9_closedBy_32 : decode cX9_closedBy 32 = .ok (.iload 4, 2) := by decide +kernel
theorem dX9_closedBy_34 : decode cX9_closedBy 34 = .ok (.aload_n 0, 1) := by decide +kernel
theorem dX9_closedBy_35 : decode cX9_closedBy 35 = .ok (.getfield 23, 3) := by decide +kernel
theorem dX9_closedBy_38 : decode cX9_closedBy 38 = .ok (.iconst 0, 1) := by decide +kernel
theorem dX9_closedBy_39 : decode cX9_closedBy 39 = .ok (.iaload, 1) := by decide +kernel
theorem dX9_closedBy_40 : decode cX9_closedBy 40 = .ok (.if_icmp .ge 31, 3) := by decide +kernel
theorem dX9_closedBy_43 : decode cX9_closedBy 43 = .ok (.iload_n 3, 1) := by decide +kernel
theorem dX9_closedBy_44 : decode cX9_closedBy 44 = .ok (.aload_n 0, 1) := by decide +kernel
theorem dX9_closedBy_45 : decode cX9_closedBy 45 = .ok (.iload 4, 2) := by decide +kernel
theorem dX9_closedBy_47 : decode cX9_closedBy 47 = .ok (.iload_n 1, 1) := by decide +kernel
theorem dX9_closedBy_48 : decode cX9_closedBy 48 = .ok (.invokevirtual 319, 3) := by decide +kernel
theorem dX9_closedBy_51 : decode cX9_closedBy 51 = .ok (.iload_n 2, 1) := by decide +kernel
theorem dX9_closedBy_52 : decode cX9_closedBy 52 = .ok (.if_icmp .le 10, 3) := by decide +kernel
theorem dX9_closedBy_55 : decode cX9_closedBy 55 = .ok (.iconst 1, 1) := by decide +kernel
theorem dX9_closedBy_56 : decode cX9_closedBy 56 = .ok (.iload 4, 2) := by decide +kernel
theorem dX9_closedBy_58 : decode cX9_closedBy 58 = .ok (.ishl, 1) := by decide +kernel
theorem dX9_closedBy_59 : decode cX9_closedBy 59 = .ok (.goto 4, 3) := by decide +kernel
theorem dX9_closedBy_62 : decode cX9_closedBy 62 = .ok (.iconst 0, 1) := by decide +kernel
theorem dX9_closedBy_63 : decode cX9_closedBy 63 = .ok (.ior, 1) := by decide +kernel
theorem dX9_closedBy_64 : decode cX9_closedBy 64 = .ok (.istore_n 3, 1) := by decide +kernel
theorem dX9_closedBy_65 : decode cX9_closedBy 65 = .ok (.iinc 4 1, 3) := by decide +kernel
theorem dX9_closedBy_68 : decode cX9_closedBy 68 = .ok (.goto (-36), 3) := by decide +kernel
theorem dX9_closedBy_71 : decode cX9_closedBy 71 = .ok (.iload_n 3, 1) := by decide +kernel
theorem dX9_closedBy_72 : decode cX9_closedBy 72 = .ok (.ireturn, 1) := by decide +kernel
theorem dX9_mustGo_0 : decode cX9_mustGo 0 = .ok (.aload_n 0, 1) := by decide +kernel
theorem dX9_mustGo_1 : decode cX9_mustGo 1 = .ok (.iconst 0, 1) := by decide +kernel
theorem dX9_mustGo_2 : decode cX9_mustGo 2 = .ok (.putfield 85, 3) := by decide +kernel
theorem dX9_mustGo_5 : decode cX9_mustGo 5 = .ok (.aload_n 0, 1) := by decide +kernel
theorem dX9_mustGo_6 : decode cX9_mustGo 6 = .ok (.iload_n 1, 1) := by decide +kernel
theorem dX9_mustGo_7 : decode cX9_mustGo 7 = .ok (.invokevirtual 322, 3) := by decide +kernel
theorem dX9_mustGo_10 : decode cX9_mustGo 10 = .ok (.ifCond .eq 11, 3) := by decide +kernel
theorem dX9_mustGo_13 : decode cX9_mustGo 13 = .ok (.iload_n 2, 1) := by decide +kernel
theorem dX9_mustGo_14 : decode cX9_mustGo 14 = .ok (.iload_n 3, 1) := by decide +kernel
theorem dX9_mustGo_15 : decode cX9_mustGo 15 = .ok (.invokestatic 370, 3) := by decide +kernel
theorem dX9_mustGo_18 : decode cX9_mustGo 18 = .ok (.ifCond .ne 5, 3) := by decide +kernel
theorem dX9_mustGo_21 : decode cX9_mustGo 21 = .ok (.iconst (-1), 1) := by decide +kernel
theorem dX9_mustGo_22 : decode cX9_mustGo 22 = .ok (.ireturn, 1) := by decide +kernel
theorem dX9_mustGo_23 : decode cX9_mustGo 23 = .ok (.iconst 0, 1) := by decide +kernel
theorem dX9_mustGo_24 : decode cX9_mustGo 24 = .ok (.istore 4, 2) := by decide +kernel
theorem dX9_mustGo_26 : decode cX9_mustGo 26 = .ok (.iconst 0, 1) := by decide +kernel
theorem dX9_mustGo_27 : decode cX9_mustGo 27 = .ok (.istore 5, 2) := by decide +kernel
theorem dX9_mustGo_29 : decode cX9_mustGo 29 = .ok (.iload 5, 2) := by decide +kernel
theorem dX9_mustGo_31 : decode cX9_mustGo 31 = .ok (.aload_n 0, 1) := by decide +kernel
theorem dX9_mustGo_32 : decode cX9_mustGo 32 = .ok (.getfield 20, 3) := by decide +kernel
theorem dX9_mustGo_35 : decode cX9_mustGo 35 = .ok (.iconst 0, 1) := by decide +kernel
theorem dX9_mustGo_36 : decode cX9_mustGo 36 = .ok (.iaload, 1) := by decide +kernel
theorem dX9_mustGo_37 : decode cX9_mustGo 37 = .ok (.if_icmp .ge 78, 3) := by decide +kernel
theorem dX9_mustGo_40 : decode cX9_mustGo 40 = .ok (.aload_n 0, 1) := by decide +kernel
theorem dX9_mustGo_41 : decode cX9_mustGo 41 = .ok (.iload 5, 2) := by decide +kernel
theorem dX9_mustGo_43 : decode cX9_mustGo 43 = .ok (.iload_n 1, 1) := by decide +kernel
theorem dX9_mustGo_44 : decode cX9_mustGo 44 = .ok (.invokevirtual 313, 3) := by decide +kernel
theorem dX9_mustGo_47 : decode cX9_mustGo 47 = .ok (.ifCond .ne 6, 3) := by decide +kernel
theorem dX9_mustGo_50 : decode cX9_mustGo 50 = .ok (.goto 59, 3) := by decide +kernel
theorem dX9_mustGo_53 : decode cX9_mustGo 53 = .ok (.iconst 0, 1) := by decide +kernel
theorem dX9_mustGo_54 : decode cX9_mustGo 54 = .ok (.istore 6, 2) := by decide +kernel
theorem dX9_mustGo_56 : decode cX9_mustGo 56 = .ok (.iload 6, 2) := by decide +kernel
theorem dX9_mustGo_58 : decode cX9_mustGo 58 = .ok (.aload_n 0, 1) := by decide +kernel
theorem dX9_mustGo_59 : decode cX9_mustGo 59 = .ok (.getfield 23, 3) := by decide +kernel
theorem dX9_mustGo_62 : decode cX9_mustGo 62 = .ok (.iconst 0, 1) := by decide +kernel
theorem dX9_mustGo_63 : decode cX9_mustGo 63 = .ok (.iaload, 1) := by decide +kernel
theorem dX9_mustGo_64 : decode cX9_mustGo 64 = .ok (.if_icmp .ge 45, 3) := by decide +kernel
theorem dX9_mustGo_67 : decode cX9_mustGo 67 = .ok (.iload 4, 2) := by decide +kernel
theorem dX9_mustGo_69 : decode cX9_mustGo 69 = .ok (.aload_n 0, 1) := by decide +kernel
theorem dX9_mustGo_70 : decode cX9_mustGo 70 = .ok (.iload 6, 2) := by decide +kernel
theorem dX9_mustGo_72 : decode cX9_mustGo 72 = .ok (.iload_n 3, 1) := by decide +kernel
theorem dX9_mustGo_73 : decode cX9_mustGo 73 = .ok (.iconst 0, 1) := by decide +kernel
theorem dX9_mustGo_74 : decode cX9_mustGo 74 = .ok (.invokevirtual 355, 3) := by decide +kernel
theorem dX9_mustGo_77 : decode cX9_mustGo 77 = .ok (.ifCond .eq 22, 3) := by decide +kernel
theorem dX9_mustGo_80 : decode cX9_mustGo 80 = .ok (.aload_n 0, 1) := by decide +kernel
theorem dX9_mustGo_81 : decode cX9_mustGo 81 = .ok (.iload 6, 2) := by decide +kernel
theorem dX9_mustGo_83 : decode cX9_mustGo 83 = .ok (.iload 5, 2) := by decide +kernel
theorem dX9_mustGo_85 : decode cX9_mustGo 85 = .ok (.invokevirtual 319, 3) := by decide +kernel
theorem dX9_mustGo_88 : decode cX9_mustGo 88 = .ok (.iload_n 2, 1) := by decide +kernel
theorem dX9_mustGo_89 : decode cX9_mustGo 89 = .ok (.if_icmp .le 10, 3) := by decide +kernel
theorem dX9_mustGo_92 : decode cX9_mustGo 92 = .ok (.iconst 1, 1) := by decide +kernel
theorem dX9_mustGo_93 : decode cX9_mustGo 93 = .ok (.iload 6, 2) := by decide +kernel
theorem dX9_mustGo_95 : decode cX9_mustGo 95 = .ok (.ishl, 1) := by decide +kernel
theorem dX9_mustGo_96 : decode cX9_mustGo 96 = .ok (.goto 4, 3) := by decide +kernel
theorem dX9_mustGo_99 : decode cX9_mustGo 99 = .ok (.iconst 0, 1) := by decide +kernel
theorem dX9_mustGo_100 : decode cX9_mustGo 100 = .ok (.ior, 1) := by decide +kernel
theorem dX9_mustGo_101 : decode cX9_mustGo 101 = .ok (.istore 4, 2) := by decide +kernel
theorem dX9_mustGo_103 : decode cX9_mustGo 103 = .ok (.iinc 6 1, 3) := by decide +kernel
theorem dX9_mustGo_106 : decode cX9_mustGo 106 = .ok (.goto (-50), 3) := by decide +kernel
theorem dX9_mustGo_109 : decode cX9_mustGo 109 = .ok (.iinc 5 1, 3) := by decide +kernel
theorem dX9_mustGo_112 : decode cX9_mustGo 112 = .ok (.goto (-83), 3) := by decide +kernel
theorem dX9_mustGo_115 : decode cX9_mustGo 115 = .ok (.iload 4, 2) := by decide +kernel
theorem dX9_mustGo_117 : decode cX9_mustGo 117 = .ok (.ireturn, 1) := by decide +kernel
theorem dX9_review_0 : decode cX9_review 0 = .ok (.aload_n 0, 1) := by decide +kernel
theorem dX9_review_1 : decode cX9_review 1 = .ok (.iconst 0, 1) := by decide +kernel
theorem dX9_review_2 : decode cX9_review 2 = .ok (.putfield 85, 3) := by decide +kernel
theorem dX9_review_5 : decode cX9_review 5 = .ok (.aload_n 0, 1) := by decide +kernel
theorem dX9_review_6 : decode cX9_review 6 = .ok (.iload_n 1, 1) := by decide +kernel
theorem dX9_review_7 : decode cX9_review 7 = .ok (.invokevirtual 337, 3) := by decide +kernel
theorem dX9_review_10 : decode cX9_review 10 = .ok (.ifCond .eq 42, 3) := by decide +kernel
theorem dX9_review_13 : decode cX9_review 13 = .ok (.iload_n 2, 1) := by decide +kernel
theorem dX9_review_14 : decode cX9_review 14 = .ok (.i2l, 1) := by decide +kernel
theorem dX9_review_15 : decode cX9_review 15 = .ok (.lconst 0, 1) := by decide +kernel
theorem dX9_review_16 : decode cX9_review 16 = .ok (.ldc2_w 129, 3) := by decide +kernel
theorem dX9_review_19 : decode cX9_review 19 = .ok (.invokestatic 123, 3) := by decide +kernel
theorem dX9_review_22 : decode cX9_review 22 = .ok (.ifCond .eq 30, 3) := by decide +kernel
theorem dX9_review_25 : decode cX9_review 25 = .ok (.iload_n 3, 1) := by decide +kernel
theorem dX9_review_26 : decode cX9_review 26 = .ok (.i2l, 1) := by decide +kernel
theorem dX9_review_27 : decode cX9_review 27 = .ok (.ldc2_w 384, 3) := by decide +kernel
theorem dX9_review_30 : decode cX9_review 30 = .ok (.ldc2_w 386, 3) := by decide +kernel
theorem dX9_review_33 : decode cX9_review 33 = .ok (.invokestatic 123, 3) := by decide +kernel
theorem dX9_review_36 : decode cX9_review 36 = .ok (.ifCond .eq 16, 3) := by decide +kernel
theorem dX9_review_39 : decode cX9_review 39 = .ok (.aload_n 0, 1) := by decide +kernel
theorem dX9_review_40 : decode cX9_review 40 = .ok (.getfield 70, 3) := by decide +kernel
theorem dX9_review_43 : decode cX9_review 43 = .ok (.bipush 44, 2) := by decide +kernel
theorem dX9_review_45 : decode cX9_review 45 = .ok (.iload_n 1, 1) := by decide +kernel
theorem dX9_review_46 : decode cX9_review 46 = .ok (.iadd, 1) := by decide +kernel
theorem dX9_review_47 : decode cX9_review 47 = .ok (.iaload, 1) := by decide +kernel
theorem dX9_review_48 : decode cX9_review 48 = .ok (.iconst 5, 1) := by decide +kernel
theorem dX9_review_49 : decode cX9_review 49 = .ok (.if_icmp .ne 5, 3) := by decide +kernel
theorem dX9_review_52 : decode cX9_review 52 = .ok (.iconst (-1), 1) := by decide +kernel
theorem dX9_review_53 : decode cX9_review 53 = .ok (.ireturn, 1) := by decide +kernel
theorem dX9_review_54 : decode cX9_review 54 = .ok (.aload_n 0, 1) := by decide +kernel
theorem dX9_review_55 : decode cX9_review 55 = .ok (.invokevirtual 388, 3) := by decide +kernel
theorem dX9_review_58 : decode cX9_review 58 = .ok (.aload_n 0, 1) := by decide +kernel
theorem dX9_review_59 : decode cX9_review 59 = .ok (.getfield 70, 3) := by decide +kernel
theorem dX9_review_62 : decode cX9_review 62 = .ok (.bipush 44, 2) := by decide +kernel
theorem dX9_review_64 : decode cX9_review 64 = .ok (.iload_n 1, 1) := by decide +kernel
theorem dX9_review_65 : decode cX9_review 65 = .ok (.iadd, 1) := by decide +kernel
theorem dX9_review_66 : decode cX9_review 66 = .ok (.iaload, 1) := by decide +kernel
theorem dX9_review_67 : decode cX9_review 67 = .ok (.istore 4, 2) := by decide +kernel
theorem dX9_review_69 : decode cX9_review 69 = .ok (.bipush 56, 2) := by decide +kernel
theorem dX9_review_71 : decode cX9_review 71 = .ok (.bipush 10, 2) := by decide +kernel
theorem dX9_review_73 : decode cX9_review 73 = .ok (.iload_n 1, 1) := by decide +kernel
theorem dX9_review_74 : decode cX9_review 74 = .ok (.imul, 1) := by decide +kernel
theorem dX9_review_75 : decode cX9_review 75 = .ok (.iadd, 1) := by decide +kernel
theorem dX9_review_76 : decode cX9_review 76 = .ok (.istore 5, 2) := by decide +kernel
theorem dX9_review_78 : decode cX9_review 78 = .ok (.iload 4, 2) := by decide +kernel
theorem dX9_review_80 : decode cX9_review 80 = .ok (.ifCond .le 81, 3) := by decide +kernel
theorem dX9_review_83 : decode cX9_review 83 = .ok (.aload_n 0, 1) := by decide +kernel
theorem dX9_review_84 : decode cX9_review 84 = .ok (.getfield 70, 3) := by decide +kernel
theorem dX9_review_87 : decode cX9_review 87 = .ok (.iload 5, 2) := by decide +kernel
theorem dX9_review_89 : decode cX9_review 89 = .ok (.iconst 2, 1) := by decide +kernel
theorem dX9_review_90 : decode cX9_review 90 = .ok (.iload 4, 2) := by decide +kernel
theorem dX9_review_92 : decode cX9_review 92 = .ok (.imul, 1) := by decide +kernel
theorem dX9_review_93 : decode cX9_review 93 = .ok (.iadd, 1) := by decide +kernel
theorem dX9_review_94 : decode cX9_review 94 = .ok (.iconst 2, 1) := by decide +kernel
theorem dX9_review_95 : decode cX9_review 95 = .ok (.isub, 1) := by decide +kernel
theorem dX9_review_96 : decode cX9_review 96 = .ok (.iaload, 1) := by decide +kernel
theorem dX9_review_97 : decode cX9_review 97 = .ok (.iload_n 2, 1) := by decide +kernel
theorem dX9_review_98 : decode cX9_review 98 = .ok (.if_icmp .le 63, 3) := by decide +kernel
theorem dX9_review_101 : decode cX9_review 101 = .ok (.aload_n 0, 1) := by decide +kernel
theorem dX9_review_102 : decode cX9_review 102 = .ok (.getfield 70, 3) := by decide +kernel
theorem dX9_review_105 : decode cX9_review 105 = .ok (.iload 5, 2) := by decide +kernel
theorem dX9_review_107 : decode cX9_review 107 = .ok (.iconst 2, 1) := by decide +kernel
theorem dX9_review_108 : decode cX9_review 108 = .ok (.iload 4, 2) := by decide +kernel
theorem dX9_review_110 : decode cX9_review 110 = .ok (.imul, 1) := by decide +kernel
theorem dX9_review_111 : decode cX9_review 111 = .ok (.iadd, 1) := by decide +kernel
theorem dX9_review_112 : decode cX9_review 112 = .ok (.aload_n 0, 1) := by decide +kernel
theorem dX9_review_113 : decode cX9_review 113 = .ok (.getfield 70, 3) := by decide +kernel
theorem dX9_review_116 : decode cX9_review 116 = .ok (.iload 5, 2) := by decide +kernel
theorem dX9_review_118 : decode cX9_review 118 = .ok (.iconst 2, 1) := by decide +kernel
theorem dX9_review_119 : decode cX9_review 119 = .ok (.iload 4, 2) := by decide +kernel
theorem dX9_review_121 : decode cX9_review 121 = .ok (.imul, 1) := by decide +kernel
theorem dX9_review_122 : decode cX9_review 122 = .ok (.iadd, 1) := by decide +kernel
theorem dX9_review_123 : decode cX9_review 123 = .ok (.iconst 2, 1) := by decide +kernel
theorem dX9_review_124 : decode cX9_review 124 = .ok (.isub, 1) := by decide +kernel
theorem dX9_review_125 : decode cX9_review 125 = .ok (.iaload, 1) := by decide +kernel
theorem dX9_review_126 : decode cX9_review 126 = .ok (.iastore, 1) := by decide +kernel
theorem dX9_review_127 : decode cX9_review 127 = .ok (.aload_n 0, 1) := by decide +kernel
theorem dX9_review_128 : decode cX9_review 128 = .ok (.getfield 70, 3) := by decide +kernel
theorem dX9_review_131 : decode cX9_review 131 = .ok (.iload 5, 2) := by decide +kernel
theorem dX9_review_133 : decode cX9_review 133 = .ok (.iconst 2, 1) := by decide +kernel
theorem dX9_review_134 : decode cX9_review 134 = .ok (.iload 4, 2) := by decide +kernel
theorem dX9_review_136 : decode cX9_review 136 = .ok (.imul, 1) := by decide +kernel
theorem dX9_review_137 : decode cX9_review 137 = .ok (.iadd, 1) := by decide +kernel
theorem dX9_review_138 : decode cX9_review 138 = .ok (.iconst 1, 1) := by decide +kernel
theorem dX9_review_139 : decode cX9_review 139 = .ok (.iadd, 1) := by decide +kernel
theorem dX9_review_140 : decode cX9_review 140 = .ok (.aload_n 0, 1) := by decide +kernel
theorem dX9_review_141 : decode cX9_review 141 = .ok (.getfield 70, 3) := by decide +kernel
theorem dX9_review_144 : decode cX9_review 144 = .ok (.iload 5, 2) := by decide +kernel
theorem dX9_review_146 : decode cX9_review 146 = .ok (.iconst 2, 1) := by decide +kernel
theorem dX9_review_147 : decode cX9_review 147 = .ok (.iload 4, 2) := by decide +kernel
theorem dX9_review_149 : decode cX9_review 149 = .ok (.imul, 1) := by decide +kernel
theorem dX9_review_150 : decode cX9_review 150 = .ok (.iadd, 1) := by decide +kernel
theorem dX9_review_151 : decode cX9_review 151 = .ok (.iconst 1, 1) := by decide +kernel
theorem dX9_review_152 : decode cX9_review 152 = .ok (.isub, 1) := by decide +kernel
theorem dX9_review_153 : decode cX9_review 153 = .ok (.iaload, 1) := by decide +kernel
theorem dX9_review_154 : decode cX9_review 154 = .ok (.iastore, 1) := by decide +kernel
theorem dX9_review_155 : decode cX9_review 155 = .ok (.iinc 4 (-1), 3) := by decide +kernel
theorem dX9_review_158 : decode cX9_review 158 = .ok (.goto (-80), 3) := by decide +kernel
theorem dX9_review_161 : decode cX9_review 161 = .ok (.aload_n 0, 1) := by decide +kernel
theorem dX9_review_162 : decode cX9_review 162 = .ok (.getfield 70, 3) := by decide +kernel
theorem dX9_review_165 : decode cX9_review 165 = .ok (.iload 5, 2) := by decide +kernel
theorem dX9_review_167 : decode cX9_review 167 = .ok (.iconst 2, 1) := by decide +kernel
theorem dX9_review_168 : decode cX9_review 168 = .ok (.iload 4, 2) := by decide +kernel
theorem dX9_review_170 : decode cX9_review 170 = .ok (.imul, 1) := by decide +kernel
theorem dX9_review_171 : decode cX9_review 171 = .ok (.iadd, 1) := by decide +kernel
theorem dX9_review_172 : decode cX9_review 172 = .ok (.iload_n 2, 1) := by decide +kernel
theorem dX9_review_173 : decode cX9_review 173 = .ok (.iastore, 1) := by decide +kernel
theorem dX9_review_174 : decode cX9_review 174 = .ok (.aload_n 0, 1) := by decide +kernel
theorem dX9_review_175 : decode cX9_review 175 = .ok (.getfield 70, 3) := by decide +kernel
theorem dX9_review_178 : decode cX9_review 178 = .ok (.iload 5, 2) := by decide +kernel
theorem dX9_review_180 : decode cX9_review 180 = .ok (.iconst 2, 1) := by decide +kernel
theorem dX9_review_181 : decode cX9_review 181 = .ok (.iload 4, 2) := by decide +kernel
theorem dX9_review_183 : decode cX9_review 183 = .ok (.imul, 1) := by decide +kernel
theorem dX9_review_184 : decode cX9_review 184 = .ok (.iadd, 1) := by decide +kernel
theorem dX9_review_185 : decode cX9_review 185 = .ok (.iconst 1, 1) := by decide +kernel
theorem dX9_review_186 : decode cX9_review 186 = .ok (.iadd, 1) := by decide +kernel
theorem dX9_review_187 : decode cX9_review 187 = .ok (.iload_n 3, 1) := by decide +kernel
theorem dX9_review_188 : decode cX9_review 188 = .ok (.iastore, 1) := by decide +kernel
theorem dX9_review_189 : decode cX9_review 189 = .ok (.aload_n 0, 1) := by decide +kernel
theorem dX9_review_190 : decode cX9_review 190 = .ok (.getfield 70, 3) := by decide +kernel
theorem dX9_review_193 : decode cX9_review 193 = .ok (.bipush 44, 2) := by decide +kernel
theorem dX9_review_195 : decode cX9_review 195 = .ok (.iload_n 1, 1) := by decide +kernel
theorem dX9_review_196 : decode cX9_review 196 = .ok (.iadd, 1) := by decide +kernel
theorem dX9_review_197 : decode cX9_review 197 = .ok (.dup2, 1) := by decide +kernel
theorem dX9_review_198 : decode cX9_review 198 = .ok (.iaload, 1) := by decide +kernel
theorem dX9_review_199 : decode cX9_review 199 = .ok (.iconst 1, 1) := by decide +kernel
theorem dX9_review_200 : decode cX9_review 200 = .ok (.iadd, 1) := by decide +kernel
theorem dX9_review_201 : decode cX9_review 201 = .ok (.iastore, 1) := by decide +kernel
theorem dX9_review_202 : decode cX9_review 202 = .ok (.aload_n 0, 1) := by decide +kernel
theorem dX9_review_203 : decode cX9_review 203 = .ok (.getfield 70, 3) := by decide +kernel
theorem dX9_review_206 : decode cX9_review 206 = .ok (.bipush 44, 2) := by decide +kernel
theorem dX9_review_208 : decode cX9_review 208 = .ok (.iload_n 1, 1) := by decide +kernel
theorem dX9_review_209 : decode cX9_review 209 = .ok (.iadd, 1) := by decide +kernel
theorem dX9_review_210 : decode cX9_review 210 = .ok (.iaload, 1) := by decide +kernel
theorem dX9_review_211 : decode cX9_review 211 = .ok (.ireturn, 1) := by decide +kernel
theorem dX9_lift_0 : decode cX9_lift 0 = .ok (.aload_n 0, 1) := by decide +kernel
theorem dX9_lift_1 : decode cX9_lift 1 = .ok (.iconst 0, 1) := by decide +kernel
theorem dX9_lift_2 : decode cX9_lift 2 = .ok (.putfield 85, 3) := by decide +kernel
theorem dX9_lift_5 : decode cX9_lift 5 = .ok (.aload_n 0, 1) := by decide +kernel
theorem dX9_lift_6 : decode cX9_lift 6 = .ok (.iload_n 1, 1) := by decide +kernel
theorem dX9_lift_7 : decode cX9_lift 7 = .ok (.invokevirtual 337, 3) := by decide +kernel
theorem dX9_lift_10 : decode cX9_lift 10 = .ok (.ifCond .eq 17, 3) := by decide +kernel
theorem dX9_lift_13 : decode cX9_lift 13 = .ok (.iload_n 2, 1) := by decide +kernel
theorem dX9_lift_14 : decode cX9_lift 14 = .ok (.i2l, 1) := by decide +kernel
theorem dX9_lift_15 : decode cX9_lift 15 = .ok (.ldc2_w 376, 3) := by decide +kernel
theorem dX9_lift_18 : decode cX9_lift 18 = .ok (.ldc2_w 129, 3) := by decide +kernel
theorem dX9_lift_21 : decode cX9_lift 21 = .ok (.invokestatic 123, 3) := by decide +kernel
theorem dX9_lift_24 : decode cX9_lift 24 = .ok (.ifCond .ne 6, 3) := by decide +kernel
theorem dX9_lift_27 : decode cX9_lift 27 = .ok (.bipush (-2), 2) := by decide +kernel
theorem dX9_lift_29 : decode cX9_lift 29 = .ok (.ireturn, 1) := by decide +kernel
theorem dX9_lift_30 : decode cX9_lift 30 = .ok (.aload_n 0, 1) := by decide +kernel
theorem dX9_lift_31 : decode cX9_lift 31 = .ok (.invokevirtual 388, 3) := by decide +kernel
theorem dX9_lift_34 : decode cX9_lift 34 = .ok (.aload_n 0, 1) := by decide +kernel
theorem dX9_lift_35 : decode cX9_lift 35 = .ok (.getfield 70, 3) := by decide +kernel
theorem dX9_lift_38 : decode cX9_lift 38 = .ok (.bipush 32, 2) := by decide +kernel
theorem dX9_lift_40 : decode cX9_lift 40 = .ok (.iload_n 1, 1) := by decide +kernel
theorem dX9_lift_41 : decode cX9_lift 41 = .ok (.iadd, 1) := by decide +kernel
theorem dX9_lift_42 : decode cX9_lift 42 = .ok (.iaload, 1) := by decide +kernel
theorem dX9_lift_43 : decode cX9_lift 43 = .ok (.istore_n 3, 1) := by decide +kernel
theorem dX9_lift_44 : decode cX9_lift 44 = .ok (.aload_n 0, 1) := by decide +kernel
theorem dX9_lift_45 : decode cX9_lift 45 = .ok (.getfield 70, 3) := by decide +kernel
theorem dX9_lift_48 : decode cX9_lift 48 = .ok (.bipush 32, 2) := by decide +kernel
theorem dX9_lift_50 : decode cX9_lift 50 = .ok (.iload_n 1, 1) := by decide +kernel
theorem dX9_lift_51 : decode cX9_lift 51 = .ok (.iadd, 1) := by decide +kernel
theorem dX9_lift_52 : decode cX9_lift 52 = .ok (.iload_n 2, 1) := by decide +kernel
theorem dX9_lift_53 : decode cX9_lift 53 = .ok (.iastore, 1) := by decide +kernel
theorem dX9_lift_54 : decode cX9_lift 54 = .ok (.iload_n 3, 1) := by decide +kernel
theorem dX9_lift_55 : decode cX9_lift 55 = .ok (.ireturn, 1) := by decide +kernel
theorem dX9_died_0 : decode cX9_died 0 = .ok (.aload_n 0, 1) := by decide +kernel
theorem dX9_died_1 : decode cX9_died 1 = .ok (.iconst 0, 1) := by decide +kernel
theorem dX9_died_2 : decode cX9_died 2 = .ok (.putfield 85, 3) := by decide +kernel
theorem dX9_died_5 : decode cX9_died 5 = .ok (.aload_n 0, 1) := by decide +kernel
theorem dX9_died_6 : decode cX9_died 6 = .ok (.iload_n 1, 1) := by decide +kernel
theorem dX9_died_7 : decode cX9_died 7 = .ok (.invokevirtual 331, 3) := by decide +kernel
theorem dX9_died_10 : decode cX9_died 10 = .ok (.ifCond .eq 32, 3) := by decide +kernel
theorem dX9_died_13 : decode cX9_died 13 = .ok (.iload_n 2, 1) := by decide +kernel
theorem dX9_died_14 : decode cX9_died 14 = .ok (.i2l, 1) := by decide +kernel
theorem dX9_died_15 : decode cX9_died 15 = .ok (.ldc2_w 376, 3) := by decide +kernel
theorem dX9_died_18 : decode cX9_died 18 = .ok (.ldc2_w 129, 3) := by decide +kernel
theorem dX9_died_21 : decode cX9_died 21 = .ok (.invokestatic 123, 3) := by decide +kernel
theorem dX9_died_24 : decode cX9_died 24 = .ok (.ifCond .eq 18, 3) := by decide +kernel
theorem dX9_died_27 : decode cX9_died 27 = .ok (.iload_n 2, 1) := by decide +kernel
theorem dX9_died_28 : decode cX9_died 28 = .ok (.iconst (-1), 1) := by decide +kernel
theorem dX9_died_29 : decode cX9_died 29 = .ok (.if_icmp .eq 16, 3) := by decide +kernel
theorem dX9_died_32 : decode cX9_died 32 = .ok (.iload_n 2, 1) := by decide +kernel
theorem dX9_died_33 : decode cX9_died 33 = .ok (.aload_n 0, 1) := by decide +kernel
theorem dX9_died_34 : decode cX9_died 34 = .ok (.getfield 30, 3) := by decide +kernel
theorem dX9_died_37 : decode cX9_died 37 = .ok (.iload_n 1, 1) := by decide +kernel
theorem dX9_died_38 : decode cX9_died 38 = .ok (.iaload, 1) := by decide +kernel
theorem dX9_died_39 : decode cX9_died 39 = .ok (.if_icmp .ge 6, 3) := by decide +kernel
theorem dX9_died_42 : decode cX9_died 42 = .ok (.bipush (-2), 2) := by decide +kernel
theorem dX9_died_44 : decode cX9_died 44 = .ok (.ireturn, 1) := by decide +kernel
theorem dX9_died_45 : decode cX9_died 45 = .ok (.aload_n 0, 1) := by decide +kernel
theorem dX9_died_46 : decode cX9_died 46 = .ok (.invokevirtual 388, 3) := by decide +kernel
theorem dX9_died_49 : decode cX9_died 49 = .ok (.aload_n 0, 1) := by decide +kernel
theorem dX9_died_50 : decode cX9_died 50 = .ok (.getfield 70, 3) := by decide +kernel
theorem dX9_died_53 : decode cX9_died 53 = .ok (.bipush 24, 2) := by decide +kernel
theorem dX9_died_55 : decode cX9_died 55 = .ok (.iload_n 1, 1) := by decide +kernel
theorem dX9_died_56 : decode cX9_died 56 = .ok (.iadd, 1) := by decide +kernel
theorem dX9_died_57 : decode cX9_died 57 = .ok (.iaload, 1) := by decide +kernel
theorem dX9_died_58 : decode cX9_died 58 = .ok (.istore_n 3, 1) := by decide +kernel
theorem dX9_died_59 : decode cX9_died 59 = .ok (.aload_n 0, 1) := by decide +kernel
theorem dX9_died_60 : decode cX9_died 60 = .ok (.getfield 70, 3) := by decide +kernel
theorem dX9_died_63 : decode cX9_died 63 = .ok (.bipush 24, 2) := by decide +kernel
theorem dX9_died_65 : decode cX9_died 65 = .ok (.iload_n 1, 1) := by decide +kernel
theorem dX9_died_66 : decode cX9_died 66 = .ok (.iadd, 1) := by decide +kernel
theorem dX9_died_67 : decode cX9_died 67 = .ok (.iload_n 2, 1) := by decide +kernel
theorem dX9_died_68 : decode cX9_died 68 = .ok (.iastore, 1) := by decide +kernel
theorem dX9_died_69 : decode cX9_died 69 = .ok (.iload_n 3, 1) := by decide +kernel
theorem dX9_died_70 : decode cX9_died 70 = .ok (.ireturn, 1) := by decide +kernel
theorem dX9_put_0 : decode cX9_put 0 = .ok (.aload_n 0, 1) := by decide +kernel
theorem dX9_put_1 : decode cX9_put 1 = .ok (.iconst 0, 1) := by decide +kernel
theorem dX9_put_2 : decode cX9_put 2 = .ok (.putfield 85, 3) := by decide +kernel
theorem dX9_put_5 : decode cX9_put 5 = .ok (.aload_n 0, 1) := by decide +kernel
theorem dX9_put_6 : decode cX9_put 6 = .ok (.iload_n 1, 1) := by decide +kernel
theorem dX9_put_7 : decode cX9_put 7 = .ok (.invokevirtual 322, 3) := by decide +kernel
theorem dX9_put_10 : decode cX9_put 10 = .ok (.ifCond .eq 25, 3) := by decide +kernel
theorem dX9_put_13 : decode cX9_put 13 = .ok (.iload_n 2, 1) := by decide +kernel
theorem dX9_put_14 : decode cX9_put 14 = .ok (.iconst (-1), 1) := by decide +kernel
theorem dX9_put_15 : decode cX9_put 15 = .ok (.if_icmp .eq 23, 3) := by decide +kernel
theorem dX9_put_18 : decode cX9_put 18 = .ok (.aload_n 0, 1) := by decide +kernel
theorem dX9_put_19 : decode cX9_put 19 = .ok (.iload_n 2, 1) := by decide +kernel
theorem dX9_put_20 : decode cX9_put 20 = .ok (.invokevirtual 322, 3) := by decide +kernel
theorem dX9_put_23 : decode cX9_put 23 = .ok (.ifCond .eq 12, 3) := by decide +kernel
theorem dX9_put_26 : decode cX9_put 26 = .ok (.aload_n 0, 1) := by decide +kernel
theorem dX9_put_27 : decode cX9_put 27 = .ok (.iload_n 2, 1) := by decide +kernel
theorem dX9_put_28 : decode cX9_put 28 = .ok (.iload_n 1, 1) := by decide +kernel
theorem dX9_put_29 : decode cX9_put 29 = .ok (.invokevirtual 313, 3) := by decide +kernel
theorem dX9_put_32 : decode cX9_put 32 = .ok (.ifCond .eq 6, 3) := by decide +kernel
theorem dX9_put_35 : decode cX9_put 35 = .ok (.bipush (-2), 2) := by decide +kernel
theorem dX9_put_37 : decode cX9_put 37 = .ok (.ireturn, 1) := by decide +kernel
theorem dX9_put_38 : decode cX9_put 38 = .ok (.aload_n 0, 1) := by decide +kernel
theorem dX9_put_39 : decode cX9_put 39 = .ok (.invokevirtual 388, 3) := by decide +kernel
theorem dX9_put_42 : decode cX9_put 42 = .ok (.aload_n 0, 1) := by decide +kernel
theorem dX9_put_43 : decode cX9_put 43 = .ok (.getfield 70, 3) := by decide +kernel
theorem dX9_put_46 : decode cX9_put 46 = .ok (.iload_n 1, 1) := by decide +kernel
theorem dX9_put_47 : decode cX9_put 47 = .ok (.iaload, 1) := by decide +kernel
theorem dX9_put_48 : decode cX9_put 48 = .ok (.istore_n 3, 1) := by decide +kernel
theorem dX9_put_49 : decode cX9_put 49 = .ok (.aload_n 0, 1) := by decide +kernel
theorem dX9_put_50 : decode cX9_put 50 = .ok (.getfield 70, 3) := by decide +kernel
theorem dX9_put_53 : decode cX9_put 53 = .ok (.iload_n 1, 1) := by decide +kernel
theorem dX9_put_54 : decode cX9_put 54 = .ok (.iload_n 2, 1) := by decide +kernel
theorem dX9_put_55 : decode cX9_put 55 = .ok (.iastore, 1) := by decide +kernel
theorem dX9_put_56 : decode cX9_put 56 = .ok (.iload_n 3, 1) := by decide +kernel
theorem dX9_put_57 : decode cX9_put 57 = .ok (.ireturn, 1) := by decide +kernel
theorem dX9_undo_0 : decode cX9_undo 0 = .ok (.aload_n 0, 1) := by decide +kernel
theorem dX9_undo_1 : decode cX9_undo 1 = .ok (.iconst 0, 1) := by decide +kernel
theorem dX9_undo_2 : decode cX9_undo 2 = .ok (.putfield 85, 3) := by decide +kernel
theorem dX9_undo_5 : decode cX9_undo 5 = .ok (.aload_n 0, 1) := by decide +kernel
theorem dX9_undo_6 : decode cX9_undo 6 = .ok (.getfield 310, 3) := by decide +kernel
theorem dX9_undo_9 : decode cX9_undo 9 = .ok (.ifCond .ne 5, 3) := by decide +kernel
theorem dX9_undo_12 : decode cX9_undo 12 = .ok (.iconst (-1), 1) := by decide +kernel
theorem dX9_undo_13 : decode cX9_undo 13 = .ok (.ireturn, 1) := by decide +kernel
theorem dX9_undo_14 : decode cX9_undo 14 = .ok (.aload_n 0, 1) := by decide +kernel
theorem dX9_undo_15 : decode cX9_undo 15 = .ok (.dup, 1) := by decide +kernel
theorem dX9_undo_16 : decode cX9_undo 16 = .ok (.getfield 310, 3) := by decide +kernel
theorem dX9_undo_19 : decode cX9_undo 19 = .ok (.iconst 1, 1) := by decide +kernel
theorem dX9_undo_20 : decode cX9_undo 20 = .ok (.isub, 1) := by decide +kernel
theorem dX9_undo_21 : decode cX9_undo 21 = .ok (.putfield 310, 3) := by decide +kernel
theorem dX9_undo_24 : decode cX9_undo 24 = .ok (.iconst 0, 1) := by decide +kernel
theorem dX9_undo_25 : decode cX9_undo 25 = .ok (.istore_n 1, 1) := by decide +kernel
theorem dX9_undo_26 : decode cX9_undo 26 = .ok (.iload_n 1, 1) := by decide +kernel
theorem dX9_undo_27 : decode cX9_undo 27 = .ok (.sipush 176, 3) := by decide +kernel
theorem dX9_undo_30 : decode cX9_undo 30 = .ok (.if_icmp .ge 30, 3) := by decide +kernel
theorem dX9_undo_33 : decode cX9_undo 33 = .ok (.aload_n 0, 1) := by decide +kernel
theorem dX9_undo_34 : decode cX9_undo 34 = .ok (.getfield 70, 3) := by decide +kernel
theorem dX9_undo_37 : decode cX9_undo 37 = .ok (.iload_n 1, 1) := by decide +kernel
theorem dX9_undo_38 : decode cX9_undo 38 = .ok (.aload_n 0, 1) := by decide +kernel
theorem dX9_undo_39 : decode cX9_undo 39 = .ok (.getfield 73, 3) := by decide +kernel
theorem dX9_undo_42 : decode cX9_undo 42 = .ok (.sipush 176, 3) := by decide +kernel
theorem dX9_undo_45 : decode cX9_undo 45 = .ok (.aload_n 0, 1) := by decide +kernel
theorem dX9_undo_46 : decode cX9_undo 46 = .ok (.getfield 310, 3) := by decide +kernel
theorem dX9_undo_49 : decode cX9_undo 49 = .ok (.imul, 1) := by decide +kernel
theorem dX9_undo_50 : decode cX9_undo 50 = .ok (.iload_n 1, 1) := by decide +kernel
theorem dX9_undo_51 : decode cX9_undo 51 = .ok (.iadd, 1) := by decide +kernel
theorem dX9_undo_52 : decode cX9_undo 52 = .ok (.iaload, 1) := by decide +kernel
theorem dX9_undo_53 : decode cX9_undo 53 = .ok (.iastore, 1) := by decide +kernel
theorem dX9_undo_54 : decode cX9_undo 54 = .ok (.iinc 1 1, 3) := by decide +kernel
theorem dX9_undo_57 : decode cX9_undo 57 = .ok (.goto (-31), 3) := by decide +kernel
theorem dX9_undo_60 : decode cX9_undo 60 = .ok (.aload_n 0, 1) := by decide +kernel
theorem dX9_undo_61 : decode cX9_undo 61 = .ok (.getfield 310, 3) := by decide +kernel
theorem dX9_undo_64 : decode cX9_undo 64 = .ok (.ireturn, 1) := by decide +kernel
theorem qw_325 : (Cond.code yX9_isPiece cX9_isPiece 2 (some .boolean) : Cond) ∈ TBL := List.mem_of_getElem? (i := 594) (by decide +kernel)
theorem qw_326 : (Cond.methodLink RX9 322 yX9_isPiece : Cond) ∈ TBL := List.mem_of_getElem? (i := 591) (by decide +kernel)
theorem qw_327 : (Cond.instanceMethod yX9_isPiece : Cond) ∈ TBL := List.mem_of_getElem? (i := 592) (by decide +kernel)
theorem qw_328 : (Cond.selects RX9 yX9_isPiece yX9_isPiece : Cond) ∈ TBL := List.mem_of_getElem? (i := 593) (by decide +kernel)
theorem qw_329 : (Cond.code yX9_isPerson cX9_isPerson 2 (some .boolean) : Cond) ∈ TBL := List.mem_of_getElem? (i := 624) (by decide +kernel)
theorem qw_330 : (Cond.methodLink RX9 331 yX9_isPerson : Cond) ∈ TBL := List.mem_of_getElem? (i := 621) (by decide +kernel)
theorem qw_331 : (Cond.instanceMethod yX9_isPerson : Cond) ∈ TBL := List.mem_of_getElem? (i := 622) (by decide +kernel)
theorem qw_332 : (Cond.selects RX9 yX9_isPerson yX9_isPerson : Cond) ∈ TBL := List.mem_of_getElem? (i := 623) (by decide +kernel)
theorem qw_333 : (Cond.code yX9_isClosure cX9_isClosure 2 (some .boolean) : Cond) ∈ TBL := List.mem_of_getElem? (i := 653) (by decide +kernel)
theorem qw_334 : (Cond.methodLink RX9 337 yX9_isClosure : Cond) ∈ TBL := List.mem_of_getElem? (i := 650) (by decide +kernel)
theorem qw_335 : (Cond.instanceMethod yX9_isClosure : Cond) ∈ TBL := List.mem_of_getElem? (i := 651) (by decide +kernel)
theorem qw_336 : (Cond.selects RX9 yX9_isClosure yX9_isClosure : Cond) ∈ TBL := List.mem_of_getElem? (i := 652) (by decide +kernel)
theorem qw_337 : (Cond.code yX9_laysEnds cX9_laysEnds 3 none : Cond) ∈ TBL := List.mem_of_getElem? (i := 718) (by decide +kernel)
theorem qw_338 : (Cond.methodLink RX9 361 yX9_laysEnds : Cond) ∈ TBL := List.mem_of_getElem? (i := 715) (by decide +kernel)
theorem qw_339 : (Cond.instanceMethod yX9_laysEnds : Cond) ∈ TBL := List.mem_of_getElem? (i := 716) (by decide +kernel)
theorem qw_340 : (Cond.selects RX9 yX9_laysEnds yX9_laysEnds : Cond) ∈ TBL := List.mem_of_getElem? (i := 717) (by decide +kernel)
theorem qw_341 : (Cond.fieldLink RX9 310 "ClosedUntilModel" "undos" "I" : Cond) ∈ TBL := List.mem_of_getElem? (i := 356) (by decide +kernel)
set_option maxHeartbeats 4000000 in
set_option maxRecDepth 100000 in
theorem c_9isPiece (l : Launch) (dC : Nat → ClassId) (dI : Nat → Nat → Nat) (g : Gv) (m0 : Nat) (a : Nat → Nat) (ca : Nat → ClassId) (pa : Int32)  : Met l yX9_isPiece (.code yX9_isPiece cX9_isPiece 2 (some .boolean) :: TBL) ({ frames := 1, cells := 0, slots := 0, locals := 40 }) (va_Pc [.ref m0, .int pa] (fun U => va_P (dC, dI) vwCl [(m0, .inr (8, [.int 0, .int 0, .int 0, .int 0, .ref (a 4), .int 0, .int 0, .int 0, .int 0, .int 0, .int 0, .long 0, .int 0, .int 0, .int 0, .int 0, .int 0, .int 0, .ref (a 18), .ref (a 19), .ref (a 20), .ref (a 21), .ref (a 22), .ref (a 23), .ref (a 24), .ref (a 25), .ref (a 26), .ref (a 27), .ref (a 28), .ref (a 29), .ref (a 30), .ref (a 31), .ref (a 32), .ref (a 33), .ref (a 34), .ref (a 35), .long 0, .int 0, .ref (a 38), .ref (a 39), .int 0, .ref (a 41), .ref (a 42), .ref (a 43)])), ((a 20), .inl ((ca 20), 2, .inl (fun _ => 0)))] U.heap ∧ va_K (dC, dI) vwCl [((ca 20), .int)] U ∧ Ev g (fun _ => False) U)) (vp_Si (fun r => r = 0)) 0 0 (fun _ => False) := by
  refine Met.ofW (cc := cX9_isPiece) (maxL := 2) (ret := (some .boolean)) (by decide) rfl ?_
  intro p e s m args below meth c s₁ B hml hv
  obtain ⟨rfl, hP, hK, hE⟩ := hv
  have hx := B.exec
  have hb := B.bytes
  have hr := B.returns
  have hts0 := atoms_spec (ws := (.code yX9_isPiece cX9_isPiece 2 (some .boolean) :: TBL)) B.pre
  have hts := fun (w : Cond) (h : w ∈ TBL) => hts0 w (List.mem_cons_of_mem _ h)
  have hown : s.vm.findClass RX9 = some m.cls := findClass_of_methodNamed B.named
  have hlocks := B.notSynchronized
  have hN := hE.1
  have hS : va_S (fun _ => False) s.heap s.heap [] := va_S.rf
  have hP : va_P (dC, dI) vwCl [(m0, .inr (8, [.int 0, .int 0, .int 0, .int 0, .ref (a 4), .int 0, .int 0, .int 0, .int 0, .int 0, .int 0, .long 0, .int 0, .int 0, .int 0, .int 0, .int 0, .int 0, .ref (a 18), .ref (a 19), .ref (a 20), .ref (a 21), .ref (a 22), .ref (a 23), .ref (a 24), .ref (a 25), .ref (a 26), .ref (a 27), .ref (a 28), .ref (a 29), .ref (a 30), .ref (a 31), .ref (a 32), .ref (a 33), .ref (a 34), .ref (a 35), .long 0, .int 0, .ref (a 38), .ref (a 39), .int 0, .ref (a 41), .ref (a 42), .ref (a 43)])), ((a 20), .inl ((ca 20), 2, .inl (fun _ => 0)))] s.heap := hP
  have hl := lv_entry ([.ref m0, .int pa]) (n := 2) (Nat.le_of_ble_eq_true rfl)
  rw [lg_entry_eq]
  generalize (lg_sl ([.ref m0, .int pa]) ++ List.replicate (2 - (lg_sl ([.ref m0, .int pa])).length) Slot.unset).toArray = ls at hl ⊢
  have hl : lv_has ls 2 [(0, .ref m0), (1, .int pa)] := hl
  refine lv_iload_n hx hb dX9_isPiece_0 rfl (lv_at hl 1 rfl) ?_
  refine lv_i2l hx hb dX9_isPiece_1 rfl ?_
  refine lv_lconst (v := 0) hx hb dX9_isPiece_2 (by decide) ?_
  refine lv_aload_n hx hb dX9_isPiece_3 rfl (lv_at hl 0 rfl) ?_
  refine va_get (D := (dC, dI)) (ci := 8) (v := .ref (a 20)) (C := RX9) (T := TX9) (N := 44) hx hb hts inlX9 hown hK hP 0 rfl rfl 20 (by decide) (hts (.fieldLink RX9 20 "ClosedUntilModel" "pieces" "[I") qw_214) (fun _ h9 => h9) rfl dX9_isPiece_4 ?_
  refine lv_iconst (v := 0) hx hb dX9_isPiece_7 (by decide) ?_
  refine va_iald hx hb hK hP 1 0 rfl rfl (vin0 (by decide)) dX9_isPiece_8 ?_
  refine cst (v := 0) (rfl) ?_
  refine lv_iconst (v := 1) hx hb dX9_isPiece_9 (by decide) ?_
  refine lv_isub hx hb dX9_isPiece_10 ?_
  refine cst (v := (-1)) (by decide) ?_
  refine lv_i2l hx hb dX9_isPiece_11 rfl ?_
  refine cstl (v := (-1)) (by decide) ?_
  have hPc := hP.sub (ws' := []) [] rfl
  have hKc := hK.sub (tys' := []) [] rfl
  refine vp_callSi ((va_runS (As := [.long (pa.toInt64), .long 0, .long (-1)]) (rest := []) ⟨hx, hb, hml, hown, hts⟩ (c_wi_out l dC dI g ((pa.toInt64)) (0) ((-1)) (pa.toInt) (0) ((-1)) (w_li rfl) (by decide) (by decide) (by omega)) (va_cwS 3 hts (gwS qw_47 qw_48 qw_23 qw_46) rfl rfl rfl (by decide +kernel) ⟨Nat.le_of_ble_eq_true rfl, Nat.le_of_ble_eq_true rfl⟩) ⟨fun a U g9 mk q => ⟨q.1, q.2.1, va_K.moved (u := U) (U := U.calling g9 mk a) (Vm.Alike.refl U.vm) q.2.2.1, Ev.bl q.2.2.2⟩, fun U hU hW => ⟨rfl, by rw [hU]; exact hPc, va_K.moved hW.alike hKc, hE.go hS (fun _ h => h.elim) hU hW⟩⟩ rfl rfl hl.1 rfl (lv_room (Nat.le_of_ble_eq_true rfl)) dX9_isPiece_12 ⟨Nat.le_of_ble_eq_true rfl, Nat.le_of_ble_eq_true rfl⟩)).run (fun r1 h_r1 => ?_)
  have h_r1 : r1 = 0 := h_r1
  subst h_r1
  exact W.zret (v := 0) hx hb hr rfl (fun t ht hW => ⟨0, rfl, (rfl), ht⟩) (fun _ h => absurd h List.not_mem_nil) dX9_isPiece_15
set_option maxHeartbeats 4000000 in
set_option maxRecDepth 100000 in
theorem c_9isClosure (l : Launch) (dC : Nat → ClassId) (dI : Nat → Nat → Nat) (g : Gv) (m0 : Nat) (a : Nat → Nat) (ca : Nat → ClassId) (pa : Int32)  : Met l yX9_isClosure (.code yX9_isClosure cX9_isClosure 2 (some .boolean) :: TBL) ({ frames := 1, cells := 0, slots := 0, locals := 40 }) (va_Pc [.ref m0, .int pa] (fun U => va_P (dC, dI) vwCl [(m0, .inr (8, [.int 0, .int 0, .int 0, .int 0, .ref (a 4), .int 0, .int 0, .int 0, .int 0, .int 0, .int 0, .long 0, .int 0, .int 0, .int 0, .int 0, .int 0, .int 0, .ref (a 18), .ref (a 19), .ref (a 20), .ref (a 21), .ref (a 22), .ref (a 23), .ref (a 24), .ref (a 25), .ref (a 26), .ref (a 27), .ref (a 28), .ref (a 29), .ref (a 30), .ref (a 31), .ref (a 32), .ref (a 33), .ref (a 34), .ref (a 35), .long 0, .int 0, .ref (a 38), .ref (a 39), .int 0, .ref (a 41), .ref (a 42), .ref (a 43)])), ((a 21), .inl ((ca 21), 2, .inl (fun _ => 0)))] U.heap ∧ va_K (dC, dI) vwCl [((ca 21), .int)] U ∧ Ev g (fun _ => False) U)) (vp_Si (fun r => r = 0)) 0 0 (fun _ => False) := by
  refine Met.ofW (cc := cX9_isClosure) (maxL := 2) (ret := (some .boolean)) (by decide) rfl ?_
  intro p e s m args below meth c s₁ B hml hv
  obtain ⟨rfl, hP, hK, hE⟩ := hv
  have hx := B.exec
  have hb := B.bytes
  have hr := B.returns
  have hts0 := atoms_spec (ws := (.code yX9_isClosure cX9_isClosure 2 (some .boolean) :: TBL)) B.pre
  have hts := fun (w : Cond) (h : w ∈ TBL) => hts0 w (List.mem_cons_of_mem _ h)
  have hown : s.vm.findClass RX9 = some m.cls := findClass_of_methodNamed B.named
  have hlocks := B.notSynchronized
  have hN := hE.1
  have hS : va_S (fun _ => False) s.heap s.heap [] := va_S.rf
  have hP : va_P (dC, dI) vwCl [(m0, .inr (8, [.int 0, .int 0, .int 0, .int 0, .ref (a 4), .int 0, .int 0, .int 0, .int 0, .int 0, .int 0, .long 0, .int 0, .int 0, .int 0, .int 0, .int 0, .int 0, .ref (a 18), .ref (a 19), .ref (a 20), .ref (a 21), .ref (a 22), .ref (a 23), .ref (a 24), .ref (a 25), .ref (a 26), .ref (a 27), .ref (a 28), .ref (a 29), .ref (a 30), .ref (a 31), .ref (a 32), .ref (a 33), .ref (a 34), .ref (a 35), .long 0, .int 0, .ref (a 38), .ref (a 39), .int 0, .ref (a 41), .ref (a 42), .ref (a 43)])), ((a 21), .inl ((ca 21), 2, .inl (fun _ => 0)))] s.heap := hP
  have hl := lv_entry ([.ref m0, .int pa]) (n := 2) (Nat.le_of_ble_eq_true rfl)
  rw [lg_entry_eq]
  generalize (lg_sl ([.ref m0, .int pa]) ++ List.replicate (2 - (lg_sl ([.ref m0, .int pa])).length) Slot.unset).toArray = ls at hl ⊢
  have hl : lv_has ls 2 [(0, .ref m0), (1, .int pa)] := hl
  refine lv_iload_n hx hb dX9_isClosure_0 rfl (lv_at hl 1 rfl) ?_
  refine lv_i2l hx hb dX9_isClosure_1 rfl ?_
  refine lv_lconst (v := 0) hx hb dX9_isClosure_2 (by decide) ?_
  refine lv_aload_n hx hb dX9_isClosure_3 rfl (lv_at hl 0 rfl) ?_
  refine va_get (D := (dC, dI)) (ci := 8) (v := .ref (a 21)) (C := RX9) (T := TX9) (N := 44) hx hb hts inlX9 hown hK hP 0 rfl rfl 21 (by decide) (hts (.fieldLink RX9 23 "ClosedUntilModel" "closures" "[I") qw_215) (fun _ h9 => h9) rfl dX9_isClosure_4 ?_
  refine lv_iconst (v := 0) hx hb dX9_isClosure_7 (by decide) ?_
  refine va_iald hx hb hK hP 1 0 rfl rfl (vin0 (by decide)) dX9_isClosure_8 ?_
  refine cst (v := 0) (rfl) ?_
  refine lv_iconst (v := 1) hx hb dX9_isClosure_9 (by decide) ?_
  refine lv_isub hx hb dX9_isClosure_10 ?_
  refine cst (v := (-1)) (by decide) ?_
  refine lv_i2l hx hb dX9_isClosure_11 rfl ?_
  refine cstl (v := (-1)) (by decide) ?_
  have hPc := hP.sub (ws' := []) [] rfl
  have hKc := hK.sub (tys' := []) [] rfl
  refine vp_callSi ((va_runS (As := [.long (pa.toInt64), .long 0, .long (-1)]) (rest := []) ⟨hx, hb, hml, hown, hts⟩ (c_wi_out l dC dI g ((pa.toInt64)) (0) ((-1)) (pa.toInt) (0) ((-1)) (w_li rfl) (by decide) (by decide) (by omega)) (va_cwS 3 hts (gwS qw_47 qw_48 qw_23 qw_46) rfl rfl rfl (by decide +kernel) ⟨Nat.le_of_ble_eq_true rfl, Nat.le_of_ble_eq_true rfl⟩) ⟨fun a U g9 mk q => ⟨q.1, q.2.1, va_K.moved (u := U) (U := U.calling g9 mk a) (Vm.Alike.refl U.vm) q.2.2.1, Ev.bl q.2.2.2⟩, fun U hU hW => ⟨rfl, by rw [hU]; exact hPc, va_K.moved hW.alike hKc, hE.go hS (fun _ h => h.elim) hU hW⟩⟩ rfl rfl hl.1 rfl (lv_room (Nat.le_of_ble_eq_true rfl)) dX9_isClosure_12 ⟨Nat.le_of_ble_eq_true rfl, Nat.le_of_ble_eq_true rfl⟩)).run (fun r1 h_r1 => ?_)
  have h_r1 : r1 = 0 := h_r1
  subst h_r1
  exact W.zret (v := 0) hx hb hr rfl (fun t ht hW => ⟨0, rfl, (rfl), ht⟩) (fun _ h => absurd h List.not_mem_nil) dX9_isClosure_15
set_option maxHeartbeats 4000000 in
set_option maxRecDepth 100000 in
theorem c_9isPerson (l : Launch) (dC : Nat → ClassId) (dI : Nat → Nat → Nat) (g : Gv) (m0 : Nat) (a : Nat → Nat) (ca : Nat → ClassId) (pa : Int32)  : Met l yX9_isPerson (.code yX9_isPerson cX9_isPerson 2 (some .boolean) :: TBL) ({ frames := 1, cells := 0, slots := 0, locals := 40 }) (va_Pc [.ref m0, .int pa] (fun U => va_P (dC, dI) vwCl [(m0, .inr (8, [.int 0, .int 0, .int 0, .int 0, .ref (a 4), .int 0, .int 0, .int 0, .int 0, .int 0, .int 0, .long 0, .int 0, .int 0, .int 0, .int 0, .int 0, .int 0, .ref (a 18), .ref (a 19), .ref (a 20), .ref (a 21), .ref (a 22), .ref (a 23), .ref (a 24), .ref (a 25), .ref (a 26), .ref (a 27), .ref (a 28), .ref (a 29), .ref (a 30), .ref (a 31), .ref (a 32), .ref (a 33), .ref (a 34), .ref (a 35), .long 0, .int 0, .ref (a 38), .ref (a 39), .int 0, .ref (a 41), .ref (a 42), .ref (a 43)])), ((a 18), .inl ((ca 18), 2, .inl (fun _ => 0)))] U.heap ∧ va_K (dC, dI) vwCl [((ca 18), .int)] U ∧ Ev g (fun _ => False) U)) (vp_Si (fun r => r = 0)) 0 0 (fun _ => False) := by
  refine Met.ofW (cc := cX9_isPerson) (maxL := 2) (ret := (some .boolean)) (by decide) rfl ?_
  intro p e s m args below meth c s₁ B hml hv
  obtain ⟨rfl, hP, hK, hE⟩ := hv
  have hx := B.exec
  have hb := B.bytes
  have hr := B.returns
  have hts0 := atoms_spec (ws := (.code yX9_isPerson cX9_isPerson 2 (some .boolean) :: TBL)) B.pre
  have hts := fun (w : Cond) (h : w ∈ TBL) => hts0 w (List.mem_cons_of_mem _ h)
  have hown : s.vm.findClass RX9 = some m.cls := findClass_of_methodNamed B.named
  have hlocks := B.notSynchronized
  have hN := hE.1
  have hS : va_S (fun _ => False) s.heap s.heap [] := va_S.rf
  have hP : va_P (dC, dI) vwCl [(m0, .inr (8, [.int 0, .int 0, .int 0, .int 0, .ref (a 4), .int 0, .int 0, .int 0, .int 0, .int 0, .int 0, .long 0, .int 0, .int 0, .int 0, .int 0, .int 0, .int 0, .ref (a 18), .ref (a 19), .ref (a 20), .ref (a 21), .ref (a 22), .ref (a 23), .ref (a 24), .ref (a 25), .ref (a 26), .ref (a 27), .ref (a 28), .ref (a 29), .ref (a 30), .ref (a 31), .ref (a 32), .ref (a 33), .ref (a 34), .ref (a 35), .long 0, .int 0, .ref (a 38), .ref (a 39), .int 0, .ref (a 41), .ref (a 42), .ref (a 43)])), ((a 18), .inl ((ca 18), 2, .inl (fun _ => 0)))] s.heap := hP
  have hl := lv_entry ([.ref m0, .int pa]) (n := 2) (Nat.le_of_ble_eq_true rfl)
  rw [lg_entry_eq]
  generalize (lg_sl ([.ref m0, .int pa]) ++ List.replicate (2 - (lg_sl ([.ref m0, .int pa])).length) Slot.unset).toArray = ls at hl ⊢
  have hl : lv_has ls 2 [(0, .ref m0), (1, .int pa)] := hl
  refine lv_iload_n hx hb dX9_isPerson_0 rfl (lv_at hl 1 rfl) ?_
  refine lv_i2l hx hb dX9_isPerson_1 rfl ?_
  refine lv_lconst (v := 0) hx hb dX9_isPerson_2 (by decide) ?_
  refine lv_aload_n hx hb dX9_isPerson_3 rfl (lv_at hl 0 rfl) ?_
  refine va_get (D := (dC, dI)) (ci := 8) (v := .ref (a 18)) (C := RX9) (T := TX9) (N := 44) hx hb hts inlX9 hown hK hP 0 rfl rfl 18 (by decide) (hts (.fieldLink RX9 13 "ClosedUntilModel" "people" "[I") qw_212) (fun _ h9 => h9) rfl dX9_isPerson_4 ?_
  refine lv_iconst (v := 0) hx hb dX9_isPerson_7 (by decide) ?_
  refine va_iald hx hb hK hP 1 0 rfl rfl (vin0 (by decide)) dX9_isPerson_8 ?_
  refine cst (v := 0) (rfl) ?_
  refine lv_iconst (v := 1) hx hb dX9_isPerson_9 (by decide) ?_
  refine lv_isub hx hb dX9_isPerson_10 ?_
  refine cst (v := (-1)) (by decide) ?_
  refine lv_i2l hx hb dX9_isPerson_11 rfl ?_
  refine cstl (v := (-1)) (by decide) ?_
  have hPc := hP.sub (ws' := []) [] rfl
  have hKc := hK.sub (tys' := []) [] rfl
  refine vp_callSi ((va_runS (As := [.long (pa.toInt64), .long 0, .long (-1)]) (rest := []) ⟨hx, hb, hml, hown, hts⟩ (c_wi_out l dC dI g ((pa.toInt64)) (0) ((-1)) (pa.toInt) (0) ((-1)) (w_li rfl) (by decide) (by decide) (by omega)) (va_cwS 3 hts (gwS qw_47 qw_48 qw_23 qw_46) rfl rfl rfl (by decide +kernel) ⟨Nat.le_of_ble_eq_true rfl, Nat.le_of_ble_eq_true rfl⟩) ⟨fun a U g9 mk q => ⟨q.1, q.2.1, va_K.moved (u := U) (U := U.calling g9 mk a) (Vm.Alike.refl U.vm) q.2.2.1, Ev.bl q.2.2.2⟩, fun U hU hW => ⟨rfl, by rw [hU]; exact hPc, va_K.moved hW.alike hKc, hE.go hS (fun _ h => h.elim) hU hW⟩⟩ rfl rfl hl.1 rfl (lv_room (Nat.le_of_ble_eq_true rfl)) dX9_isPerson_12 ⟨Nat.le_of_ble_eq_true rfl, Nat.le_of_ble_eq_true rfl⟩)).run (fun r1 h_r1 => ?_)
  have h_r1 : r1 = 0 := h_r1
  subst h_r1
  exact W.zret (v := 0) hx hb hr rfl (fun t ht hW => ⟨0, rfl, (rfl), ht⟩) (fun _ h => absurd h List.not_mem_nil) dX9_isPerson_15
set_option maxHeartbeats 4000000 in
set_option maxRecDepth 100000 in
theorem c_9lays (l : Launch) (dC : Nat → ClassId) (dI : Nat → Nat → Nat) (g : Gv) (m0 : Nat) (a : Nat → Nat) (ca : Nat → ClassId)  : Met l yX9_laysEnds (.code yX9_laysEnds cX9_laysEnds 3 none :: TBL) ({ frames := 0, cells := 0, slots := 0, locals := 0 }) (va_Pc [.ref m0] (fun U => va_P (dC, dI) vwCl [(m0, .inr (8, [.int 0, .int 0, .int 0, .int 0, .ref (a 4), .int 0, .int 0, .int 0, .int 0, .int 0, .int 0, .long 0, .int 0, .int 0, .int 0, .int 0, .int 0, .int 0, .ref (a 18), .ref (a 19), .ref (a 20), .ref (a 21), .ref (a 22), .ref (a 23), .ref (a 24), .ref (a 25), .ref (a 26), .ref (a 27), .ref (a 28), .ref (a 29), .ref (a 30), .ref (a 31), .ref (a 32), .ref (a 33), .ref (a 34), .ref (a 35), .long 0, .int 0, .ref (a 38), .ref (a 39), .int 0, .ref (a 41), .ref (a 42), .ref (a 43)])), ((a 21), .inl ((ca 21), 2, .inl (fun _ => 0)))] U.heap ∧ va_K (dC, dI) vwCl [((ca 21), .int)] U ∧ Ev g (fun _ => False) U)) (va_Sv (fun _ => True)) 0 0 (fun _ => False) := by
  refine Met.ofW (cc := cX9_laysEnds) (maxL := 3) (ret := none) (by decide) rfl ?_
  intro p e s m args below meth c s₁ B hml hv
  obtain ⟨rfl, hP, hK, hE⟩ := hv
  have hx := B.exec
  have hb := B.bytes
  have hr := B.returns
  have hts0 := atoms_spec (ws := (.code yX9_laysEnds cX9_laysEnds 3 none :: TBL)) B.pre
  have hts := fun (w : Cond) (h : w ∈ TBL) => hts0 w (List.mem_cons_of_mem _ h)
  have hown : s.vm.findClass RX9 = some m.cls := findClass_of_methodNamed B.named
  have hlocks := B.notSynchronized
  have hN := hE.1
  have hS : va_S (fun _ => False) s.heap s.heap [] := va_S.rf
  have hP : va_P (dC, dI) vwCl [(m0, .inr (8, [.int 0, .int 0, .int 0, .int 0, .ref (a 4), .int 0, .int 0, .int 0, .int 0, .int 0, .int 0, .long 0, .int 0, .int 0, .int 0, .int 0, .int 0, .int 0, .ref (a 18), .ref (a 19), .ref (a 20), .ref (a 21), .ref (a 22), .ref (a 23), .ref (a 24), .ref (a 25), .ref (a 26), .ref (a 27), .ref (a 28), .ref (a 29), .ref (a 30), .ref (a 31), .ref (a 32), .ref (a 33), .ref (a 34), .ref (a 35), .long 0, .int 0, .ref (a 38), .ref (a 39), .int 0, .ref (a 41), .ref (a 42), .ref (a 43)])), ((a 21), .inl ((ca 21), 2, .inl (fun _ => 0)))] s.heap := hP
  have hl := lv_entry ([.ref m0]) (n := 3) (Nat.le_of_ble_eq_true rfl)
  rw [lg_entry_eq]
  generalize (lg_sl ([.ref m0]) ++ List.replicate (3 - (lg_sl ([.ref m0])).length) Slot.unset).toArray = ls at hl ⊢
  have hl : lv_has ls 3 [(0, .ref m0)] := hl
  refine lv_iconst (v := 0) hx hb dX9_laysEnds_0 (by decide) ?_
  refine lv_istore_n (lv' := [(1, .int 0), (0, .ref m0)]) hx hb dX9_laysEnds_1 rfl hl (by decide) rfl (fun ls hl => ?_)
  refine lv_iload_n hx hb dX9_laysEnds_2 rfl (lv_at hl 0 rfl) ?_
  refine lv_aload_n hx hb dX9_laysEnds_3 rfl (lv_at hl 1 rfl) ?_
  refine va_get (D := (dC, dI)) (ci := 8) (v := .ref (a 21)) (C := RX9) (T := TX9) (N := 44) hx hb hts inlX9 hown hK hP 0 rfl rfl 21 (by decide) (hts (.fieldLink RX9 23 "ClosedUntilModel" "closures" "[I") qw_215) (fun _ h9 => h9) rfl dX9_laysEnds_4 ?_
  refine lv_iconst (v := 0) hx hb dX9_laysEnds_7 (by decide) ?_
  refine va_iald hx hb hK hP 1 0 rfl rfl (vin0 (by decide)) dX9_laysEnds_8 ?_
  refine cst (v := 0) (rfl) ?_
  refine lv_icmp_ge (tgt := 53) hx hb dX9_laysEnds_9 (by decide) (fun c9_1 => ?_) (fun c9_1 => by exfalso; exact absurd c9_1 (by decide))
  exact W.vret hx hb hr (fun t ht hW => ⟨rfl, trivial, ht⟩) (fun _ h => absurd h List.not_mem_nil) dX9_laysEnds_53
set_option maxHeartbeats 4000000 in
set_option maxRecDepth 100000 in
theorem c_9lays1 (l : Launch) (dC : Nat → ClassId) (dI : Nat → Nat → Nat) (g : Gv) (m0 : Nat) (a : Nat → Nat) (ca : Nat → ClassId)  : Met l yX9_laysEnds (.code yX9_laysEnds cX9_laysEnds 3 none :: TBL) ({ frames := 0, cells := 0, slots := 0, locals := 0 }) (va_Pc [.ref m0] (fun U => va_P (dC, dI) vwCl [(m0, .inr (8, [.int 1, .int 0, .int 0, .int 0, .ref (a 4), .int 0, .int 0, .int 0, .int 0, .int 0, .int 0, .long 0, .int 0, .int 0, .int 0, .int 0, .int 0, .int 0, .ref (a 18), .ref (a 19), .ref (a 20), .ref (a 21), .ref (a 22), .ref (a 23), .ref (a 24), .ref (a 25), .ref (a 26), .ref (a 27), .ref (a 28), .ref (a 29), .ref (a 30), .ref (a 31), .ref (a 32), .ref (a 33), .ref (a 34), .ref (a 35), .long 0, .int 0, .ref (a 38), .ref (a 39), .int 0, .ref (a 41), .ref (a 42), .ref (a 43)])), ((a 21), .inl ((ca 21), 2, .inl (fun _ => 0)))] U.heap ∧ va_K (dC, dI) vwCl [((ca 21), .int)] U ∧ Ev g (fun _ => False) U)) (va_Sv (fun _ => True)) 0 0 (fun _ => False) := by
  refine Met.ofW (cc := cX9_laysEnds) (maxL := 3) (ret := none) (by decide) rfl ?_
  intro p e s m args below meth c s₁ B hml hv
  obtain ⟨rfl, hP, hK, hE⟩ := hv
  have hx := B.exec
  have hb := B.bytes
  have hr := B.returns
  have hts0 := atoms_spec (ws := (.code yX9_laysEnds cX9_laysEnds 3 none :: TBL)) B.pre
  have hts := fun (w : Cond) (h : w ∈ TBL) => hts0 w (List.mem_cons_of_mem _ h)
  have hown : s.vm.findClass RX9 = some m.cls := findClass_of_methodNamed B.named
  have hlocks := B.notSynchronized
  have hN := hE.1
  have hS : va_S (fun _ => False) s.heap s.heap [] := va_S.rf
  have hP : va_P (dC, dI) vwCl [(m0, .inr (8, [.int 1, .int 0, .int 0, .int 0, .ref (a 4), .int 0, .int 0, .int 0, .int 0, .int 0, .int 0, .long 0, .int 0, .int 0, .int 0, .int 0, .int 0, .int 0, .ref (a 18), .ref (a 19), .ref (a 20), .ref (a 21), .ref (a 22), .ref (a 23), .ref (a 24), .ref (a 25), .ref (a 26), .ref (a 27), .ref (a 28), .ref (a 29), .ref (a 30), .ref (a 31), .ref (a 32), .ref (a 33), .ref (a 34), .ref (a 35), .long 0, .int 0, .ref (a 38), .ref (a 39), .int 0, .ref (a 41), .ref (a 42), .ref (a 43)])), ((a 21), .inl ((ca 21), 2, .inl (fun _ => 0)))] s.heap := hP
  have hl := lv_entry ([.ref m0]) (n := 3) (Nat.le_of_ble_eq_true rfl)
  rw [lg_entry_eq]
  generalize (lg_sl ([.ref m0]) ++ List.replicate (3 - (lg_sl ([.ref m0])).length) Slot.unset).toArray = ls at hl ⊢
  have hl : lv_has ls 3 [(0, .ref m0)] := hl
  refine lv_iconst (v := 0) hx hb dX9_laysEnds_0 (by decide) ?_
  refine lv_istore_n (lv' := [(1, .int 0), (0, .ref m0)]) hx hb dX9_laysEnds_1 rfl hl (by decide) rfl (fun ls hl => ?_)
  refine lv_iload_n hx hb dX9_laysEnds_2 rfl (lv_at hl 0 rfl) ?_
  refine lv_aload_n hx hb dX9_laysEnds_3 rfl (lv_at hl 1 rfl) ?_
  refine va_get (D := (dC, dI)) (ci := 8) (v := .ref (a 21)) (C := RX9) (T := TX9) (N := 44) hx hb hts inlX9 hown hK hP 0 rfl rfl 21 (by decide) (hts (.fieldLink RX9 23 "ClosedUntilModel" "closures" "[I") qw_215) (fun _ h9 => h9) rfl dX9_laysEnds_4 ?_
  refine lv_iconst (v := 0) hx hb dX9_laysEnds_7 (by decide) ?_
  refine va_iald hx hb hK hP 1 0 rfl rfl (vin0 (by decide)) dX9_laysEnds_8 ?_
  refine cst (v := 0) (rfl) ?_
  refine lv_icmp_ge (tgt := 53) hx hb dX9_laysEnds_9 (by decide) (fun c9_1 => ?_) (fun c9_1 => by exfalso; exact absurd c9_1 (by decide))
  exact W.vret hx hb hr (fun t ht hW => ⟨rfl, trivial, ht⟩) (fun _ h => absurd h List.not_mem_nil) dX9_laysEnds_53
set_option maxHeartbeats 4000000 in
set_option maxRecDepth 100000 in
theorem c_9piece (l : Launch) (dC : Nat → ClassId) (dI : Nat → Nat → Nat) (g : Gv) (sz : Nat) (m0 : Nat) (a : Nat → Nat) (ca : Nat → ClassId) (pa : Int32) (pb : Int32)  : Met l yX9_piece (.code yX9_piece cX9_piece 3 (some .int) :: TBL) ({ frames := 3, cells := 0, slots := 0, locals := 180 }) (va_Pc [.ref m0, .int pa, .int pb] (fun U => U.heap.size = sz ∧ va_P (dC, dI) vwCl [(m0, .inr (8, [.int 0, .int 0, .int 0, .int 0, .ref (a 4), .int 0, .int 0, .int 0, .int 0, .int 0, .int 0, .long 0, .int 0, .int 0, .int 0, .int 0, .int 0, .int 0, .ref (a 18), .ref (a 19), .ref (a 20), .ref (a 21), .ref (a 22), .ref (a 23), .ref (a 24), .ref (a 25), .ref (a 26), .ref (a 27), .ref (a 28), .ref (a 29), .ref (a 30), .ref (a 31), .ref (a 32), .ref (a 33), .ref (a 34), .ref (a 35), .long 0, .int 0, .ref (a 38), .ref (a 39), .int 0, .ref (a 41), .ref (a 42), .ref (a 43)])), ((a 20), .inl ((ca 20), 2, .inl (fun _ => 0)))] U.heap ∧ va_K (dC, dI) vwCl [((ca 20), .int)] U ∧ va_D (fun _ => True) [(m0, .inr (8, [.int 0, .int 0, .int 0, .int 0, .ref (a 4), .int 0, .int 0, .int 0, .int 0, .int 0, .int 0, .long 0, .int 0, .int 0, .int 0, .int 0, .int 0, .int 0, .ref (a 18), .ref (a 19), .ref (a 20), .ref (a 21), .ref (a 22), .ref (a 23), .ref (a 24), .ref (a 25), .ref (a 26), .ref (a 27), .ref (a 28), .ref (a 29), .ref (a 30), .ref (a 31), .ref (a 32), .ref (a 33), .ref (a 34), .ref (a 35), .long 0, .int 0, .ref (a 38), .ref (a 39), .int 0, .ref (a 41), .ref (a 42), .ref (a 43)])), ((a 20), .inl ((ca 20), 2, .inl (fun _ => 0)))] ∧ Ev g (va_A [(m0, .inr (8, [.int 0, .int 0, .int 0, .int 0, .ref (a 4), .int 0, .int 0, .int 0, .int 0, .int 0, .int 0, .long 0, .int 0, .int 0, .int 0, .int 0, .int 0, .int 0, .ref (a 18), .ref (a 19), .ref (a 20), .ref (a 21), .ref (a 22), .ref (a 23), .ref (a 24), .ref (a 25), .ref (a 26), .ref (a 27), .ref (a 28), .ref (a 29), .ref (a 30), .ref (a 31), .ref (a 32), .ref (a 33), .ref (a 34), .ref (a 35), .long 0, .int 0, .ref (a 38), .ref (a 39), .int 0, .ref (a 41), .ref (a 42), .ref (a 43)])), ((a 20), .inl ((ca 20), 2, .inl (fun _ => 0)))] sz) U)) (va_Qi (fun (r : Int32) (u : Unit) => r = (-2)) (fun (_ : Unit) (_ : State) => True) (va_A [(m0, .inr (8, [.int 0, .int 0, .int 0, .int 0, .ref (a 4), .int 0, .int 0, .int 0, .int 0, .int 0, .int 0, .long 0, .int 0, .int 0, .int 0, .int 0, .int 0, .int 0, .ref (a 18), .ref (a 19), .ref (a 20), .ref (a 21), .ref (a 22), .ref (a 23), .ref (a 24), .ref (a 25), .ref (a 26), .ref (a 27), .ref (a 28), .ref (a 29), .ref (a 30), .ref (a 31), .ref (a 32), .ref (a 33), .ref (a 34), .ref (a 35), .long 0, .int 0, .ref (a 38), .ref (a 39), .int 0, .ref (a 41), .ref (a 42), .ref (a 43)])), ((a 20), .inl ((ca 20), 2, .inl (fun _ => 0)))] sz)) 0 0 (va_A [(m0, .inr (8, [.int 0, .int 0, .int 0, .int 0, .ref (a 4), .int 0, .int 0, .int 0, .int 0, .int 0, .int 0, .long 0, .int 0, .int 0, .int 0, .int 0, .int 0, .int 0, .ref (a 18), .ref (a 19), .ref (a 20), .ref (a 21), .ref (a 22), .ref (a 23), .ref (a 24), .ref (a 25), .ref (a 26), .ref (a 27), .ref (a 28), .ref (a 29), .ref (a 30), .ref (a 31), .ref (a 32), .ref (a 33), .ref (a 34), .ref (a 35), .long 0, .int 0, .ref (a 38), .ref (a 39), .int 0, .ref (a 41), .ref (a 42), .ref (a 43)])), ((a 20), .inl ((ca 20), 2, .inl (fun _ => 0)))] sz) := by
  refine Met.ofW (cc := cX9_piece) (maxL := 3) (ret := (some .int)) (by decide) rfl ?_
  intro p e s m args below meth c s₁ B hml hv
  obtain ⟨rfl, hsz, hP, hK, hD0, hE⟩ := hv
  have hx := B.exec
  have hb := B.bytes
  have hr := B.returns
  have hts0 := atoms_spec (ws := (.code yX9_piece cX9_piece 3 (some .int) :: TBL)) B.pre
  have hts := fun (w : Cond) (h : w ∈ TBL) => hts0 w (List.mem_cons_of_mem _ h)
  have hown : s.vm.findClass RX9 = some m.cls := findClass_of_methodNamed B.named
  have hlocks := B.notSynchronized
  have hN := hE.1
  subst hsz
  have hD := hD0.self (sz := s.heap.size)
  generalize hAe : va_A [(m0, .inr (8, [.int 0, .int 0, .int 0, .int 0, .ref (a 4), .int 0, .int 0, .int 0, .int 0, .int 0, .int 0, .long 0, .int 0, .int 0, .int 0, .int 0, .int 0, .int 0, .ref (a 18), .ref (a 19), .ref (a 20), .ref (a 21), .ref (a 22), .ref (a 23), .ref (a 24), .ref (a 25), .ref (a 26), .ref (a 27), .ref (a 28), .ref (a 29), .ref (a 30), .ref (a 31), .ref (a 32), .ref (a 33), .ref (a 34), .ref (a 35), .long 0, .int 0, .ref (a 38), .ref (a 39), .int 0, .ref (a 41), .ref (a 42), .ref (a 43)])), ((a 20), .inl ((ca 20), 2, .inl (fun _ => 0)))] s.heap.size = A at hD hE ⊢
  have hA : ∀ q : Nat, s.heap.size ≤ q → A q := fun q h => by rw [← hAe]; exact Or.inr h
  have hS : va_S A s.heap s.heap [] := va_S.rf
  have hP : va_P (dC, dI) vwCl [(m0, .inr (8, [.int 0, .int 0, .int 0, .int 0, .ref (a 4), .int 0, .int 0, .int 0, .int 0, .int 0, .int 0, .long 0, .int 0, .int 0, .int 0, .int 0, .int 0, .int 0, .ref (a 18), .ref (a 19), .ref (a 20), .ref (a 21), .ref (a 22), .ref (a 23), .ref (a 24), .ref (a 25), .ref (a 26), .ref (a 27), .ref (a 28), .ref (a 29), .ref (a 30), .ref (a 31), .ref (a 32), .ref (a 33), .ref (a 34), .ref (a 35), .long 0, .int 0, .ref (a 38), .ref (a 39), .int 0, .ref (a 41), .ref (a 42), .ref (a 43)])), ((a 20), .inl ((ca 20), 2, .inl (fun _ => 0)))] s.heap := hP
  have hl := lv_entry ([.ref m0, .int pa, .int pb]) (n := 3) (Nat.le_of_ble_eq_true rfl)
  rw [lg_entry_eq]
  generalize (lg_sl ([.ref m0, .int pa, .int pb]) ++ List.replicate (3 - (lg_sl ([.ref m0, .int pa, .int pb])).length) Slot.unset).toArray = ls at hl ⊢
  have hl : lv_has ls 3 [(0, .ref m0), (1, .int pa), (2, .int pb)] := hl
  refine lv_aload_n hx hb dX9_piece_0 rfl (lv_at hl 0 rfl) ?_
  refine lv_iconst (v := 0) hx hb dX9_piece_1 (by decide) ?_
  refine va_put (D := (dC, dI)) (ci := 8) (v := .int 0) (ty := .int) (C := RX9) (T := TX9) (N := 44) hx hb hts inlX9 tyX9 tyX9_ok nmX9 hown hK hP hD hS 0 rfl rfl 0 (by decide) (hts (.fieldLink RX9 85 "ClosedUntilModel" "thrown" "I") qw_43) (fun _ h9 => h9) rfl (by decide +kernel) rfl rfl (Nat.le_of_ble_eq_true rfl) dX9_piece_2 (fun H locs hP hD hS => ?_)
  have hP : va_P (dC, dI) vwCl [(m0, .inr (8, [.int 0, .int 0, .int 0, .int 0, .ref (a 4), .int 0, .int 0, .int 0, .int 0, .int 0, .int 0, .long 0, .int 0, .int 0, .int 0, .int 0, .int 0, .int 0, .ref (a 18), .ref (a 19), .ref (a 20), .ref (a 21), .ref (a 22), .ref (a 23), .ref (a 24), .ref (a 25), .ref (a 26), .ref (a 27), .ref (a 28), .ref (a 29), .ref (a 30), .ref (a 31), .ref (a 32), .ref (a 33), .ref (a 34), .ref (a 35), .long 0, .int 0, .ref (a 38), .ref (a 39), .int 0, .ref (a 41), .ref (a 42), .ref (a 43)])), ((a 20), .inl ((ca 20), 2, .inl (fun _ => 0)))] H := hP
  have hD : va_D A [(m0, .inr (8, [.int 0, .int 0, .int 0, .int 0, .ref (a 4), .int 0, .int 0, .int 0, .int 0, .int 0, .int 0, .long 0, .int 0, .int 0, .int 0, .int 0, .int 0, .int 0, .ref (a 18), .ref (a 19), .ref (a 20), .ref (a 21), .ref (a 22), .ref (a 23), .ref (a 24), .ref (a 25), .ref (a 26), .ref (a 27), .ref (a 28), .ref (a 29), .ref (a 30), .ref (a 31), .ref (a 32), .ref (a 33), .ref (a 34), .ref (a 35), .long 0, .int 0, .ref (a 38), .ref (a 39), .int 0, .ref (a 41), .ref (a 42), .ref (a 43)])), ((a 20), .inl ((ca 20), 2, .inl (fun _ => 0)))] := hD
  refine lv_aload_n hx hb dX9_piece_5 rfl (lv_at hl 0 rfl) ?_
  refine lv_iload_n hx hb dX9_piece_6 rfl (lv_at hl 1 rfl) ?_
  have hPc := hP.sub (ws' := [(m0, .inr (8, [.int 0, .int 0, .int 0, .int 0, .ref (a 4), .int 0, .int 0, .int 0, .int 0, .int 0, .int 0, .long 0, .int 0, .int 0, .int 0, .int 0, .int 0, .int 0, .ref (a 18), .ref (a 19), .ref (a 20), .ref (a 21), .ref (a 22), .ref (a 23), .ref (a 24), .ref (a 25), .ref (a 26), .ref (a 27), .ref (a 28), .ref (a 29), .ref (a 30), .ref (a 31), .ref (a 32), .ref (a 33), .ref (a 34), .ref (a 35), .long 0, .int 0, .ref (a 38), .ref (a 39), .int 0, .ref (a 41), .ref (a 42), .ref (a 43)])), ((a 20), .inl ((ca 20), 2, .inl (fun _ => 0)))]) [0, 1] rfl
  have hKc := hK.sub (tys' := [((ca 20), .int)]) [0] rfl
  refine vp_callSi ((va_runV (As := [.int pa]) (rest := []) ⟨hx, hb, hml, hown, hts⟩ (c_9isPiece l dC dI g (m0) (a) (ca) (pa) ) (cwV 1 hts (gwV qw_326 qw_327 qw_328 qw_23 qw_325) rfl rfl rfl (by decide +kernel) ⟨Nat.le_of_ble_eq_true rfl, Nat.le_of_ble_eq_true rfl⟩) ⟨fun a U g9 mk q => ⟨q.1, q.2.1, va_K.moved (u := U) (U := U.calling g9 mk a) (Vm.Alike.refl U.vm) q.2.2.1, Ev.bl q.2.2.2⟩, va_recv hK hP (ci := 8) (q0 := 0) rfl rfl, fun U hU hW => ⟨rfl, by rw [hU]; exact hPc, va_K.moved hW.alike hKc, hE.go hS (fun _ h => h.elim) hU hW⟩⟩ rfl rfl hl.1 rfl (lv_room (Nat.le_of_ble_eq_true rfl)) dX9_piece_7 ⟨Nat.le_of_ble_eq_true rfl, Nat.le_of_ble_eq_true rfl⟩)).run (fun r1 h_r1 => ?_)
  have h_r1 : r1 = 0 := h_r1
  subst h_r1
  refine lv_if_ne (tgt := 16) hx hb dX9_piece_10 (by decide) (fun c10_2 => by exfalso; exact absurd c10_2 (by decide)) (fun c10_2 => ?_)
  refine lv_bipush (v := (-2)) hx hb dX9_piece_13 (by decide) ?_
  refine W.widen (k := 0) (n := 0) (Nat.le_of_ble_eq_true rfl) (Nat.le_of_ble_eq_true rfl) ?_
  exact W.iret (v := (-2)) hx hb hr (fun t ht hW => ⟨⟨(-2), (), rfl, (rfl), trivial⟩, hS.F ht⟩) hS.2.2 dX9_piece_15
set_option maxHeartbeats 4000000 in
set_option maxRecDepth 100000 in
theorem c_9person (l : Launch) (dC : Nat → ClassId) (dI : Nat → Nat → Nat) (g : Gv) (sz : Nat) (m0 : Nat) (a : Nat → Nat) (ca : Nat → ClassId) (pa : Int32) (pb : Int32)  : Met l yX9_person (.code yX9_person cX9_person 3 (some .int) :: TBL) ({ frames := 3, cells := 0, slots := 0, locals := 180 }) (va_Pc [.ref m0, .int pa, .int pb] (fun U => U.heap.size = sz ∧ va_P (dC, dI) vwCl [(m0, .inr (8, [.int 0, .int 0, .int 0, .int 0, .ref (a 4), .int 0, .int 0, .int 0, .int 0, .int 0, .int 0, .long 0, .int 0, .int 0, .int 0, .int 0, .int 0, .int 0, .ref (a 18), .ref (a 19), .ref (a 20), .ref (a 21), .ref (a 22), .ref (a 23), .ref (a 24), .ref (a 25), .ref (a 26), .ref (a 27), .ref (a 28), .ref (a 29), .ref (a 30), .ref (a 31), .ref (a 32), .ref (a 33), .ref (a 34), .ref (a 35), .long 0, .int 0, .ref (a 38), .ref (a 39), .int 0, .ref (a 41), .ref (a 42), .ref (a 43)])), ((a 18), .inl ((ca 18), 2, .inl (fun _ => 0)))] U.heap ∧ va_K (dC, dI) vwCl [((ca 18), .int)] U ∧ va_D (fun _ => True) [(m0, .inr (8, [.int 0, .int 0, .int 0, .int 0, .ref (a 4), .int 0, .int 0, .int 0, .int 0, .int 0, .int 0, .long 0, .int 0, .int 0, .int 0, .int 0, .int 0, .int 0, .ref (a 18), .ref (a 19), .ref (a 20), .ref (a 21), .ref (a 22), .ref (a 23), .ref (a 24), .ref (a 25), .ref (a 26), .ref (a 27), .ref (a 28), .ref (a 29), .ref (a 30), .ref (a 31), .ref (a 32), .ref (a 33), .ref (a 34), .ref (a 35), .long 0, .int 0, .ref (a 38), .ref (a 39), .int 0, .ref (a 41), .ref (a 42), .ref (a 43)])), ((a 18), .inl ((ca 18), 2, .inl (fun _ => 0)))] ∧ Ev g (va_A [(m0, .inr (8, [.int 0, .int 0, .int 0, .int 0, .ref (a 4), .int 0, .int 0, .int 0, .int 0, .int 0, .int 0, .long 0, .int 0, .int 0, .int 0, .int 0, .int 0, .int 0, .ref (a 18), .ref (a 19), .ref (a 20), .ref (a 21), .ref (a 22), .ref (a 23), .ref (a 24), .ref (a 25), .ref (a 26), .ref (a 27), .ref (a 28), .ref (a 29), .ref (a 30), .ref (a 31), .ref (a 32), .ref (a 33), .ref (a 34), .ref (a 35), .long 0, .int 0, .ref (a 38), .ref (a 39), .int 0, .ref (a 41), .ref (a 42), .ref (a 43)])), ((a 18), .inl ((ca 18), 2, .inl (fun _ => 0)))] sz) U)) (va_Qi (fun (r : Int32) (u : Unit) => r = (-2)) (fun (_ : Unit) (_ : State) => True) (va_A [(m0, .inr (8, [.int 0, .int 0, .int 0, .int 0, .ref (a 4), .int 0, .int 0, .int 0, .int 0, .int 0, .int 0, .long 0, .int 0, .int 0, .int 0, .int 0, .int 0, .int 0, .ref (a 18), .ref (a 19), .ref (a 20), .ref (a 21), .ref (a 22), .ref (a 23), .ref (a 24), .ref (a 25), .ref (a 26), .ref (a 27), .ref (a 28), .ref (a 29), .ref (a 30), .ref (a 31), .ref (a 32), .ref (a 33), .ref (a 34), .ref (a 35), .long 0, .int 0, .ref (a 38), .ref (a 39), .int 0, .ref (a 41), .ref (a 42), .ref (a 43)])), ((a 18), .inl ((ca 18), 2, .inl (fun _ => 0)))] sz)) 0 0 (va_A [(m0, .inr (8, [.int 0, .int 0, .int 0, .int 0, .ref (a 4), .int 0, .int 0, .int 0, .int 0, .int 0, .int 0, .long 0, .int 0, .int 0, .int 0, .int 0, .int 0, .int 0, .ref (a 18), .ref (a 19), .ref (a 20), .ref (a 21), .ref (a 22), .ref (a 23), .ref (a 24), .ref (a 25), .ref (a 26), .ref (a 27), .ref (a 28), .ref (a 29), .ref (a 30), .ref (a 31), .ref (a 32), .ref (a 33), .ref (a 34), .ref (a 35), .long 0, .int 0, .ref (a 38), .ref (a 39), .int 0, .ref (a 41), .ref (a 42), .ref (a 43)])), ((a 18), .inl ((ca 18), 2, .inl (fun _ => 0)))] sz) := by
  refine Met.ofW (cc := cX9_person) (maxL := 3) (ret := (some .int)) (by decide) rfl ?_
  intro p e s m args below meth c s₁ B hml hv
  obtain ⟨rfl, hsz, hP, hK, hD0, hE⟩ := hv
  have hx := B.exec
  have hb := B.bytes
  have hr := B.returns
  have hts0 := atoms_spec (ws := (.code yX9_person cX9_person 3 (some .int) :: TBL)) B.pre
  have hts := fun (w : Cond) (h : w ∈ TBL) => hts0 w (List.mem_cons_of_mem _ h)
  have hown : s.vm.findClass RX9 = some m.cls := findClass_of_methodNamed B.named
  have hlocks := B.notSynchronized
  have hN := hE.1
  subst hsz
  have hD := hD0.self (sz := s.heap.size)
  generalize hAe : va_A [(m0, .inr (8, [.int 0, .int 0, .int 0, .int 0, .ref (a 4), .int 0, .int 0, .int 0, .int 0, .int 0, .int 0, .long 0, .int 0, .int 0, .int 0, .int 0, .int 0, .int 0, .ref (a 18), .ref (a 19), .ref (a 20), .ref (a 21), .ref (a 22), .ref (a 23), .ref (a 24), .ref (a 25), .ref (a 26), .ref (a 27), .ref (a 28), .ref (a 29), .ref (a 30), .ref (a 31), .ref (a 32), .ref (a 33), .ref (a 34), .ref (a 35), .long 0, .int 0, .ref (a 38), .ref (a 39), .int 0, .ref (a 41), .ref (a 42), .ref (a 43)])), ((a 18), .inl ((ca 18), 2, .inl (fun _ => 0)))] s.heap.size = A at hD hE ⊢
  have hA : ∀ q : Nat, s.heap.size ≤ q → A q := fun q h => by rw [← hAe]; exact Or.inr h
  have hS : va_S A s.heap s.heap [] := va_S.rf
  have hP : va_P (dC, dI) vwCl [(m0, .inr (8, [.int 0, .int 0, .int 0, .int 0, .ref (a 4), .int 0, .int 0, .int 0, .int 0, .int 0, .int 0, .long 0, .int 0, .int 0, .int 0, .int 0, .int 0, .int 0, .ref (a 18), .ref (a 19), .ref (a 20), .ref (a 21), .ref (a 22), .ref (a 23), .ref (a 24), .ref (a 25), .ref (a 26), .ref (a 27), .ref (a 28), .ref (a 29), .ref (a 30), .ref (a 31), .ref (a 32), .ref (a 33), .ref (a 34), .ref (a 35), .long 0, .int 0, .ref (a 38), .ref (a 39), .int 0, .ref (a 41), .ref (a 42), .ref (a 43)])), ((a 18), .inl ((ca 18), 2, .inl (fun _ => 0)))] s.heap := hP
  have hl := lv_entry ([.ref m0, .int pa, .int pb]) (n := 3) (Nat.le_of_ble_eq_true rfl)
  rw [lg_entry_eq]
  generalize (lg_sl ([.ref m0, .int pa, .int pb]) ++ List.replicate (3 - (lg_sl ([.ref m0, .int pa, .int pb])).length) Slot.unset).toArray = ls at hl ⊢
  have hl : lv_has ls 3 [(0, .ref m0), (1, .int pa), (2, .int pb)] := hl
  refine lv_aload_n hx hb dX9_person_0 rfl (lv_at hl 0 rfl) ?_
  refine lv_iconst (v := 0) hx hb dX9_person_1 (by decide) ?_
  refine va_put (D := (dC, dI)) (ci := 8) (v := .int 0) (ty := .int) (C := RX9) (T := TX9) (N := 44) hx hb hts inlX9 tyX9 tyX9_ok nmX9 hown hK hP hD hS 0 rfl rfl 0 (by decide) (hts (.fieldLink RX9 85 "ClosedUntilModel" "thrown" "I") qw_43) (fun _ h9 => h9) rfl (by decide +kernel) rfl rfl (Nat.le_of_ble_eq_true rfl) dX9_person_2 (fun H locs hP hD hS => ?_)
  have hP : va_P (dC, dI) vwCl [(m0, .inr (8, [.int 0, .int 0, .int 0, .int 0, .ref (a 4), .int 0, .int 0, .int 0, .int 0, .int 0, .int 0, .long 0, .int 0, .int 0, .int 0, .int 0, .int 0, .int 0, .ref (a 18), .ref (a 19), .ref (a 20), .ref (a 21), .ref (a 22), .ref (a 23), .ref (a 24), .ref (a 25), .ref (a 26), .ref (a 27), .ref (a 28), .ref (a 29), .ref (a 30), .ref (a 31), .ref (a 32), .ref (a 33), .ref (a 34), .ref (a 35), .long 0, .int 0, .ref (a 38), .ref (a 39), .int 0, .ref (a 41), .ref (a 42), .ref (a 43)])), ((a 18), .inl ((ca 18), 2, .inl (fun _ => 0)))] H := hP
  have hD : va_D A [(m0, .inr (8, [.int 0, .int 0, .int 0, .int 0, .ref (a 4), .int 0, .int 0, .int 0, .int 0, .int 0, .int 0, .long 0, .int 0, .int 0, .int 0, .int 0, .int 0, .int 0, .ref (a 18), .ref (a 19), .ref (a 20), .ref (a 21), .ref (a 22), .ref (a 23), .ref (a 24), .ref (a 25), .ref (a 26), .ref (a 27), .ref (a 28), .ref (a 29), .ref (a 30), .ref (a 31), .ref (a 32), .ref (a 33), .ref (a 34), .ref (a 35), .long 0, .int 0, .ref (a 38), .ref (a 39), .int 0, .ref (a 41), .ref (a 42), .ref (a 43)])), ((a 18), .inl ((ca 18), 2, .inl (fun _ => 0)))] := hD
  refine lv_aload_n hx hb dX9_person_5 rfl (lv_at hl 0 rfl) ?_
  refine lv_iload_n hx hb dX9_person_6 rfl (lv_at hl 1 rfl) ?_
  have hPc := hP.sub (ws' := [(m0, .inr (8, [.int 0, .int 0, .int 0, .int 0, .ref (a 4), .int 0, .int 0, .int 0, .int 0, .int 0, .int 0, .long 0, .int 0, .int 0, .int 0, .int 0, .int 0, .int 0, .ref (a 18), .ref (a 19), .ref (a 20), .ref (a 21), .ref (a 22), .ref (a 23), .ref (a 24), .ref (a 25), .ref (a 26), .ref (a 27), .ref (a 28), .ref (a 29), .ref (a 30), .ref (a 31), .ref (a 32), .ref (a 33), .ref (a 34), .ref (a 35), .long 0, .int 0, .ref (a 38), .ref (a 39), .int 0, .ref (a 41), .ref (a 42), .ref (a 43)])), ((a 18), .inl ((ca 18), 2, .inl (fun _ => 0)))]) [0, 1] rfl
  have hKc := hK.sub (tys' := [((ca 18), .int)]) [0] rfl
  refine vp_callSi ((va_runV (As := [.int pa]) (rest := []) ⟨hx, hb, hml, hown, hts⟩ (c_9isPerson l dC dI g (m0) (a) (ca) (pa) ) (cwV 1 hts (gwV qw_330 qw_331 qw_332 qw_23 qw_329) rfl rfl rfl (by decide +kernel) ⟨Nat.le_of_ble_eq_true rfl, Nat.le_of_ble_eq_true rfl⟩) ⟨fun a U g9 mk q => ⟨q.1, q.2.1, va_K.moved (u := U) (U := U.calling g9 mk a) (Vm.Alike.refl U.vm) q.2.2.1, Ev.bl q.2.2.2⟩, va_recv hK hP (ci := 8) (q0 := 0) rfl rfl, fun U hU hW => ⟨rfl, by rw [hU]; exact hPc, va_K.moved hW.alike hKc, hE.go hS (fun _ h => h.elim) hU hW⟩⟩ rfl rfl hl.1 rfl (lv_room (Nat.le_of_ble_eq_true rfl)) dX9_person_7 ⟨Nat.le_of_ble_eq_true rfl, Nat.le_of_ble_eq_true rfl⟩)).run (fun r1 h_r1 => ?_)
  have h_r1 : r1 = 0 := h_r1
  subst h_r1
  refine lv_if_ne (tgt := 16) hx hb dX9_person_10 (by decide) (fun c10_2 => by exfalso; exact absurd c10_2 (by decide)) (fun c10_2 => ?_)
  refine lv_bipush (v := (-2)) hx hb dX9_person_13 (by decide) ?_
  refine W.widen (k := 0) (n := 0) (Nat.le_of_ble_eq_true rfl) (Nat.le_of_ble_eq_true rfl) ?_
  exact W.iret (v := (-2)) hx hb hr (fun t ht hW => ⟨⟨(-2), (), rfl, (rfl), trivial⟩, hS.F ht⟩) hS.2.2 dX9_person_15
set_option maxHeartbeats 4000000 in
set_option maxRecDepth 100000 in
theorem c_9closure (l : Launch) (dC : Nat → ClassId) (dI : Nat → Nat → Nat) (g : Gv) (sz : Nat) (m0 : Nat) (a : Nat → Nat) (ca : Nat → ClassId) (pa : Int32) (pb : Int32)  : Met l yX9_closure (.code yX9_closure cX9_closure 3 (some .int) :: TBL) ({ frames := 3, cells := 0, slots := 0, locals := 180 }) (va_Pc [.ref m0, .int pa, .int pb] (fun U => U.heap.size = sz ∧ va_P (dC, dI) vwCl [(m0, .inr (8, [.int 0, .int 0, .int 0, .int 0, .ref (a 4), .int 0, .int 0, .int 0, .int 0, .int 0, .int 0, .long 0, .int 0, .int 0, .int 0, .int 0, .int 0, .int 0, .ref (a 18), .ref (a 19), .ref (a 20), .ref (a 21), .ref (a 22), .ref (a 23), .ref (a 24), .ref (a 25), .ref (a 26), .ref (a 27), .ref (a 28), .ref (a 29), .ref (a 30), .ref (a 31), .ref (a 32), .ref (a 33), .ref (a 34), .ref (a 35), .long 0, .int 0, .ref (a 38), .ref (a 39), .int 0, .ref (a 41), .ref (a 42), .ref (a 43)])), ((a 21), .inl ((ca 21), 2, .inl (fun _ => 0)))] U.heap ∧ va_K (dC, dI) vwCl [((ca 21), .int)] U ∧ va_D (fun _ => True) [(m0, .inr (8, [.int 0, .int 0, .int 0, .int 0, .ref (a 4), .int 0, .int 0, .int 0, .int 0, .int 0, .int 0, .long 0, .int 0, .int 0, .int 0, .int 0, .int 0, .int 0, .ref (a 18), .ref (a 19), .ref (a 20), .ref (a 21), .ref (a 22), .ref (a 23), .ref (a 24), .ref (a 25), .ref (a 26), .ref (a 27), .ref (a 28), .ref (a 29), .ref (a 30), .ref (a 31), .ref (a 32), .ref (a 33), .ref (a 34), .ref (a 35), .long 0, .int 0, .ref (a 38), .ref (a 39), .int 0, .ref (a 41), .ref (a 42), .ref (a 43)])), ((a 21), .inl ((ca 21), 2, .inl (fun _ => 0)))] ∧ Ev g (va_A [(m0, .inr (8, [.int 0, .int 0, .int 0, .int 0, .ref (a 4), .int 0, .int 0, .int 0, .int 0, .int 0, .int 0, .long 0, .int 0, .int 0, .int 0, .int 0, .int 0, .int 0, .ref (a 18), .ref (a 19), .ref (a 20), .ref (a 21), .ref (a 22), .ref (a 23), .ref (a 24), .ref (a 25), .ref (a 26), .ref (a 27), .ref (a 28), .ref (a 29), .ref (a 30), .ref (a 31), .ref (a 32), .ref (a 33), .ref (a 34), .ref (a 35), .long 0, .int 0, .ref (a 38), .ref (a 39), .int 0, .ref (a 41), .ref (a 42), .ref (a 43)])), ((a 21), .inl ((ca 21), 2, .inl (fun _ => 0)))] sz) U)) (va_Qi (fun (r : Int32) (u : Unit) => r = (-2)) (fun (_ : Unit) (_ : State) => True) (va_A [(m0, .inr (8, [.int 0, .int 0, .int 0, .int 0, .ref (a 4), .int 0, .int 0, .int 0, .int 0, .int 0, .int 0, .long 0, .int 0, .int 0, .int 0, .int 0, .int 0, .int 0, .ref (a 18), .ref (a 19), .ref (a 20), .ref (a 21), .ref (a 22), .ref (a 23), .ref (a 24), .ref (a 25), .ref (a 26), .ref (a 27), .ref (a 28), .ref (a 29), .ref (a 30), .ref (a 31), .ref (a 32), .ref (a 33), .ref (a 34), .ref (a 35), .long 0, .int 0, .ref (a 38), .ref (a 39), .int 0, .ref (a 41), .ref (a 42), .ref (a 43)])), ((a 21), .inl ((ca 21), 2, .inl (fun _ => 0)))] sz)) 0 0 (va_A [(m0, .inr (8, [.int 0, .int 0, .int 0, .int 0, .ref (a 4), .int 0, .int 0, .int 0, .int 0, .int 0, .int 0, .long 0, .int 0, .int 0, .int 0, .int 0, .int 0, .int 0, .ref (a 18), .ref (a 19), .ref (a 20), .ref (a 21), .ref (a 22), .ref (a 23), .ref (a 24), .ref (a 25), .ref (a 26), .ref (a 27), .ref (a 28), .ref (a 29), .ref (a 30), .ref (a 31), .ref (a 32), .ref (a 33), .ref (a 34), .ref (a 35), .long 0, .int 0, .ref (a 38), .ref (a 39), .int 0, .ref (a 41), .ref (a 42), .ref (a 43)])), ((a 21), .inl ((ca 21), 2, .inl (fun _ => 0)))] sz) := by
  refine Met.ofW (cc := cX9_closure) (maxL := 3) (ret := (some .int)) (by decide) rfl ?_
  intro p e s m args below meth c s₁ B hml hv
  obtain ⟨rfl, hsz, hP, hK, hD0, hE⟩ := hv
  have hx := B.exec
  have hb := B.bytes
  have hr := B.returns
  have hts0 := atoms_spec (ws := (.code yX9_closure cX9_closure 3 (some .int) :: TBL)) B.pre
  have hts := fun (w : Cond) (h : w ∈ TBL) => hts0 w (List.mem_cons_of_mem _ h)
  have hown : s.vm.findClass RX9 = some m.cls := findClass_of_methodNamed B.named
  have hlocks := B.notSynchronized
  have hN := hE.1
  subst hsz
  have hD := hD0.self (sz := s.heap.size)
  generalize hAe : va_A [(m0, .inr (8, [.int 0, .int 0, .int 0, .int 0, .ref (a 4), .int 0, .int 0, .int 0, .int 0, .int 0, .int 0, .long 0, .int 0, .int 0, .int 0, .int 0, .int 0, .int 0, .ref (a 18), .ref (a 19), .ref (a 20), .ref (a 21), .ref (a 22), .ref (a 23), .ref (a 24), .ref (a 25), .ref (a 26), .ref (a 27), .ref (a 28), .ref (a 29), .ref (a 30), .ref (a 31), .ref (a 32), .ref (a 33), .ref (a 34), .ref (a 35), .long 0, .int 0, .ref (a 38), .ref (a 39), .int 0, .ref (a 41), .ref (a 42), .ref (a 43)])), ((a 21), .inl ((ca 21), 2, .inl (fun _ => 0)))] s.heap.size = A at hD hE ⊢
  have hA : ∀ q : Nat, s.heap.size ≤ q → A q := fun q h => by rw [← hAe]; exact Or.inr h
  have hS : va_S A s.heap s.heap [] := va_S.rf
  have hP : va_P (dC, dI) vwCl [(m0, .inr (8, [.int 0, .int 0, .int 0, .int 0, .ref (a 4), .int 0, .int 0, .int 0, .int 0, .int 0, .int 0, .long 0, .int 0, .int 0, .int 0, .int 0, .int 0, .int 0, .ref (a 18), .ref (a 19), .ref (a 20), .ref (a 21), .ref (a 22), .ref (a 23), .ref (a 24), .ref (a 25), .ref (a 26), .ref (a 27), .ref (a 28), .ref (a 29), .ref (a 30), .ref (a 31), .ref (a 32), .ref (a 33), .ref (a 34), .ref (a 35), .long 0, .int 0, .ref (a 38), .ref (a 39), .int 0, .ref (a 41), .ref (a 42), .ref (a 43)])), ((a 21), .inl ((ca 21), 2, .inl (fun _ => 0)))] s.heap := hP
  have hl := lv_entry ([.ref m0, .int pa, .int pb]) (n := 3) (Nat.le_of_ble_eq_true rfl)
  rw [lg_entry_eq]
  generalize (lg_sl ([.ref m0, .int pa, .int pb]) ++ List.replicate (3 - (lg_sl ([.ref m0, .int pa, .int pb])).length) Slot.unset).toArray = ls at hl ⊢
  have hl : lv_has ls 3 [(0, .ref m0), (1, .int pa), (2, .int pb)] := hl
  refine lv_aload_n hx hb dX9_closure_0 rfl (lv_at hl 0 rfl) ?_
  refine lv_iconst (v := 0) hx hb dX9_closure_1 (by decide) ?_
  refine va_put (D := (dC, dI)) (ci := 8) (v := .int 0) (ty := .int) (C := RX9) (T := TX9) (N := 44) hx hb hts inlX9 tyX9 tyX9_ok nmX9 hown hK hP hD hS 0 rfl rfl 0 (by decide) (hts (.fieldLink RX9 85 "ClosedUntilModel" "thrown" "I") qw_43) (fun _ h9 => h9) rfl (by decide +kernel) rfl rfl (Nat.le_of_ble_eq_true rfl) dX9_closure_2 (fun H locs hP hD hS => ?_)
  have hP : va_P (dC, dI) vwCl [(m0, .inr (8, [.int 0, .int 0, .int 0, .int 0, .ref (a 4), .int 0, .int 0, .int 0, .int 0, .int 0, .int 0, .long 0, .int 0, .int 0, .int 0, .int 0, .int 0, .int 0, .ref (a 18), .ref (a 19), .ref (a 20), .ref (a 21), .ref (a 22), .ref (a 23), .ref (a 24), .ref (a 25), .ref (a 26), .ref (a 27), .ref (a 28), .ref (a 29), .ref (a 30), .ref (a 31), .ref (a 32), .ref (a 33), .ref (a 34), .ref (a 35), .long 0, .int 0, .ref (a 38), .ref (a 39), .int 0, .ref (a 41), .ref (a 42), .ref (a 43)])), ((a 21), .inl ((ca 21), 2, .inl (fun _ => 0)))] H := hP
  have hD : va_D A [(m0, .inr (8, [.int 0, .int 0, .int 0, .int 0, .ref (a 4), .int 0, .int 0, .int 0, .int 0, .int 0, .int 0, .long 0, .int 0, .int 0, .int 0, .int 0, .int 0, .int 0, .ref (a 18), .ref (a 19), .ref (a 20), .ref (a 21), .ref (a 22), .ref (a 23), .ref (a 24), .ref (a 25), .ref (a 26), .ref (a 27), .ref (a 28), .ref (a 29), .ref (a 30), .ref (a 31), .ref (a 32), .ref (a 33), .ref (a 34), .ref (a 35), .long 0, .int 0, .ref (a 38), .ref (a 39), .int 0, .ref (a 41), .ref (a 42), .ref (a 43)])), ((a 21), .inl ((ca 21), 2, .inl (fun _ => 0)))] := hD
  refine lv_aload_n hx hb dX9_closure_5 rfl (lv_at hl 0 rfl) ?_
  refine lv_iload_n hx hb dX9_closure_6 rfl (lv_at hl 1 rfl) ?_
  have hPc := hP.sub (ws' := [(m0, .inr (8, [.int 0, .int 0, .int 0, .int 0, .ref (a 4), .int 0, .int 0, .int 0, .int 0, .int 0, .int 0, .long 0, .int 0, .int 0, .int 0, .int 0, .int 0, .int 0, .ref (a 18), .ref (a 19), .ref (a 20), .ref (a 21), .ref (a 22), .ref (a 23), .ref (a 24), .ref (a 25), .ref (a 26), .ref (a 27), .ref (a 28), .ref (a 29), .ref (a 30), .ref (a 31), .ref (a 32), .ref (a 33), .ref (a 34), .ref (a 35), .long 0, .int 0, .ref (a 38), .ref (a 39), .int 0, .ref (a 41), .ref (a 42), .ref (a 43)])), ((a 21), .inl ((ca 21), 2, .inl (fun _ => 0)))]) [0, 1] rfl
  have hKc := hK.sub (tys' := [((ca 21), .int)]) [0] rfl
  refine vp_callSi ((va_runV (As := [.int pa]) (rest := []) ⟨hx, hb, hml, hown, hts⟩ (c_9isClosure l dC dI g (m0) (a) (ca) (pa) ) (cwV 1 hts (gwV qw_334 qw_335 qw_336 qw_23 qw_333) rfl rfl rfl (by decide +kernel) ⟨Nat.le_of_ble_eq_true rfl, Nat.le_of_ble_eq_true rfl⟩) ⟨fun a U g9 mk q => ⟨q.1, q.2.1, va_K.moved (u := U) (U := U.calling g9 mk a) (Vm.Alike.refl U.vm) q.2.2.1, Ev.bl q.2.2.2⟩, va_recv hK hP (ci := 8) (q0 := 0) rfl rfl, fun U hU hW => ⟨rfl, by rw [hU]; exact hPc, va_K.moved hW.alike hKc, hE.go hS (fun _ h => h.elim) hU hW⟩⟩ rfl rfl hl.1 rfl (lv_room (Nat.le_of_ble_eq_true rfl)) dX9_closure_7 ⟨Nat.le_of_ble_eq_true rfl, Nat.le_of_ble_eq_true rfl⟩)).run (fun r1 h_r1 => ?_)
  have h_r1 : r1 = 0 := h_r1
  subst h_r1
  refine lv_if_ne (tgt := 16) hx hb dX9_closure_10 (by decide) (fun c10_2 => by exfalso; exact absurd c10_2 (by decide)) (fun c10_2 => ?_)
  refine lv_bipush (v := (-2)) hx hb dX9_closure_13 (by decide) ?_
  refine W.widen (k := 0) (n := 0) (Nat.le_of_ble_eq_true rfl) (Nat.le_of_ble_eq_true rfl) ?_
  exact W.iret (v := (-2)) hx hb hr (fun t ht hW => ⟨⟨(-2), (), rfl, (rfl), trivial⟩, hS.F ht⟩) hS.2.2 dX9_closure_15
set_option maxHeartbeats 4000000 in
set_option maxRecDepth 100000 in
theorem c_9term (l : Launch) (dC : Nat → ClassId) (dI : Nat → Nat → Nat) (g : Gv) (sz : Nat) (m0 : Nat) (a : Nat → Nat) (ca : Nat → ClassId) (pa : Int32) (pb : Int32)  : Met l yX9_term (.code yX9_term cX9_term 3 (some .int) :: TBL) ({ frames := 3, cells := 0, slots := 0, locals := 180 }) (va_Pc [.ref m0, .int pa, .int pb] (fun U => U.heap.size = sz ∧ va_P (dC, dI) vwCl [(m0, .inr (8, [.int 0, .int 0, .int 0, .int 0, .ref (a 4), .int 0, .int 0, .int 0, .int 0, .int 0, .int 0, .long 0, .int 0, .int 0, .int 0, .int 0, .int 0, .int 0, .ref (a 18), .ref (a 19), .ref (a 20), .ref (a 21), .ref (a 22), .ref (a 23), .ref (a 24), .ref (a 25), .ref (a 26), .ref (a 27), .ref (a 28), .ref (a 29), .ref (a 30), .ref (a 31), .ref (a 32), .ref (a 33), .ref (a 34), .ref (a 35), .long 0, .int 0, .ref (a 38), .ref (a 39), .int 0, .ref (a 41), .ref (a 42), .ref (a 43)])), ((a 21), .inl ((ca 21), 2, .inl (fun _ => 0)))] U.heap ∧ va_K (dC, dI) vwCl [((ca 21), .int)] U ∧ va_D (fun _ => True) [(m0, .inr (8, [.int 0, .int 0, .int 0, .int 0, .ref (a 4), .int 0, .int 0, .int 0, .int 0, .int 0, .int 0, .long 0, .int 0, .int 0, .int 0, .int 0, .int 0, .int 0, .ref (a 18), .ref (a 19), .ref (a 20), .ref (a 21), .ref (a 22), .ref (a 23), .ref (a 24), .ref (a 25), .ref (a 26), .ref (a 27), .ref (a 28), .ref (a 29), .ref (a 30), .ref (a 31), .ref (a 32), .ref (a 33), .ref (a 34), .ref (a 35), .long 0, .int 0, .ref (a 38), .ref (a 39), .int 0, .ref (a 41), .ref (a 42), .ref (a 43)])), ((a 21), .inl ((ca 21), 2, .inl (fun _ => 0)))] ∧ Ev g (va_A [(m0, .inr (8, [.int 0, .int 0, .int 0, .int 0, .ref (a 4), .int 0, .int 0, .int 0, .int 0, .int 0, .int 0, .long 0, .int 0, .int 0, .int 0, .int 0, .int 0, .int 0, .ref (a 18), .ref (a 19), .ref (a 20), .ref (a 21), .ref (a 22), .ref (a 23), .ref (a 24), .ref (a 25), .ref (a 26), .ref (a 27), .ref (a 28), .ref (a 29), .ref (a 30), .ref (a 31), .ref (a 32), .ref (a 33), .ref (a 34), .ref (a 35), .long 0, .int 0, .ref (a 38), .ref (a 39), .int 0, .ref (a 41), .ref (a 42), .ref (a 43)])), ((a 21), .inl ((ca 21), 2, .inl (fun _ => 0)))] sz) U)) (va_Qi (fun (r : Int32) (u : Unit) => r = (-1)) (fun (_ : Unit) (_ : State) => True) (va_A [(m0, .inr (8, [.int 0, .int 0, .int 0, .int 0, .ref (a 4), .int 0, .int 0, .int 0, .int 0, .int 0, .int 0, .long 0, .int 0, .int 0, .int 0, .int 0, .int 0, .int 0, .ref (a 18), .ref (a 19), .ref (a 20), .ref (a 21), .ref (a 22), .ref (a 23), .ref (a 24), .ref (a 25), .ref (a 26), .ref (a 27), .ref (a 28), .ref (a 29), .ref (a 30), .ref (a 31), .ref (a 32), .ref (a 33), .ref (a 34), .ref (a 35), .long 0, .int 0, .ref (a 38), .ref (a 39), .int 0, .ref (a 41), .ref (a 42), .ref (a 43)])), ((a 21), .inl ((ca 21), 2, .inl (fun _ => 0)))] sz)) 0 0 (va_A [(m0, .inr (8, [.int 0, .int 0, .int 0, .int 0, .ref (a 4), .int 0, .int 0, .int 0, .int 0, .int 0, .int 0, .long 0, .int 0, .int 0, .int 0, .int 0, .int 0, .int 0, .ref (a 18), .ref (a 19), .ref (a 20), .ref (a 21), .ref (a 22), .ref (a 23), .ref (a 24), .ref (a 25), .ref (a 26), .ref (a 27), .ref (a 28), .ref (a 29), .ref (a 30), .ref (a 31), .ref (a 32), .ref (a 33), .ref (a 34), .ref (a 35), .long 0, .int 0, .ref (a 38), .ref (a 39), .int 0, .ref (a 41), .ref (a 42), .ref (a 43)])), ((a 21), .inl ((ca 21), 2, .inl (fun _ => 0)))] sz) := by
  refine Met.ofW (cc := cX9_term) (maxL := 3) (ret := (some .int)) (by decide) rfl ?_
  intro p e s m args below meth c s₁ B hml hv
  obtain ⟨rfl, hsz, hP, hK, hD0, hE⟩ := hv
  have hx := B.exec
  have hb := B.bytes
  have hr := B.returns
  have hts0 := atoms_spec (ws := (.code yX9_term cX9_term 3 (some .int) :: TBL)) B.pre
  have hts := fun (w : Cond) (h : w ∈ TBL) => hts0 w (List.mem_cons_of_mem _ h)
  have hown : s.vm.findClass RX9 = some m.cls := findClass_of_methodNamed B.named
  have hlocks := B.notSynchronized
  have hN := hE.1
  subst hsz
  have hD := hD0.self (sz := s.heap.size)
  generalize hAe : va_A [(m0, .inr (8, [.int 0, .int 0, .int 0, .int 0, .ref (a 4), .int 0, .int 0, .int 0, .int 0, .int 0, .int 0, .long 0, .int 0, .int 0, .int 0, .int 0, .int 0, .int 0, .ref (a 18), .ref (a 19), .ref (a 20), .ref (a 21), .ref (a 22), .ref (a 23), .ref (a 24), .ref (a 25), .ref (a 26), .ref (a 27), .ref (a 28), .ref (a 29), .ref (a 30), .ref (a 31), .ref (a 32), .ref (a 33), .ref (a 34), .ref (a 35), .long 0, .int 0, .ref (a 38), .ref (a 39), .int 0, .ref (a 41), .ref (a 42), .ref (a 43)])), ((a 21), .inl ((ca 21), 2, .inl (fun _ => 0)))] s.heap.size = A at hD hE ⊢
  have hA : ∀ q : Nat, s.heap.size ≤ q → A q := fun q h => by rw [← hAe]; exact Or.inr h
  have hS : va_S A s.heap s.heap [] := va_S.rf
  have hP : va_P (dC, dI) vwCl [(m0, .inr (8, [.int 0, .int 0, .int 0, .int 0, .ref (a 4), .int 0, .int 0, .int 0, .int 0, .int 0, .int 0, .long 0, .int 0, .int 0, .int 0, .int 0, .int 0, .int 0, .ref (a 18), .ref (a 19), .ref (a 20), .ref (a 21), .ref (a 22), .ref (a 23), .ref (a 24), .ref (a 25), .ref (a 26), .ref (a 27), .ref (a 28), .ref (a 29), .ref (a 30), .ref (a 31), .ref (a 32), .ref (a 33), .ref (a 34), .ref (a 35), .long 0, .int 0, .ref (a 38), .ref (a 39), .int 0, .ref (a 41), .ref (a 42), .ref (a 43)])), ((a 21), .inl ((ca 21), 2, .inl (fun _ => 0)))] s.heap := hP
  have hl := lv_entry ([.ref m0, .int pa, .int pb]) (n := 3) (Nat.le_of_ble_eq_true rfl)
  rw [lg_entry_eq]
  generalize (lg_sl ([.ref m0, .int pa, .int pb]) ++ List.replicate (3 - (lg_sl ([.ref m0, .int pa, .int pb])).length) Slot.unset).toArray = ls at hl ⊢
  have hl : lv_has ls 3 [(0, .ref m0), (1, .int pa), (2, .int pb)] := hl
  refine lv_aload_n hx hb dX9_term_0 rfl (lv_at hl 0 rfl) ?_
  refine lv_iconst (v := 0) hx hb dX9_term_1 (by decide) ?_
  refine va_put (D := (dC, dI)) (ci := 8) (v := .int 0) (ty := .int) (C := RX9) (T := TX9) (N := 44) hx hb hts inlX9 tyX9 tyX9_ok nmX9 hown hK hP hD hS 0 rfl rfl 0 (by decide) (hts (.fieldLink RX9 85 "ClosedUntilModel" "thrown" "I") qw_43) (fun _ h9 => h9) rfl (by decide +kernel) rfl rfl (Nat.le_of_ble_eq_true rfl) dX9_term_2 (fun H locs hP hD hS => ?_)
  have hP : va_P (dC, dI) vwCl [(m0, .inr (8, [.int 0, .int 0, .int 0, .int 0, .ref (a 4), .int 0, .int 0, .int 0, .int 0, .int 0, .int 0, .long 0, .int 0, .int 0, .int 0, .int 0, .int 0, .int 0, .ref (a 18), .ref (a 19), .ref (a 20), .ref (a 21), .ref (a 22), .ref (a 23), .ref (a 24), .ref (a 25), .ref (a 26), .ref (a 27), .ref (a 28), .ref (a 29), .ref (a 30), .ref (a 31), .ref (a 32), .ref (a 33), .ref (a 34), .ref (a 35), .long 0, .int 0, .ref (a 38), .ref (a 39), .int 0, .ref (a 41), .ref (a 42), .ref (a 43)])), ((a 21), .inl ((ca 21), 2, .inl (fun _ => 0)))] H := hP
  have hD : va_D A [(m0, .inr (8, [.int 0, .int 0, .int 0, .int 0, .ref (a 4), .int 0, .int 0, .int 0, .int 0, .int 0, .int 0, .long 0, .int 0, .int 0, .int 0, .int 0, .int 0, .int 0, .ref (a 18), .ref (a 19), .ref (a 20), .ref (a 21), .ref (a 22), .ref (a 23), .ref (a 24), .ref (a 25), .ref (a 26), .ref (a 27), .ref (a 28), .ref (a 29), .ref (a 30), .ref (a 31), .ref (a 32), .ref (a 33), .ref (a 34), .ref (a 35), .long 0, .int 0, .ref (a 38), .ref (a 39), .int 0, .ref (a 41), .ref (a 42), .ref (a 43)])), ((a 21), .inl ((ca 21), 2, .inl (fun _ => 0)))] := hD
  refine lv_aload_n hx hb dX9_term_5 rfl (lv_at hl 0 rfl) ?_
  refine lv_iload_n hx hb dX9_term_6 rfl (lv_at hl 1 rfl) ?_
  have hPc := hP.sub (ws' := [(m0, .inr (8, [.int 0, .int 0, .int 0, .int 0, .ref (a 4), .int 0, .int 0, .int 0, .int 0, .int 0, .int 0, .long 0, .int 0, .int 0, .int 0, .int 0, .int 0, .int 0, .ref (a 18), .ref (a 19), .ref (a 20), .ref (a 21), .ref (a 22), .ref (a 23), .ref (a 24), .ref (a 25), .ref (a 26), .ref (a 27), .ref (a 28), .ref (a 29), .ref (a 30), .ref (a 31), .ref (a 32), .ref (a 33), .ref (a 34), .ref (a 35), .long 0, .int 0, .ref (a 38), .ref (a 39), .int 0, .ref (a 41), .ref (a 42), .ref (a 43)])), ((a 21), .inl ((ca 21), 2, .inl (fun _ => 0)))]) [0, 1] rfl
  have hKc := hK.sub (tys' := [((ca 21), .int)]) [0] rfl
  refine vp_callSi ((va_runV (As := [.int pa]) (rest := []) ⟨hx, hb, hml, hown, hts⟩ (c_9isClosure l dC dI g (m0) (a) (ca) (pa) ) (cwV 1 hts (gwV qw_334 qw_335 qw_336 qw_23 qw_333) rfl rfl rfl (by decide +kernel) ⟨Nat.le_of_ble_eq_true rfl, Nat.le_of_ble_eq_true rfl⟩) ⟨fun a U g9 mk q => ⟨q.1, q.2.1, va_K.moved (u := U) (U := U.calling g9 mk a) (Vm.Alike.refl U.vm) q.2.2.1, Ev.bl q.2.2.2⟩, va_recv hK hP (ci := 8) (q0 := 0) rfl rfl, fun U hU hW => ⟨rfl, by rw [hU]; exact hPc, va_K.moved hW.alike hKc, hE.go hS (fun _ h => h.elim) hU hW⟩⟩ rfl rfl hl.1 rfl (lv_room (Nat.le_of_ble_eq_true rfl)) dX9_term_7 ⟨Nat.le_of_ble_eq_true rfl, Nat.le_of_ble_eq_true rfl⟩)).run (fun r1 h_r1 => ?_)
  have h_r1 : r1 = 0 := h_r1
  subst h_r1
  refine lv_if_eq (tgt := 39) hx hb dX9_term_10 (by decide) (fun c10_2 => ?_) (fun c10_2 => by exfalso; exact absurd c10_2 (by decide))
  refine lv_iconst (v := (-1)) hx hb dX9_term_39 (by decide) ?_
  refine W.widen (k := 0) (n := 0) (Nat.le_of_ble_eq_true rfl) (Nat.le_of_ble_eq_true rfl) ?_
  exact W.iret (v := (-1)) hx hb hr (fun t ht hW => ⟨⟨(-1), (), rfl, (rfl), trivial⟩, hS.F ht⟩) hS.2.2 dX9_term_40
set_option maxHeartbeats 4000000 in
set_option maxRecDepth 100000 in
theorem c_9ends (l : Launch) (dC : Nat → ClassId) (dI : Nat → Nat → Nat) (g : Gv) (sz : Nat) (m0 : Nat) (a : Nat → Nat) (ca : Nat → ClassId) (pa : Int32) (pb : Int32)  : Met l yX9_ends (.code yX9_ends cX9_ends 3 (some .int) :: TBL) ({ frames := 3, cells := 0, slots := 0, locals := 180 }) (va_Pc [.ref m0, .int pa, .int pb] (fun U => U.heap.size = sz ∧ va_P (dC, dI) vwCl [(m0, .inr (8, [.int 0, .int 0, .int 0, .int 0, .ref (a 4), .int 0, .int 0, .int 0, .int 0, .int 0, .int 0, .long 0, .int 0, .int 0, .int 0, .int 0, .int 0, .int 0, .ref (a 18), .ref (a 19), .ref (a 20), .ref (a 21), .ref (a 22), .ref (a 23), .ref (a 24), .ref (a 25), .ref (a 26), .ref (a 27), .ref (a 28), .ref (a 29), .ref (a 30), .ref (a 31), .ref (a 32), .ref (a 33), .ref (a 34), .ref (a 35), .long 0, .int 0, .ref (a 38), .ref (a 39), .int 0, .ref (a 41), .ref (a 42), .ref (a 43)])), ((a 21), .inl ((ca 21), 2, .inl (fun _ => 0)))] U.heap ∧ va_K (dC, dI) vwCl [((ca 21), .int)] U ∧ va_D (fun _ => True) [(m0, .inr (8, [.int 0, .int 0, .int 0, .int 0, .ref (a 4), .int 0, .int 0, .int 0, .int 0, .int 0, .int 0, .long 0, .int 0, .int 0, .int 0, .int 0, .int 0, .int 0, .ref (a 18), .ref (a 19), .ref (a 20), .ref (a 21), .ref (a 22), .ref (a 23), .ref (a 24), .ref (a 25), .ref (a 26), .ref (a 27), .ref (a 28), .ref (a 29), .ref (a 30), .ref (a 31), .ref (a 32), .ref (a 33), .ref (a 34), .ref (a 35), .long 0, .int 0, .ref (a 38), .ref (a 39), .int 0, .ref (a 41), .ref (a 42), .ref (a 43)])), ((a 21), .inl ((ca 21), 2, .inl (fun _ => 0)))] ∧ Ev g (va_A [(m0, .inr (8, [.int 0, .int 0, .int 0, .int 0, .ref (a 4), .int 0, .int 0, .int 0, .int 0, .int 0, .int 0, .long 0, .int 0, .int 0, .int 0, .int 0, .int 0, .int 0, .ref (a 18), .ref (a 19), .ref (a 20), .ref (a 21), .ref (a 22), .ref (a 23), .ref (a 24), .ref (a 25), .ref (a 26), .ref (a 27), .ref (a 28), .ref (a 29), .ref (a 30), .ref (a 31), .ref (a 32), .ref (a 33), .ref (a 34), .ref (a 35), .long 0, .int 0, .ref (a 38), .ref (a 39), .int 0, .ref (a 41), .ref (a 42), .ref (a 43)])), ((a 21), .inl ((ca 21), 2, .inl (fun _ => 0)))] sz) U)) (va_Qi (fun (r : Int32) (u : Unit) => r = (-1)) (fun (_ : Unit) (_ : State) => True) (va_A [(m0, .inr (8, [.int 0, .int 0, .int 0, .int 0, .ref (a 4), .int 0, .int 0, .int 0, .int 0, .int 0, .int 0, .long 0, .int 0, .int 0, .int 0, .int 0, .int 0, .int 0, .ref (a 18), .ref (a 19), .ref (a 20), .ref (a 21), .ref (a 22), .ref (a 23), .ref (a 24), .ref (a 25), .ref (a 26), .ref (a 27), .ref (a 28), .ref (a 29), .ref (a 30), .ref (a 31), .ref (a 32), .ref (a 33), .ref (a 34), .ref (a 35), .long 0, .int 0, .ref (a 38), .ref (a 39), .int 0, .ref (a 41), .ref (a 42), .ref (a 43)])), ((a 21), .inl ((ca 21), 2, .inl (fun _ => 0)))] sz)) 0 0 (va_A [(m0, .inr (8, [.int 0, .int 0, .int 0, .int 0, .ref (a 4), .int 0, .int 0, .int 0, .int 0, .int 0, .int 0, .long 0, .int 0, .int 0, .int 0, .int 0, .int 0, .int 0, .ref (a 18), .ref (a 19), .ref (a 20), .ref (a 21), .ref (a 22), .ref (a 23), .ref (a 24), .ref (a 25), .ref (a 26), .ref (a 27), .ref (a 28), .ref (a 29), .ref (a 30), .ref (a 31), .ref (a 32), .ref (a 33), .ref (a 34), .ref (a 35), .long 0, .int 0, .ref (a 38), .ref (a 39), .int 0, .ref (a 41), .ref (a 42), .ref (a 43)])), ((a 21), .inl ((ca 21), 2, .inl (fun _ => 0)))] sz) := by
  refine Met.ofW (cc := cX9_ends) (maxL := 3) (ret := (some .int)) (by decide) rfl ?_
  intro p e s m args below meth c s₁ B hml hv
  obtain ⟨rfl, hsz, hP, hK, hD0, hE⟩ := hv
  have hx := B.exec
  have hb := B.bytes
  have hr := B.returns
  have hts0 := atoms_spec (ws := (.code yX9_ends cX9_ends 3 (some .int) :: TBL)) B.pre
  have hts := fun (w : Cond) (h : w ∈ TBL) => hts0 w (List.mem_cons_of_mem _ h)
  have hown : s.vm.findClass RX9 = some m.cls := findClass_of_methodNamed B.named
  have hlocks := B.notSynchronized
  have hN := hE.1
  subst hsz
  have hD := hD0.self (sz := s.heap.size)
  generalize hAe : va_A [(m0, .inr (8, [.int 0, .int 0, .int 0, .int 0, .ref (a 4), .int 0, .int 0, .int 0, .int 0, .int 0, .int 0, .long 0, .int 0, .int 0, .int 0, .int 0, .int 0, .int 0, .ref (a 18), .ref (a 19), .ref (a 20), .ref (a 21), .ref (a 22), .ref (a 23), .ref (a 24), .ref (a 25), .ref (a 26), .ref (a 27), .ref (a 28), .ref (a 29), .ref (a 30), .ref (a 31), .ref (a 32), .ref (a 33), .ref (a 34), .ref (a 35), .long 0, .int 0, .ref (a 38), .ref (a 39), .int 0, .ref (a 41), .ref (a 42), .ref (a 43)])), ((a 21), .inl ((ca 21), 2, .inl (fun _ => 0)))] s.heap.size = A at hD hE ⊢
  have hA : ∀ q : Nat, s.heap.size ≤ q → A q := fun q h => by rw [← hAe]; exact Or.inr h
  have hS : va_S A s.heap s.heap [] := va_S.rf
  have hP : va_P (dC, dI) vwCl [(m0, .inr (8, [.int 0, .int 0, .int 0, .int 0, .ref (a 4), .int 0, .int 0, .int 0, .int 0, .int 0, .int 0, .long 0, .int 0, .int 0, .int 0, .int 0, .int 0, .int 0, .ref (a 18), .ref (a 19), .ref (a 20), .ref (a 21), .ref (a 22), .ref (a 23), .ref (a 24), .ref (a 25), .ref (a 26), .ref (a 27), .ref (a 28), .ref (a 29), .ref (a 30), .ref (a 31), .ref (a 32), .ref (a 33), .ref (a 34), .ref (a 35), .long 0, .int 0, .ref (a 38), .ref (a 39), .int 0, .ref (a 41), .ref (a 42), .ref (a 43)])), ((a 21), .inl ((ca 21), 2, .inl (fun _ => 0)))] s.heap := hP
  have hl := lv_entry ([.ref m0, .int pa, .int pb]) (n := 3) (Nat.le_of_ble_eq_true rfl)
  rw [lg_entry_eq]
  generalize (lg_sl ([.ref m0, .int pa, .int pb]) ++ List.replicate (3 - (lg_sl ([.ref m0, .int pa, .int pb])).length) Slot.unset).toArray = ls at hl ⊢
  have hl : lv_has ls 3 [(0, .ref m0), (1, .int pa), (2, .int pb)] := hl
  refine lv_aload_n hx hb dX9_ends_0 rfl (lv_at hl 0 rfl) ?_
  refine lv_iconst (v := 0) hx hb dX9_ends_1 (by decide) ?_
  refine va_put (D := (dC, dI)) (ci := 8) (v := .int 0) (ty := .int) (C := RX9) (T := TX9) (N := 44) hx hb hts inlX9 tyX9 tyX9_ok nmX9 hown hK hP hD hS 0 rfl rfl 0 (by decide) (hts (.fieldLink RX9 85 "ClosedUntilModel" "thrown" "I") qw_43) (fun _ h9 => h9) rfl (by decide +kernel) rfl rfl (Nat.le_of_ble_eq_true rfl) dX9_ends_2 (fun H locs hP hD hS => ?_)
  have hP : va_P (dC, dI) vwCl [(m0, .inr (8, [.int 0, .int 0, .int 0, .int 0, .ref (a 4), .int 0, .int 0, .int 0, .int 0, .int 0, .int 0, .long 0, .int 0, .int 0, .int 0, .int 0, .int 0, .int 0, .ref (a 18), .ref (a 19), .ref (a 20), .ref (a 21), .ref (a 22), .ref (a 23), .ref (a 24), .ref (a 25), .ref (a 26), .ref (a 27), .ref (a 28), .ref (a 29), .ref (a 30), .ref (a 31), .ref (a 32), .ref (a 33), .ref (a 34), .ref (a 35), .long 0, .int 0, .ref (a 38), .ref (a 39), .int 0, .ref (a 41), .ref (a 42), .ref (a 43)])), ((a 21), .inl ((ca 21), 2, .inl (fun _ => 0)))] H := hP
  have hD : va_D A [(m0, .inr (8, [.int 0, .int 0, .int 0, .int 0, .ref (a 4), .int 0, .int 0, .int 0, .int 0, .int 0, .int 0, .long 0, .int 0, .int 0, .int 0, .int 0, .int 0, .int 0, .ref (a 18), .ref (a 19), .ref (a 20), .ref (a 21), .ref (a 22), .ref (a 23), .ref (a 24), .ref (a 25), .ref (a 26), .ref (a 27), .ref (a 28), .ref (a 29), .ref (a 30), .ref (a 31), .ref (a 32), .ref (a 33), .ref (a 34), .ref (a 35), .long 0, .int 0, .ref (a 38), .ref (a 39), .int 0, .ref (a 41), .ref (a 42), .ref (a 43)])), ((a 21), .inl ((ca 21), 2, .inl (fun _ => 0)))] := hD
  refine lv_aload_n hx hb dX9_ends_5 rfl (lv_at hl 0 rfl) ?_
  refine lv_iload_n hx hb dX9_ends_6 rfl (lv_at hl 1 rfl) ?_
  have hPc := hP.sub (ws' := [(m0, .inr (8, [.int 0, .int 0, .int 0, .int 0, .ref (a 4), .int 0, .int 0, .int 0, .int 0, .int 0, .int 0, .long 0, .int 0, .int 0, .int 0, .int 0, .int 0, .int 0, .ref (a 18), .ref (a 19), .ref (a 20), .ref (a 21), .ref (a 22), .ref (a 23), .ref (a 24), .ref (a 25), .ref (a 26), .ref (a 27), .ref (a 28), .ref (a 29), .ref (a 30), .ref (a 31), .ref (a 32), .ref (a 33), .ref (a 34), .ref (a 35), .long 0, .int 0, .ref (a 38), .ref (a 39), .int 0, .ref (a 41), .ref (a 42), .ref (a 43)])), ((a 21), .inl ((ca 21), 2, .inl (fun _ => 0)))]) [0, 1] rfl
  have hKc := hK.sub (tys' := [((ca 21), .int)]) [0] rfl
  refine vp_callSi ((va_runV (As := [.int pa]) (rest := []) ⟨hx, hb, hml, hown, hts⟩ (c_9isClosure l dC dI g (m0) (a) (ca) (pa) ) (cwV 1 hts (gwV qw_334 qw_335 qw_336 qw_23 qw_333) rfl rfl rfl (by decide +kernel) ⟨Nat.le_of_ble_eq_true rfl, Nat.le_of_ble_eq_true rfl⟩) ⟨fun a U g9 mk q => ⟨q.1, q.2.1, va_K.moved (u := U) (U := U.calling g9 mk a) (Vm.Alike.refl U.vm) q.2.2.1, Ev.bl q.2.2.2⟩, va_recv hK hP (ci := 8) (q0 := 0) rfl rfl, fun U hU hW => ⟨rfl, by rw [hU]; exact hPc, va_K.moved hW.alike hKc, hE.go hS (fun _ h => h.elim) hU hW⟩⟩ rfl rfl hl.1 rfl (lv_room (Nat.le_of_ble_eq_true rfl)) dX9_ends_7 ⟨Nat.le_of_ble_eq_true rfl, Nat.le_of_ble_eq_true rfl⟩)).run (fun r1 h_r1 => ?_)
  have h_r1 : r1 = 0 := h_r1
  subst h_r1
  refine lv_if_eq (tgt := 30) hx hb dX9_ends_10 (by decide) (fun c10_2 => ?_) (fun c10_2 => by exfalso; exact absurd c10_2 (by decide))
  refine lv_iconst (v := (-1)) hx hb dX9_ends_30 (by decide) ?_
  refine W.widen (k := 0) (n := 0) (Nat.le_of_ble_eq_true rfl) (Nat.le_of_ble_eq_true rfl) ?_
  exact W.iret (v := (-1)) hx hb hr (fun t ht hW => ⟨⟨(-1), (), rfl, (rfl), trivial⟩, hS.F ht⟩) hS.2.2 dX9_ends_31
set_option maxHeartbeats 4000000 in
set_option maxRecDepth 100000 in
theorem c_9opens (l : Launch) (dC : Nat → ClassId) (dI : Nat → Nat → Nat) (g : Gv) (sz : Nat) (m0 : Nat) (a : Nat → Nat) (ca : Nat → ClassId) (pa : Int32) (pb : Int32)  : Met l yX9_opens (.code yX9_opens cX9_opens 3 (some .int) :: TBL) ({ frames := 3, cells := 0, slots := 0, locals := 180 }) (va_Pc [.ref m0, .int pa, .int pb] (fun U => U.heap.size = sz ∧ va_P (dC, dI) vwCl [(m0, .inr (8, [.int 0, .int 0, .int 0, .int 0, .ref (a 4), .int 0, .int 0, .int 0, .int 0, .int 0, .int 0, .long 0, .int 0, .int 0, .int 0, .int 0, .int 0, .int 0, .ref (a 18), .ref (a 19), .ref (a 20), .ref (a 21), .ref (a 22), .ref (a 23), .ref (a 24), .ref (a 25), .ref (a 26), .ref (a 27), .ref (a 28), .ref (a 29), .ref (a 30), .ref (a 31), .ref (a 32), .ref (a 33), .ref (a 34), .ref (a 35), .long 0, .int 0, .ref (a 38), .ref (a 39), .int 0, .ref (a 41), .ref (a 42), .ref (a 43)])), ((a 21), .inl ((ca 21), 2, .inl (fun _ => 0))), ((a 20), .inl ((ca 20), 2, .inl (fun _ => 0)))] U.heap ∧ va_K (dC, dI) vwCl [((ca 21), .int), ((ca 20), .int)] U ∧ va_D (fun _ => True) [(m0, .inr (8, [.int 0, .int 0, .int 0, .int 0, .ref (a 4), .int 0, .int 0, .int 0, .int 0, .int 0, .int 0, .long 0, .int 0, .int 0, .int 0, .int 0, .int 0, .int 0, .ref (a 18), .ref (a 19), .ref (a 20), .ref (a 21), .ref (a 22), .ref (a 23), .ref (a 24), .ref (a 25), .ref (a 26), .ref (a 27), .ref (a 28), .ref (a 29), .ref (a 30), .ref (a 31), .ref (a 32), .ref (a 33), .ref (a 34), .ref (a 35), .long 0, .int 0, .ref (a 38), .ref (a 39), .int 0, .ref (a 41), .ref (a 42), .ref (a 43)])), ((a 21), .inl ((ca 21), 2, .inl (fun _ => 0))), ((a 20), .inl ((ca 20), 2, .inl (fun _ => 0)))] ∧ Ev g (va_A [(m0, .inr (8, [.int 0, .int 0, .int 0, .int 0, .ref (a 4), .int 0, .int 0, .int 0, .int 0, .int 0, .int 0, .long 0, .int 0, .int 0, .int 0, .int 0, .int 0, .int 0, .ref (a 18), .ref (a 19), .ref (a 20), .ref (a 21), .ref (a 22), .ref (a 23), .ref (a 24), .ref (a 25), .ref (a 26), .ref (a 27), .ref (a 28), .ref (a 29), .ref (a 30), .ref (a 31), .ref (a 32), .ref (a 33), .ref (a 34), .ref (a 35), .long 0, .int 0, .ref (a 38), .ref (a 39), .int 0, .ref (a 41), .ref (a 42), .ref (a 43)])), ((a 21), .inl ((ca 21), 2, .inl (fun _ => 0))), ((a 20), .inl ((ca 20), 2, .inl (fun _ => 0)))] sz) U)) (va_Qi (fun (r : Int32) (u : Unit) => r = (-1)) (fun (_ : Unit) (_ : State) => True) (va_A [(m0, .inr (8, [.int 0, .int 0, .int 0, .int 0, .ref (a 4), .int 0, .int 0, .int 0, .int 0, .int 0, .int 0, .long 0, .int 0, .int 0, .int 0, .int 0, .int 0, .int 0, .ref (a 18), .ref (a 19), .ref (a 20), .ref (a 21), .ref (a 22), .ref (a 23), .ref (a 24), .ref (a 25), .ref (a 26), .ref (a 27), .ref (a 28), .ref (a 29), .ref (a 30), .ref (a 31), .ref (a 32), .ref (a 33), .ref (a 34), .ref (a 35), .long 0, .int 0, .ref (a 38), .ref (a 39), .int 0, .ref (a 41), .ref (a 42), .ref (a 43)])), ((a 21), .inl ((ca 21), 2, .inl (fun _ => 0))), ((a 20), .inl ((ca 20), 2, .inl (fun _ => 0)))] sz)) 0 0 (va_A [(m0, .inr (8, [.int 0, .int 0, .int 0, .int 0, .ref (a 4), .int 0, .int 0, .int 0, .int 0, .int 0, .int 0, .long 0, .int 0, .int 0, .int 0, .int 0, .int 0, .int 0, .ref (a 18), .ref (a 19), .ref (a 20), .ref (a 21), .ref (a 22), .ref (a 23), .ref (a 24), .ref (a 25), .ref (a 26), .ref (a 27), .ref (a 28), .ref (a 29), .ref (a 30), .ref (a 31), .ref (a 32), .ref (a 33), .ref (a 34), .ref (a 35), .long 0, .int 0, .ref (a 38), .ref (a 39), .int 0, .ref (a 41), .ref (a 42), .ref (a 43)])), ((a 21), .inl ((ca 21), 2, .inl (fun _ => 0))), ((a 20), .inl ((ca 20), 2, .inl (fun _ => 0)))] sz) := by
  refine Met.ofW (cc := cX9_opens) (maxL := 3) (ret := (some .int)) (by decide) rfl ?_
  intro p e s m args below meth c s₁ B hml hv
  obtain ⟨rfl, hsz, hP, hK, hD0, hE⟩ := hv
  have hx := B.exec
  have hb := B.bytes
  have hr := B.returns
  have hts0 := atoms_spec (ws := (.code yX9_opens cX9_opens 3 (some .int) :: TBL)) B.pre
  have hts := fun (w : Cond) (h : w ∈ TBL) => hts0 w (List.mem_cons_of_mem _ h)
  have hown : s.vm.findClass RX9 = some m.cls := findClass_of_methodNamed B.named
  have hlocks := B.notSynchronized
  have hN := hE.1
  subst hsz
  have hD := hD0.self (sz := s.heap.size)
  generalize hAe : va_A [(m0, .inr (8, [.int 0, .int 0, .int 0, .int 0, .ref (a 4), .int 0, .int 0, .int 0, .int 0, .int 0, .int 0, .long 0, .int 0, .int 0, .int 0, .int 0, .int 0, .int 0, .ref (a 18), .ref (a 19), .ref (a 20), .ref (a 21), .ref (a 22), .ref (a 23), .ref (a 24), .ref (a 25), .ref (a 26), .ref (a 27), .ref (a 28), .ref (a 29), .ref (a 30), .ref (a 31), .ref (a 32), .ref (a 33), .ref (a 34), .ref (a 35), .long 0, .int 0, .ref (a 38), .ref (a 39), .int 0, .ref (a 41), .ref (a 42), .ref (a 43)])), ((a 21), .inl ((ca 21), 2, .inl (fun _ => 0))), ((a 20), .inl ((ca 20), 2, .inl (fun _ => 0)))] s.heap.size = A at hD hE ⊢
  have hA : ∀ q : Nat, s.heap.size ≤ q → A q := fun q h => by rw [← hAe]; exact Or.inr h
  have hS : va_S A s.heap s.heap [] := va_S.rf
  have hP : va_P (dC, dI) vwCl [(m0, .inr (8, [.int 0, .int 0, .int 0, .int 0, .ref (a 4), .int 0, .int 0, .int 0, .int 0, .int 0, .int 0, .long 0, .int 0, .int 0, .int 0, .int 0, .int 0, .int 0, .ref (a 18), .ref (a 19), .ref (a 20), .ref (a 21), .ref (a 22), .ref (a 23), .ref (a 24), .ref (a 25), .ref (a 26), .ref (a 27), .ref (a 28), .ref (a 29), .ref (a 30), .ref (a 31), .ref (a 32), .ref (a 33), .ref (a 34), .ref (a 35), .long 0, .int 0, .ref (a 38), .ref (a 39), .int 0, .ref (a 41), .ref (a 42), .ref (a 43)])), ((a 21), .inl ((ca 21), 2, .inl (fun _ => 0))), ((a 20), .inl ((ca 20), 2, .inl (fun _ => 0)))] s.heap := hP
  have hl := lv_entry ([.ref m0, .int pa, .int pb]) (n := 3) (Nat.le_of_ble_eq_true rfl)
  rw [lg_entry_eq]
  generalize (lg_sl ([.ref m0, .int pa, .int pb]) ++ List.replicate (3 - (lg_sl ([.ref m0, .int pa, .int pb])).length) Slot.unset).toArray = ls at hl ⊢
  have hl : lv_has ls 3 [(0, .ref m0), (1, .int pa), (2, .int pb)] := hl
  refine lv_aload_n hx hb dX9_opens_0 rfl (lv_at hl 0 rfl) ?_
  refine lv_iconst (v := 0) hx hb dX9_opens_1 (by decide) ?_
  refine va_put (D := (dC, dI)) (ci := 8) (v := .int 0) (ty := .int) (C := RX9) (T := TX9) (N := 44) hx hb hts inlX9 tyX9 tyX9_ok nmX9 hown hK hP hD hS 0 rfl rfl 0 (by decide) (hts (.fieldLink RX9 85 "ClosedUntilModel" "thrown" "I") qw_43) (fun _ h9 => h9) rfl (by decide +kernel) rfl rfl (Nat.le_of_ble_eq_true rfl) dX9_opens_2 (fun H locs hP hD hS => ?_)
  have hP : va_P (dC, dI) vwCl [(m0, .inr (8, [.int 0, .int 0, .int 0, .int 0, .ref (a 4), .int 0, .int 0, .int 0, .int 0, .int 0, .int 0, .long 0, .int 0, .int 0, .int 0, .int 0, .int 0, .int 0, .ref (a 18), .ref (a 19), .ref (a 20), .ref (a 21), .ref (a 22), .ref (a 23), .ref (a 24), .ref (a 25), .ref (a 26), .ref (a 27), .ref (a 28), .ref (a 29), .ref (a 30), .ref (a 31), .ref (a 32), .ref (a 33), .ref (a 34), .ref (a 35), .long 0, .int 0, .ref (a 38), .ref (a 39), .int 0, .ref (a 41), .ref (a 42), .ref (a 43)])), ((a 21), .inl ((ca 21), 2, .inl (fun _ => 0))), ((a 20), .inl ((ca 20), 2, .inl (fun _ => 0)))] H := hP
  have hD : va_D A [(m0, .inr (8, [.int 0, .int 0, .int 0, .int 0, .ref (a 4), .int 0, .int 0, .int 0, .int 0, .int 0, .int 0, .long 0, .int 0, .int 0, .int 0, .int 0, .int 0, .int 0, .ref (a 18), .ref (a 19), .ref (a 20), .ref (a 21), .ref (a 22), .ref (a 23), .ref (a 24), .ref (a 25), .ref (a 26), .ref (a 27), .ref (a 28), .ref (a 29), .ref (a 30), .ref (a 31), .ref (a 32), .ref (a 33), .ref (a 34), .ref (a 35), .long 0, .int 0, .ref (a 38), .ref (a 39), .int 0, .ref (a 41), .ref (a 42), .ref (a 43)])), ((a 21), .inl ((ca 21), 2, .inl (fun _ => 0))), ((a 20), .inl ((ca 20), 2, .inl (fun _ => 0)))] := hD
  refine lv_aload_n hx hb dX9_opens_5 rfl (lv_at hl 0 rfl) ?_
  have hPc := hP.sub (ws' := [(m0, .inr (8, [.int 0, .int 0, .int 0, .int 0, .ref (a 4), .int 0, .int 0, .int 0, .int 0, .int 0, .int 0, .long 0, .int 0, .int 0, .int 0, .int 0, .int 0, .int 0, .ref (a 18), .ref (a 19), .ref (a 20), .ref (a 21), .ref (a 22), .ref (a 23), .ref (a 24), .ref (a 25), .ref (a 26), .ref (a 27), .ref (a 28), .ref (a 29), .ref (a 30), .ref (a 31), .ref (a 32), .ref (a 33), .ref (a 34), .ref (a 35), .long 0, .int 0, .ref (a 38), .ref (a 39), .int 0, .ref (a 41), .ref (a 42), .ref (a 43)])), ((a 21), .inl ((ca 21), 2, .inl (fun _ => 0)))]) [0, 1] rfl
  have hKc := hK.sub (tys' := [((ca 21), .int)]) [0] rfl
  refine va_csv ((va_runV (As := []) (rest := []) ⟨hx, hb, hml, hown, hts⟩ (c_9lays l dC dI g (m0) (a) (ca) ) (cwV 0 hts (gwV qw_338 qw_339 qw_340 qw_23 qw_337) rfl rfl rfl (by decide +kernel) ⟨Nat.le_of_ble_eq_true rfl, Nat.le_of_ble_eq_true rfl⟩) ⟨fun a U g9 mk q => ⟨q.1, q.2.1, va_K.moved (u := U) (U := U.calling g9 mk a) (Vm.Alike.refl U.vm) q.2.2.1, Ev.bl q.2.2.2⟩, va_recv hK hP (ci := 8) (q0 := 0) rfl rfl, fun U hU hW => ⟨rfl, by rw [hU]; exact hPc, va_K.moved hW.alike hKc, hE.go hS (fun _ h => h.elim) hU hW⟩⟩ rfl rfl hl.1 rfl (lv_room (Nat.le_of_ble_eq_true rfl)) dX9_opens_6 ⟨Nat.le_of_ble_eq_true rfl, Nat.le_of_ble_eq_true rfl⟩)).run (fun _ => ?_)
  refine lv_aload_n hx hb dX9_opens_9 rfl (lv_at hl 0 rfl) ?_
  refine lv_iload_n hx hb dX9_opens_10 rfl (lv_at hl 1 rfl) ?_
  have hPc := hP.sub (ws' := [(m0, .inr (8, [.int 0, .int 0, .int 0, .int 0, .ref (a 4), .int 0, .int 0, .int 0, .int 0, .int 0, .int 0, .long 0, .int 0, .int 0, .int 0, .int 0, .int 0, .int 0, .ref (a 18), .ref (a 19), .ref (a 20), .ref (a 21), .ref (a 22), .ref (a 23), .ref (a 24), .ref (a 25), .ref (a 26), .ref (a 27), .ref (a 28), .ref (a 29), .ref (a 30), .ref (a 31), .ref (a 32), .ref (a 33), .ref (a 34), .ref (a 35), .long 0, .int 0, .ref (a 38), .ref (a 39), .int 0, .ref (a 41), .ref (a 42), .ref (a 43)])), ((a 20), .inl ((ca 20), 2, .inl (fun _ => 0)))]) [0, 2] rfl
  have hKc := hK.sub (tys' := [((ca 20), .int)]) [1] rfl
  refine vp_callSi ((va_runV (As := [.int pa]) (rest := []) ⟨hx, hb, hml, hown, hts⟩ (c_9isPiece l dC dI g (m0) (a) (ca) (pa) ) (cwV 1 hts (gwV qw_326 qw_327 qw_328 qw_23 qw_325) rfl rfl rfl (by decide +kernel) ⟨Nat.le_of_ble_eq_true rfl, Nat.le_of_ble_eq_true rfl⟩) ⟨fun a U g9 mk q => ⟨q.1, q.2.1, va_K.moved (u := U) (U := U.calling g9 mk a) (Vm.Alike.refl U.vm) q.2.2.1, Ev.bl q.2.2.2⟩, va_recv hK hP (ci := 8) (q0 := 0) rfl rfl, fun U hU hW => ⟨rfl, by rw [hU]; exact hPc, va_K.moved hW.alike hKc, hE.go hS (fun _ h => h.elim) hU hW⟩⟩ rfl rfl hl.1 rfl (lv_room (Nat.le_of_ble_eq_true rfl)) dX9_opens_11 ⟨Nat.le_of_ble_eq_true rfl, Nat.le_of_ble_eq_true rfl⟩)).run (fun r1 h_r1 => ?_)
  have h_r1 : r1 = 0 := h_r1
  subst h_r1
  refine lv_if_eq (tgt := 34) hx hb dX9_opens_14 (by decide) (fun c14_2 => ?_) (fun c14_2 => by exfalso; exact absurd c14_2 (by decide))
  refine lv_iconst (v := (-1)) hx hb dX9_opens_34 (by decide) ?_
  refine W.widen (k := 0) (n := 0) (Nat.le_of_ble_eq_true rfl) (Nat.le_of_ble_eq_true rfl) ?_
  exact W.iret (v := (-1)) hx hb hr (fun t ht hW => ⟨⟨(-1), (), rfl, (rfl), trivial⟩, hS.F ht⟩) hS.2.2 dX9_opens_35
set_option maxHeartbeats 4000000 in
set_option maxRecDepth 100000 in
theorem c_9allOf (l : Launch) (dC : Nat → ClassId) (dI : Nat → Nat → Nat) (g : Gv) (sz : Nat) (m0 : Nat) (a : Nat → Nat) (ca : Nat → ClassId) (pa : Int32) (pb : Int32)  : Met l yX9_allOf (.code yX9_allOf cX9_allOf 6 (some .int) :: TBL) ({ frames := 3, cells := 0, slots := 0, locals := 180 }) (va_Pc [.ref m0, .int pa, .int pb] (fun U => U.heap.size = sz ∧ va_P (dC, dI) vwCl [(m0, .inr (8, [.int 0, .int 0, .int 0, .int 0, .ref (a 4), .int 0, .int 0, .int 0, .int 0, .int 0, .int 0, .long 0, .int 0, .int 0, .int 0, .int 0, .int 0, .int 0, .ref (a 18), .ref (a 19), .ref (a 20), .ref (a 21), .ref (a 22), .ref (a 23), .ref (a 24), .ref (a 25), .ref (a 26), .ref (a 27), .ref (a 28), .ref (a 29), .ref (a 30), .ref (a 31), .ref (a 32), .ref (a 33), .ref (a 34), .ref (a 35), .long 0, .int 0, .ref (a 38), .ref (a 39), .int 0, .ref (a 41), .ref (a 42), .ref (a 43)])), ((a 21), .inl ((ca 21), 2, .inl (fun _ => 0))), ((a 20), .inl ((ca 20), 2, .inl (fun _ => 0)))] U.heap ∧ va_K (dC, dI) vwCl [((ca 21), .int), ((ca 20), .int)] U ∧ va_D (fun _ => True) [(m0, .inr (8, [.int 0, .int 0, .int 0, .int 0, .ref (a 4), .int 0, .int 0, .int 0, .int 0, .int 0, .int 0, .long 0, .int 0, .int 0, .int 0, .int 0, .int 0, .int 0, .ref (a 18), .ref (a 19), .ref (a 20), .ref (a 21), .ref (a 22), .ref (a 23), .ref (a 24), .ref (a 25), .ref (a 26), .ref (a 27), .ref (a 28), .ref (a 29), .ref (a 30), .ref (a 31), .ref (a 32), .ref (a 33), .ref (a 34), .ref (a 35), .long 0, .int 0, .ref (a 38), .ref (a 39), .int 0, .ref (a 41), .ref (a 42), .ref (a 43)])), ((a 21), .inl ((ca 21), 2, .inl (fun _ => 0))), ((a 20), .inl ((ca 20), 2, .inl (fun _ => 0)))] ∧ Ev g (va_A [(m0, .inr (8, [.int 0, .int 0, .int 0, .int 0, .ref (a 4), .int 0, .int 0, .int 0, .int 0, .int 0, .int 0, .long 0, .int 0, .int 0, .int 0, .int 0, .int 0, .int 0, .ref (a 18), .ref (a 19), .ref (a 20), .ref (a 21), .ref (a 22), .ref (a 23), .ref (a 24), .ref (a 25), .ref (a 26), .ref (a 27), .ref (a 28), .ref (a 29), .ref (a 30), .ref (a 31), .ref (a 32), .ref (a 33), .ref (a 34), .ref (a 35), .long 0, .int 0, .ref (a 38), .ref (a 39), .int 0, .ref (a 41), .ref (a 42), .ref (a 43)])), ((a 21), .inl ((ca 21), 2, .inl (fun _ => 0))), ((a 20), .inl ((ca 20), 2, .inl (fun _ => 0)))] sz) U)) (va_Qi (fun (r : Int32) (u : Unit) => r = (-1)) (fun (_ : Unit) (_ : State) => True) (va_A [(m0, .inr (8, [.int 0, .int 0, .int 0, .int 0, .ref (a 4), .int 0, .int 0, .int 0, .int 0, .int 0, .int 0, .long 0, .int 0, .int 0, .int 0, .int 0, .int 0, .int 0, .ref (a 18), .ref (a 19), .ref (a 20), .ref (a 21), .ref (a 22), .ref (a 23), .ref (a 24), .ref (a 25), .ref (a 26), .ref (a 27), .ref (a 28), .ref (a 29), .ref (a 30), .ref (a 31), .ref (a 32), .ref (a 33), .ref (a 34), .ref (a 35), .long 0, .int 0, .ref (a 38), .ref (a 39), .int 0, .ref (a 41), .ref (a 42), .ref (a 43)])), ((a 21), .inl ((ca 21), 2, .inl (fun _ => 0))), ((a 20), .inl ((ca 20), 2, .inl (fun _ => 0)))] sz)) 0 0 (va_A [(m0, .inr (8, [.int 0, .int 0, .int 0, .int 0, .ref (a 4), .int 0, .int 0, .int 0, .int 0, .int 0, .int 0, .long 0, .int 0, .int 0, .int 0, .int 0, .int 0, .int 0, .ref (a 18), .ref (a 19), .ref (a 20), .ref (a 21), .ref (a 22), .ref (a 23), .ref (a 24), .ref (a 25), .ref (a 26), .ref (a 27), .ref (a 28), .ref (a 29), .ref (a 30), .ref (a 31), .ref (a 32), .ref (a 33), .ref (a 34), .ref (a 35), .long 0, .int 0, .ref (a 38), .ref (a 39), .int 0, .ref (a 41), .ref (a 42), .ref (a 43)])), ((a 21), .inl ((ca 21), 2, .inl (fun _ => 0))), ((a 20), .inl ((ca 20), 2, .inl (fun _ => 0)))] sz) := by
  refine Met.ofW (cc := cX9_allOf) (maxL := 6) (ret := (some .int)) (by decide) rfl ?_
  intro p e s m args below meth c s₁ B hml hv
  obtain ⟨rfl, hsz, hP, hK, hD0, hE⟩ := hv
  have hx := B.exec
  have hb := B.bytes
  have hr := B.returns
  have hts0 := atoms_spec (ws := (.code yX9_allOf cX9_allOf 6 (some .int) :: TBL)) B.pre
  have hts := fun (w : Cond) (h : w ∈ TBL) => hts0 w (List.mem_cons_of_mem _ h)
  have hown : s.vm.findClass RX9 = some m.cls := findClass_of_methodNamed B.named
  have hlocks := B.notSynchronized
  have hN := hE.1
  subst hsz
  have hD := hD0.self (sz := s.heap.size)
  generalize hAe : va_A [(m0, .inr (8, [.int 0, .int 0, .int 0, .int 0, .ref (a 4), .int 0, .int 0, .int 0, .int 0, .int 0, .int 0, .long 0, .int 0, .int 0, .int 0, .int 0, .int 0, .int 0, .ref (a 18), .ref (a 19), .ref (a 20), .ref (a 21), .ref (a 22), .ref (a 23), .ref (a 24), .ref (a 25), .ref (a 26), .ref (a 27), .ref (a 28), .ref (a 29), .ref (a 30), .ref (a 31), .ref (a 32), .ref (a 33), .ref (a 34), .ref (a 35), .long 0, .int 0, .ref (a 38), .ref (a 39), .int 0, .ref (a 41), .ref (a 42), .ref (a 43)])), ((a 21), .inl ((ca 21), 2, .inl (fun _ => 0))), ((a 20), .inl ((ca 20), 2, .inl (fun _ => 0)))] s.heap.size = A at hD hE ⊢
  have hA : ∀ q : Nat, s.heap.size ≤ q → A q := fun q h => by rw [← hAe]; exact Or.inr h
  have hS : va_S A s.heap s.heap [] := va_S.rf
  have hP : va_P (dC, dI) vwCl [(m0, .inr (8, [.int 0, .int 0, .int 0, .int 0, .ref (a 4), .int 0, .int 0, .int 0, .int 0, .int 0, .int 0, .long 0, .int 0, .int 0, .int 0, .int 0, .int 0, .int 0, .ref (a 18), .ref (a 19), .ref (a 20), .ref (a 21), .ref (a 22), .ref (a 23), .ref (a 24), .ref (a 25), .ref (a 26), .ref (a 27), .ref (a 28), .ref (a 29), .ref (a 30), .ref (a 31), .ref (a 32), .ref (a 33), .ref (a 34), .ref (a 35), .long 0, .int 0, .ref (a 38), .ref (a 39), .int 0, .ref (a 41), .ref (a 42), .ref (a 43)])), ((a 21), .inl ((ca 21), 2, .inl (fun _ => 0))), ((a 20), .inl ((ca 20), 2, .inl (fun _ => 0)))] s.heap := hP
  have hl := lv_entry ([.ref m0, .int pa, .int pb]) (n := 6) (Nat.le_of_ble_eq_true rfl)
  rw [lg_entry_eq]
  generalize (lg_sl ([.ref m0, .int pa, .int pb]) ++ List.replicate (6 - (lg_sl ([.ref m0, .int pa, .int pb])).length) Slot.unset).toArray = ls at hl ⊢
  have hl : lv_has ls 6 [(0, .ref m0), (1, .int pa), (2, .int pb)] := hl
  refine lv_aload_n hx hb dX9_allOf_0 rfl (lv_at hl 0 rfl) ?_
  refine lv_iconst (v := 0) hx hb dX9_allOf_1 (by decide) ?_
  refine va_put (D := (dC, dI)) (ci := 8) (v := .int 0) (ty := .int) (C := RX9) (T := TX9) (N := 44) hx hb hts inlX9 tyX9 tyX9_ok nmX9 hown hK hP hD hS 0 rfl rfl 0 (by decide) (hts (.fieldLink RX9 85 "ClosedUntilModel" "thrown" "I") qw_43) (fun _ h9 => h9) rfl (by decide +kernel) rfl rfl (Nat.le_of_ble_eq_true rfl) dX9_allOf_2 (fun H locs hP hD hS => ?_)
  have hP : va_P (dC, dI) vwCl [(m0, .inr (8, [.int 0, .int 0, .int 0, .int 0, .ref (a 4), .int 0, .int 0, .int 0, .int 0, .int 0, .int 0, .long 0, .int 0, .int 0, .int 0, .int 0, .int 0, .int 0, .ref (a 18), .ref (a 19), .ref (a 20), .ref (a 21), .ref (a 22), .ref (a 23), .ref (a 24), .ref (a 25), .ref (a 26), .ref (a 27), .ref (a 28), .ref (a 29), .ref (a 30), .ref (a 31), .ref (a 32), .ref (a 33), .ref (a 34), .ref (a 35), .long 0, .int 0, .ref (a 38), .ref (a 39), .int 0, .ref (a 41), .ref (a 42), .ref (a 43)])), ((a 21), .inl ((ca 21), 2, .inl (fun _ => 0))), ((a 20), .inl ((ca 20), 2, .inl (fun _ => 0)))] H := hP
  have hD : va_D A [(m0, .inr (8, [.int 0, .int 0, .int 0, .int 0, .ref (a 4), .int 0, .int 0, .int 0, .int 0, .int 0, .int 0, .long 0, .int 0, .int 0, .int 0, .int 0, .int 0, .int 0, .ref (a 18), .ref (a 19), .ref (a 20), .ref (a 21), .ref (a 22), .ref (a 23), .ref (a 24), .ref (a 25), .ref (a 26), .ref (a 27), .ref (a 28), .ref (a 29), .ref (a 30), .ref (a 31), .ref (a 32), .ref (a 33), .ref (a 34), .ref (a 35), .long 0, .int 0, .ref (a 38), .ref (a 39), .int 0, .ref (a 41), .ref (a 42), .ref (a 43)])), ((a 21), .inl ((ca 21), 2, .inl (fun _ => 0))), ((a 20), .inl ((ca 20), 2, .inl (fun _ => 0)))] := hD
  refine lv_aload_n hx hb dX9_allOf_5 rfl (lv_at hl 0 rfl) ?_
  have hPc := hP.sub (ws' := [(m0, .inr (8, [.int 0, .int 0, .int 0, .int 0, .ref (a 4), .int 0, .int 0, .int 0, .int 0, .int 0, .int 0, .long 0, .int 0, .int 0, .int 0, .int 0, .int 0, .int 0, .ref (a 18), .ref (a 19), .ref (a 20), .ref (a 21), .ref (a 22), .ref (a 23), .ref (a 24), .ref (a 25), .ref (a 26), .ref (a 27), .ref (a 28), .ref (a 29), .ref (a 30), .ref (a 31), .ref (a 32), .ref (a 33), .ref (a 34), .ref (a 35), .long 0, .int 0, .ref (a 38), .ref (a 39), .int 0, .ref (a 41), .ref (a 42), .ref (a 43)])), ((a 21), .inl ((ca 21), 2, .inl (fun _ => 0)))]) [0, 1] rfl
  have hKc := hK.sub (tys' := [((ca 21), .int)]) [0] rfl
  refine va_csv ((va_runV (As := []) (rest := []) ⟨hx, hb, hml, hown, hts⟩ (c_9lays l dC dI g (m0) (a) (ca) ) (cwV 0 hts (gwV qw_338 qw_339 qw_340 qw_23 qw_337) rfl rfl rfl (by decide +kernel) ⟨Nat.le_of_ble_eq_true rfl, Nat.le_of_ble_eq_true rfl⟩) ⟨fun a U g9 mk q => ⟨q.1, q.2.1, va_K.moved (u := U) (U := U.calling g9 mk a) (Vm.Alike.refl U.vm) q.2.2.1, Ev.bl q.2.2.2⟩, va_recv hK hP (ci := 8) (q0 := 0) rfl rfl, fun U hU hW => ⟨rfl, by rw [hU]; exact hPc, va_K.moved hW.alike hKc, hE.go hS (fun _ h => h.elim) hU hW⟩⟩ rfl rfl hl.1 rfl (lv_room (Nat.le_of_ble_eq_true rfl)) dX9_allOf_6 ⟨Nat.le_of_ble_eq_true rfl, Nat.le_of_ble_eq_true rfl⟩)).run (fun _ => ?_)
  refine lv_aload_n hx hb dX9_allOf_9 rfl (lv_at hl 0 rfl) ?_
  refine lv_iload_n hx hb dX9_allOf_10 rfl (lv_at hl 1 rfl) ?_
  have hPc := hP.sub (ws' := [(m0, .inr (8, [.int 0, .int 0, .int 0, .int 0, .ref (a 4), .int 0, .int 0, .int 0, .int 0, .int 0, .int 0, .long 0, .int 0, .int 0, .int 0, .int 0, .int 0, .int 0, .ref (a 18), .ref (a 19), .ref (a 20), .ref (a 21), .ref (a 22), .ref (a 23), .ref (a 24), .ref (a 25), .ref (a 26), .ref (a 27), .ref (a 28), .ref (a 29), .ref (a 30), .ref (a 31), .ref (a 32), .ref (a 33), .ref (a 34), .ref (a 35), .long 0, .int 0, .ref (a 38), .ref (a 39), .int 0, .ref (a 41), .ref (a 42), .ref (a 43)])), ((a 20), .inl ((ca 20), 2, .inl (fun _ => 0)))]) [0, 2] rfl
  have hKc := hK.sub (tys' := [((ca 20), .int)]) [1] rfl
  refine vp_callSi ((va_runV (As := [.int pa]) (rest := []) ⟨hx, hb, hml, hown, hts⟩ (c_9isPiece l dC dI g (m0) (a) (ca) (pa) ) (cwV 1 hts (gwV qw_326 qw_327 qw_328 qw_23 qw_325) rfl rfl rfl (by decide +kernel) ⟨Nat.le_of_ble_eq_true rfl, Nat.le_of_ble_eq_true rfl⟩) ⟨fun a U g9 mk q => ⟨q.1, q.2.1, va_K.moved (u := U) (U := U.calling g9 mk a) (Vm.Alike.refl U.vm) q.2.2.1, Ev.bl q.2.2.2⟩, va_recv hK hP (ci := 8) (q0 := 0) rfl rfl, fun U hU hW => ⟨rfl, by rw [hU]; exact hPc, va_K.moved hW.alike hKc, hE.go hS (fun _ h => h.elim) hU hW⟩⟩ rfl rfl hl.1 rfl (lv_room (Nat.le_of_ble_eq_true rfl)) dX9_allOf_11 ⟨Nat.le_of_ble_eq_true rfl, Nat.le_of_ble_eq_true rfl⟩)).run (fun r1 h_r1 => ?_)
  have h_r1 : r1 = 0 := h_r1
  subst h_r1
  refine lv_if_eq (tgt := 24) hx hb dX9_allOf_14 (by decide) (fun c14_2 => ?_) (fun c14_2 => by exfalso; exact absurd c14_2 (by decide))
  refine lv_iconst (v := (-1)) hx hb dX9_allOf_24 (by decide) ?_
  refine W.widen (k := 0) (n := 0) (Nat.le_of_ble_eq_true rfl) (Nat.le_of_ble_eq_true rfl) ?_
  exact W.iret (v := (-1)) hx hb hr (fun t ht hW => ⟨⟨(-1), (), rfl, (rfl), trivial⟩, hS.F ht⟩) hS.2.2 dX9_allOf_25
set_option maxHeartbeats 4000000 in
set_option maxRecDepth 100000 in
theorem c_9reason (l : Launch) (dC : Nat → ClassId) (dI : Nat → Nat → Nat) (g : Gv) (sz : Nat) (m0 : Nat) (a : Nat → Nat) (ca : Nat → ClassId) (pa : Int32) (pb : Int32)  : Met l yX9_reason (.code yX9_reason cX9_reason 5 (some .int) :: TBL) ({ frames := 3, cells := 0, slots := 0, locals := 180 }) (va_Pc [.ref m0, .int pa, .int pb] (fun U => U.heap.size = sz ∧ va_P (dC, dI) vwCl [(m0, .inr (8, [.int 0, .int 0, .int 0, .int 0, .ref (a 4), .int 0, .int 0, .int 0, .int 0, .int 0, .int 0, .long 0, .int 0, .int 0, .int 0, .int 0, .int 0, .int 0, .ref (a 18), .ref (a 19), .ref (a 20), .ref (a 21), .ref (a 22), .ref (a 23), .ref (a 24), .ref (a 25), .ref (a 26), .ref (a 27), .ref (a 28), .ref (a 29), .ref (a 30), .ref (a 31), .ref (a 32), .ref (a 33), .ref (a 34), .ref (a 35), .long 0, .int 0, .ref (a 38), .ref (a 39), .int 0, .ref (a 41), .ref (a 42), .ref (a 43)])), ((a 21), .inl ((ca 21), 2, .inl (fun _ => 0))), ((a 20), .inl ((ca 20), 2, .inl (fun _ => 0)))] U.heap ∧ va_K (dC, dI) vwCl [((ca 21), .int), ((ca 20), .int)] U ∧ va_D (fun _ => True) [(m0, .inr (8, [.int 0, .int 0, .int 0, .int 0, .ref (a 4), .int 0, .int 0, .int 0, .int 0, .int 0, .int 0, .long 0, .int 0, .int 0, .int 0, .int 0, .int 0, .int 0, .ref (a 18), .ref (a 19), .ref (a 20), .ref (a 21), .ref (a 22), .ref (a 23), .ref (a 24), .ref (a 25), .ref (a 26), .ref (a 27), .ref (a 28), .ref (a 29), .ref (a 30), .ref (a 31), .ref (a 32), .ref (a 33), .ref (a 34), .ref (a 35), .long 0, .int 0, .ref (a 38), .ref (a 39), .int 0, .ref (a 41), .ref (a 42), .ref (a 43)])), ((a 21), .inl ((ca 21), 2, .inl (fun _ => 0))), ((a 20), .inl ((ca 20), 2, .inl (fun _ => 0)))] ∧ Ev g (va_A [(m0, .inr (8, [.int 0, .int 0, .int 0, .int 0, .ref (a 4), .int 0, .int 0, .int 0, .int 0, .int 0, .int 0, .long 0, .int 0, .int 0, .int 0, .int 0, .int 0, .int 0, .ref (a 18), .ref (a 19), .ref (a 20), .ref (a 21), .ref (a 22), .ref (a 23), .ref (a 24), .ref (a 25), .ref (a 26), .ref (a 27), .ref (a 28), .ref (a 29), .ref (a 30), .ref (a 31), .ref (a 32), .ref (a 33), .ref (a 34), .ref (a 35), .long 0, .int 0, .ref (a 38), .ref (a 39), .int 0, .ref (a 41), .ref (a 42), .ref (a 43)])), ((a 21), .inl ((ca 21), 2, .inl (fun _ => 0))), ((a 20), .inl ((ca 20), 2, .inl (fun _ => 0)))] sz) U)) (va_Qi (fun (r : Int32) (u : Unit) => r = (-1)) (fun (_ : Unit) (_ : State) => True) (va_A [(m0, .inr (8, [.int 0, .int 0, .int 0, .int 0, .ref (a 4), .int 0, .int 0, .int 0, .int 0, .int 0, .int 0, .long 0, .int 0, .int 0, .int 0, .int 0, .int 0, .int 0, .ref (a 18), .ref (a 19), .ref (a 20), .ref (a 21), .ref (a 22), .ref (a 23), .ref (a 24), .ref (a 25), .ref (a 26), .ref (a 27), .ref (a 28), .ref (a 29), .ref (a 30), .ref (a 31), .ref (a 32), .ref (a 33), .ref (a 34), .ref (a 35), .long 0, .int 0, .ref (a 38), .ref (a 39), .int 0, .ref (a 41), .ref (a 42), .ref (a 43)])), ((a 21), .inl ((ca 21), 2, .inl (fun _ => 0))), ((a 20), .inl ((ca 20), 2, .inl (fun _ => 0)))] sz)) 0 0 (va_A [(m0, .inr (8, [.int 0, .int 0, .int 0, .int 0, .ref (a 4), .int 0, .int 0, .int 0, .int 0, .int 0, .int 0, .long 0, .int 0, .int 0, .int 0, .int 0, .int 0, .int 0, .ref (a 18), .ref (a 19), .ref (a 20), .ref (a 21), .ref (a 22), .ref (a 23), .ref (a 24), .ref (a 25), .ref (a 26), .ref (a 27), .ref (a 28), .ref (a 29), .ref (a 30), .ref (a 31), .ref (a 32), .ref (a 33), .ref (a 34), .ref (a 35), .long 0, .int 0, .ref (a 38), .ref (a 39), .int 0, .ref (a 41), .ref (a 42), .ref (a 43)])), ((a 21), .inl ((ca 21), 2, .inl (fun _ => 0))), ((a 20), .inl ((ca 20), 2, .inl (fun _ => 0)))] sz) := by
  refine Met.ofW (cc := cX9_reason) (maxL := 5) (ret := (some .int)) (by decide) rfl ?_
  intro p e s m args below meth c s₁ B hml hv
  obtain ⟨rfl, hsz, hP, hK, hD0, hE⟩ := hv
  have hx := B.exec
  have hb := B.bytes
  have hr := B.returns
  have hts0 := atoms_spec (ws := (.code yX9_reason cX9_reason 5 (some .int) :: TBL)) B.pre
  have hts := fun (w : Cond) (h : w ∈ TBL) => hts0 w (List.mem_cons_of_mem _ h)
  have hown : s.vm.findClass RX9 = some m.cls := findClass_of_methodNamed B.named
  have hlocks := B.notSynchronized
  have hN := hE.1
  subst hsz
  have hD := hD0.self (sz := s.heap.size)
  generalize hAe : va_A [(m0, .inr (8, [.int 0, .int 0, .int 0, .int 0, .ref (a 4), .int 0, .int 0, .int 0, .int 0, .int 0, .int 0, .long 0, .int 0, .int 0, .int 0, .int 0, .int 0, .int 0, .ref (a 18), .ref (a 19), .ref (a 20), .ref (a 21), .ref (a 22), .ref (a 23), .ref (a 24), .ref (a 25), .ref (a 26), .ref (a 27), .ref (a 28), .ref (a 29), .ref (a 30), .ref (a 31), .ref (a 32), .ref (a 33), .ref (a 34), .ref (a 35), .long 0, .int 0, .ref (a 38), .ref (a 39), .int 0, .ref (a 41), .ref (a 42), .ref (a 43)])), ((a 21), .inl ((ca 21), 2, .inl (fun _ => 0))), ((a 20), .inl ((ca 20), 2, .inl (fun _ => 0)))] s.heap.size = A at hD hE ⊢
  have hA : ∀ q : Nat, s.heap.size ≤ q → A q := fun q h => by rw [← hAe]; exact Or.inr h
  have hS : va_S A s.heap s.heap [] := va_S.rf
  have hP : va_P (dC, dI) vwCl [(m0, .inr (8, [.int 0, .int 0, .int 0, .int 0, .ref (a 4), .int 0, .int 0, .int 0, .int 0, .int 0, .int 0, .long 0, .int 0, .int 0, .int 0, .int 0, .int 0, .int 0, .ref (a 18), .ref (a 19), .ref (a 20), .ref (a 21), .ref (a 22), .ref (a 23), .ref (a 24), .ref (a 25), .ref (a 26), .ref (a 27), .ref (a 28), .ref (a 29), .ref (a 30), .ref (a 31), .ref (a 32), .ref (a 33), .ref (a 34), .ref (a 35), .long 0, .int 0, .ref (a 38), .ref (a 39), .int 0, .ref (a 41), .ref (a 42), .ref (a 43)])), ((a 21), .inl ((ca 21), 2, .inl (fun _ => 0))), ((a 20), .inl ((ca 20), 2, .inl (fun _ => 0)))] s.heap := hP
  have hl := lv_entry ([.ref m0, .int pa, .int pb]) (n := 5) (Nat.le_of_ble_eq_true rfl)
  rw [lg_entry_eq]
  generalize (lg_sl ([.ref m0, .int pa, .int pb]) ++ List.replicate (5 - (lg_sl ([.ref m0, .int pa, .int pb])).length) Slot.unset).toArray = ls at hl ⊢
  have hl : lv_has ls 5 [(0, .ref m0), (1, .int pa), (2, .int pb)] := hl
  refine lv_aload_n hx hb dX9_reason_0 rfl (lv_at hl 0 rfl) ?_
  refine lv_iconst (v := 0) hx hb dX9_reason_1 (by decide) ?_
  refine va_put (D := (dC, dI)) (ci := 8) (v := .int 0) (ty := .int) (C := RX9) (T := TX9) (N := 44) hx hb hts inlX9 tyX9 tyX9_ok nmX9 hown hK hP hD hS 0 rfl rfl 0 (by decide) (hts (.fieldLink RX9 85 "ClosedUntilModel" "thrown" "I") qw_43) (fun _ h9 => h9) rfl (by decide +kernel) rfl rfl (Nat.le_of_ble_eq_true rfl) dX9_reason_2 (fun H locs hP hD hS => ?_)
  have hP : va_P (dC, dI) vwCl [(m0, .inr (8, [.int 0, .int 0, .int 0, .int 0, .ref (a 4), .int 0, .int 0, .int 0, .int 0, .int 0, .int 0, .long 0, .int 0, .int 0, .int 0, .int 0, .int 0, .int 0, .ref (a 18), .ref (a 19), .ref (a 20), .ref (a 21), .ref (a 22), .ref (a 23), .ref (a 24), .ref (a 25), .ref (a 26), .ref (a 27), .ref (a 28), .ref (a 29), .ref (a 30), .ref (a 31), .ref (a 32), .ref (a 33), .ref (a 34), .ref (a 35), .long 0, .int 0, .ref (a 38), .ref (a 39), .int 0, .ref (a 41), .ref (a 42), .ref (a 43)])), ((a 21), .inl ((ca 21), 2, .inl (fun _ => 0))), ((a 20), .inl ((ca 20), 2, .inl (fun _ => 0)))] H := hP
  have hD : va_D A [(m0, .inr (8, [.int 0, .int 0, .int 0, .int 0, .ref (a 4), .int 0, .int 0, .int 0, .int 0, .int 0, .int 0, .long 0, .int 0, .int 0, .int 0, .int 0, .int 0, .int 0, .ref (a 18), .ref (a 19), .ref (a 20), .ref (a 21), .ref (a 22), .ref (a 23), .ref (a 24), .ref (a 25), .ref (a 26), .ref (a 27), .ref (a 28), .ref (a 29), .ref (a 30), .ref (a 31), .ref (a 32), .ref (a 33), .ref (a 34), .ref (a 35), .long 0, .int 0, .ref (a 38), .ref (a 39), .int 0, .ref (a 41), .ref (a 42), .ref (a 43)])), ((a 21), .inl ((ca 21), 2, .inl (fun _ => 0))), ((a 20), .inl ((ca 20), 2, .inl (fun _ => 0)))] := hD
  refine lv_aload_n hx hb dX9_reason_5 rfl (lv_at hl 0 rfl) ?_
  have hPc := hP.sub (ws' := [(m0, .inr (8, [.int 0, .int 0, .int 0, .int 0, .ref (a 4), .int 0, .int 0, .int 0, .int 0, .int 0, .int 0, .long 0, .int 0, .int 0, .int 0, .int 0, .int 0, .int 0, .ref (a 18), .ref (a 19), .ref (a 20), .ref (a 21), .ref (a 22), .ref (a 23), .ref (a 24), .ref (a 25), .ref (a 26), .ref (a 27), .ref (a 28), .ref (a 29), .ref (a 30), .ref (a 31), .ref (a 32), .ref (a 33), .ref (a 34), .ref (a 35), .long 0, .int 0, .ref (a 38), .ref (a 39), .int 0, .ref (a 41), .ref (a 42), .ref (a 43)])), ((a 21), .inl ((ca 21), 2, .inl (fun _ => 0)))]) [0, 1] rfl
  have hKc := hK.sub (tys' := [((ca 21), .int)]) [0] rfl
  refine va_csv ((va_runV (As := []) (rest := []) ⟨hx, hb, hml, hown, hts⟩ (c_9lays l dC dI g (m0) (a) (ca) ) (cwV 0 hts (gwV qw_338 qw_339 qw_340 qw_23 qw_337) rfl rfl rfl (by decide +kernel) ⟨Nat.le_of_ble_eq_true rfl, Nat.le_of_ble_eq_true rfl⟩) ⟨fun a U g9 mk q => ⟨q.1, q.2.1, va_K.moved (u := U) (U := U.calling g9 mk a) (Vm.Alike.refl U.vm) q.2.2.1, Ev.bl q.2.2.2⟩, va_recv hK hP (ci := 8) (q0 := 0) rfl rfl, fun U hU hW => ⟨rfl, by rw [hU]; exact hPc, va_K.moved hW.alike hKc, hE.go hS (fun _ h => h.elim) hU hW⟩⟩ rfl rfl hl.1 rfl (lv_room (Nat.le_of_ble_eq_true rfl)) dX9_reason_6 ⟨Nat.le_of_ble_eq_true rfl, Nat.le_of_ble_eq_true rfl⟩)).run (fun _ => ?_)
  refine lv_aload_n hx hb dX9_reason_9 rfl (lv_at hl 0 rfl) ?_
  refine lv_iload_n hx hb dX9_reason_10 rfl (lv_at hl 1 rfl) ?_
  have hPc := hP.sub (ws' := [(m0, .inr (8, [.int 0, .int 0, .int 0, .int 0, .ref (a 4), .int 0, .int 0, .int 0, .int 0, .int 0, .int 0, .long 0, .int 0, .int 0, .int 0, .int 0, .int 0, .int 0, .ref (a 18), .ref (a 19), .ref (a 20), .ref (a 21), .ref (a 22), .ref (a 23), .ref (a 24), .ref (a 25), .ref (a 26), .ref (a 27), .ref (a 28), .ref (a 29), .ref (a 30), .ref (a 31), .ref (a 32), .ref (a 33), .ref (a 34), .ref (a 35), .long 0, .int 0, .ref (a 38), .ref (a 39), .int 0, .ref (a 41), .ref (a 42), .ref (a 43)])), ((a 20), .inl ((ca 20), 2, .inl (fun _ => 0)))]) [0, 2] rfl
  have hKc := hK.sub (tys' := [((ca 20), .int)]) [1] rfl
  refine vp_callSi ((va_runV (As := [.int pa]) (rest := []) ⟨hx, hb, hml, hown, hts⟩ (c_9isPiece l dC dI g (m0) (a) (ca) (pa) ) (cwV 1 hts (gwV qw_326 qw_327 qw_328 qw_23 qw_325) rfl rfl rfl (by decide +kernel) ⟨Nat.le_of_ble_eq_true rfl, Nat.le_of_ble_eq_true rfl⟩) ⟨fun a U g9 mk q => ⟨q.1, q.2.1, va_K.moved (u := U) (U := U.calling g9 mk a) (Vm.Alike.refl U.vm) q.2.2.1, Ev.bl q.2.2.2⟩, va_recv hK hP (ci := 8) (q0 := 0) rfl rfl, fun U hU hW => ⟨rfl, by rw [hU]; exact hPc, va_K.moved hW.alike hKc, hE.go hS (fun _ h => h.elim) hU hW⟩⟩ rfl rfl hl.1 rfl (lv_room (Nat.le_of_ble_eq_true rfl)) dX9_reason_11 ⟨Nat.le_of_ble_eq_true rfl, Nat.le_of_ble_eq_true rfl⟩)).run (fun r1 h_r1 => ?_)
  have h_r1 : r1 = 0 := h_r1
  subst h_r1
  refine lv_if_eq (tgt := 24) hx hb dX9_reason_14 (by decide) (fun c14_2 => ?_) (fun c14_2 => by exfalso; exact absurd c14_2 (by decide))
  refine lv_iconst (v := (-1)) hx hb dX9_reason_24 (by decide) ?_
  refine W.widen (k := 0) (n := 0) (Nat.le_of_ble_eq_true rfl) (Nat.le_of_ble_eq_true rfl) ?_
  exact W.iret (v := (-1)) hx hb hr (fun t ht hW => ⟨⟨(-1), (), rfl, (rfl), trivial⟩, hS.F ht⟩) hS.2.2 dX9_reason_25
set_option maxHeartbeats 4000000 in
set_option maxRecDepth 100000 in
theorem c_9closedBy (l : Launch) (dC : Nat → ClassId) (dI : Nat → Nat → Nat) (g : Gv) (sz : Nat) (m0 : Nat) (a : Nat → Nat) (ca : Nat → ClassId) (pa : Int32) (pb : Int32)  : Met l yX9_closedBy (.code yX9_closedBy cX9_closedBy 5 (some .int) :: TBL) ({ frames := 3, cells := 0, slots := 0, locals := 180 }) (va_Pc [.ref m0, .int pa, .int pb] (fun U => U.heap.size = sz ∧ va_P (dC, dI) vwCl [(m0, .inr (8, [.int 0, .int 0, .int 0, .int 0, .ref (a 4), .int 0, .int 0, .int 0, .int 0, .int 0, .int 0, .long 0, .int 0, .int 0, .int 0, .int 0, .int 0, .int 0, .ref (a 18), .ref (a 19), .ref (a 20), .ref (a 21), .ref (a 22), .ref (a 23), .ref (a 24), .ref (a 25), .ref (a 26), .ref (a 27), .ref (a 28), .ref (a 29), .ref (a 30), .ref (a 31), .ref (a 32), .ref (a 33), .ref (a 34), .ref (a 35), .long 0, .int 0, .ref (a 38), .ref (a 39), .int 0, .ref (a 41), .ref (a 42), .ref (a 43)])), ((a 20), .inl ((ca 20), 2, .inl (fun _ => 0)))] U.heap ∧ va_K (dC, dI) vwCl [((ca 20), .int)] U ∧ va_D (fun _ => True) [(m0, .inr (8, [.int 0, .int 0, .int 0, .int 0, .ref (a 4), .int 0, .int 0, .int 0, .int 0, .int 0, .int 0, .long 0, .int 0, .int 0, .int 0, .int 0, .int 0, .int 0, .ref (a 18), .ref (a 19), .ref (a 20), .ref (a 21), .ref (a 22), .ref (a 23), .ref (a 24), .ref (a 25), .ref (a 26), .ref (a 27), .ref (a 28), .ref (a 29), .ref (a 30), .ref (a 31), .ref (a 32), .ref (a 33), .ref (a 34), .ref (a 35), .long 0, .int 0, .ref (a 38), .ref (a 39), .int 0, .ref (a 41), .ref (a 42), .ref (a 43)])), ((a 20), .inl ((ca 20), 2, .inl (fun _ => 0)))] ∧ Ev g (va_A [(m0, .inr (8, [.int 0, .int 0, .int 0, .int 0, .ref (a 4), .int 0, .int 0, .int 0, .int 0, .int 0, .int 0, .long 0, .int 0, .int 0, .int 0, .int 0, .int 0, .int 0, .ref (a 18), .ref (a 19), .ref (a 20), .ref (a 21), .ref (a 22), .ref (a 23), .ref (a 24), .ref (a 25), .ref (a 26), .ref (a 27), .ref (a 28), .ref (a 29), .ref (a 30), .ref (a 31), .ref (a 32), .ref (a 33), .ref (a 34), .ref (a 35), .long 0, .int 0, .ref (a 38), .ref (a 39), .int 0, .ref (a 41), .ref (a 42), .ref (a 43)])), ((a 20), .inl ((ca 20), 2, .inl (fun _ => 0)))] sz) U)) (va_Qi (fun (r : Int32) (u : Unit) => r = (-1)) (fun (_ : Unit) (_ : State) => True) (va_A [(m0, .inr (8, [.int 0, .int 0, .int 0, .int 0, .ref (a 4), .int 0, .int 0, .int 0, .int 0, .int 0, .int 0, .long 0, .int 0, .int 0, .int 0, .int 0, .int 0, .int 0, .ref (a 18), .ref (a 19), .ref (a 20), .ref (a 21), .ref (a 22), .ref (a 23), .ref (a 24), .ref (a 25), .ref (a 26), .ref (a 27), .ref (a 28), .ref (a 29), .ref (a 30), .ref (a 31), .ref (a 32), .ref (a 33), .ref (a 34), .ref (a 35), .long 0, .int 0, .ref (a 38), .ref (a 39), .int 0, .ref (a 41), .ref (a 42), .ref (a 43)])), ((a 20), .inl ((ca 20), 2, .inl (fun _ => 0)))] sz)) 0 0 (va_A [(m0, .inr (8, [.int 0, .int 0, .int 0, .int 0, .ref (a 4), .int 0, .int 0, .int 0, .int 0, .int 0, .int 0, .long 0, .int 0, .int 0, .int 0, .int 0, .int 0, .int 0, .ref (a 18), .ref (a 19), .ref (a 20), .ref (a 21), .ref (a 22), .ref (a 23), .ref (a 24), .ref (a 25), .ref (a 26), .ref (a 27), .ref (a 28), .ref (a 29), .ref (a 30), .ref (a 31), .ref (a 32), .ref (a 33), .ref (a 34), .ref (a 35), .long 0, .int 0, .ref (a 38), .ref (a 39), .int 0, .ref (a 41), .ref (a 42), .ref (a 43)])), ((a 20), .inl ((ca 20), 2, .inl (fun _ => 0)))] sz) := by
  refine Met.ofW (cc := cX9_closedBy) (maxL := 5) (ret := (some .int)) (by decide) rfl ?_
  intro p e s m args below meth c s₁ B hml hv
  obtain ⟨rfl, hsz, hP, hK, hD0, hE⟩ := hv
  have hx := B.exec
  have hb := B.bytes
  have hr := B.returns
  have hts0 := atoms_spec (ws := (.code yX9_closedBy cX9_closedBy 5 (some .int) :: TBL)) B.pre
  have hts := fun (w : Cond) (h : w ∈ TBL) => hts0 w (List.mem_cons_of_mem _ h)
  have hown : s.vm.findClass RX9 = some m.cls := findClass_of_methodNamed B.named
  have hlocks := B.notSynchronized
  have hN := hE.1
  subst hsz
  have hD := hD0.self (sz := s.heap.size)
  generalize hAe : va_A [(m0, .inr (8, [.int 0, .int 0, .int 0, .int 0, .ref (a 4), .int 0, .int 0, .int 0, .int 0, .int 0, .int 0, .long 0, .int 0, .int 0, .int 0, .int 0, .int 0, .int 0, .ref (a 18), .ref (a 19), .ref (a 20), .ref (a 21), .ref (a 22), .ref (a 23), .ref (a 24), .ref (a 25), .ref (a 26), .ref (a 27), .ref (a 28), .ref (a 29), .ref (a 30), .ref (a 31), .ref (a 32), .ref (a 33), .ref (a 34), .ref (a 35), .long 0, .int 0, .ref (a 38), .ref (a 39), .int 0, .ref (a 41), .ref (a 42), .ref (a 43)])), ((a 20), .inl ((ca 20), 2, .inl (fun _ => 0)))] s.heap.size = A at hD hE ⊢
  have hA : ∀ q : Nat, s.heap.size ≤ q → A q := fun q h => by rw [← hAe]; exact Or.inr h
  have hS : va_S A s.heap s.heap [] := va_S.rf
  have hP : va_P (dC, dI) vwCl [(m0, .inr (8, [.int 0, .int 0, .int 0, .int 0, .ref (a 4), .int 0, .int 0, .int 0, .int 0, .int 0, .int 0, .long 0, .int 0, .int 0, .int 0, .int 0, .int 0, .int 0, .ref (a 18), .ref (a 19), .ref (a 20), .ref (a 21), .ref (a 22), .ref (a 23), .ref (a 24), .ref (a 25), .ref (a 26), .ref (a 27), .ref (a 28), .ref (a 29), .ref (a 30), .ref (a 31), .ref (a 32), .ref (a 33), .ref (a 34), .ref (a 35), .long 0, .int 0, .ref (a 38), .ref (a 39), .int 0, .ref (a 41), .ref (a 42), .ref (a 43)])), ((a 20), .inl ((ca 20), 2, .inl (fun _ => 0)))] s.heap := hP
  have hl := lv_entry ([.ref m0, .int pa, .int pb]) (n := 5) (Nat.le_of_ble_eq_true rfl)
  rw [lg_entry_eq]
  generalize (lg_sl ([.ref m0, .int pa, .int pb]) ++ List.replicate (5 - (lg_sl ([.ref m0, .int pa, .int pb])).length) Slot.unset).toArray = ls at hl ⊢
  have hl : lv_has ls 5 [(0, .ref m0), (1, .int pa), (2, .int pb)] := hl
  refine lv_aload_n hx hb dX9_closedBy_0 rfl (lv_at hl 0 rfl) ?_
  refine lv_iconst (v := 0) hx hb dX9_closedBy_1 (by decide) ?_
  refine va_put (D := (dC, dI)) (ci := 8) (v := .int 0) (ty := .int) (C := RX9) (T := TX9) (N := 44) hx hb hts inlX9 tyX9 tyX9_ok nmX9 hown hK hP hD hS 0 rfl rfl 0 (by decide) (hts (.fieldLink RX9 85 "ClosedUntilModel" "thrown" "I") qw_43) (fun _ h9 => h9) rfl (by decide +kernel) rfl rfl (Nat.le_of_ble_eq_true rfl) dX9_closedBy_2 (fun H locs hP hD hS => ?_)
  have hP : va_P (dC, dI) vwCl [(m0, .inr (8, [.int 0, .int 0, .int 0, .int 0, .ref (a 4), .int 0, .int 0, .int 0, .int 0, .int 0, .int 0, .long 0, .int 0, .int 0, .int 0, .int 0, .int 0, .int 0, .ref (a 18), .ref (a 19), .ref (a 20), .ref (a 21), .ref (a 22), .ref (a 23), .ref (a 24), .ref (a 25), .ref (a 26), .ref (a 27), .ref (a 28), .ref (a 29), .ref (a 30), .ref (a 31), .ref (a 32), .ref (a 33), .ref (a 34), .ref (a 35), .long 0, .int 0, .ref (a 38), .ref (a 39), .int 0, .ref (a 41), .ref (a 42), .ref (a 43)])), ((a 20), .inl ((ca 20), 2, .inl (fun _ => 0)))] H := hP
  have hD : va_D A [(m0, .inr (8, [.int 0, .int 0, .int 0, .int 0, .ref (a 4), .int 0, .int 0, .int 0, .int 0, .int 0, .int 0, .long 0, .int 0, .int 0, .int 0, .int 0, .int 0, .int 0, .ref (a 18), .ref (a 19), .ref (a 20), .ref (a 21), .ref (a 22), .ref (a 23), .ref (a 24), .ref (a 25), .ref (a 26), .ref (a 27), .ref (a 28), .ref (a 29), .ref (a 30), .ref (a 31), .ref (a 32), .ref (a 33), .ref (a 34), .ref (a 35), .long 0, .int 0, .ref (a 38), .ref (a 39), .int 0, .ref (a 41), .ref (a 42), .ref (a 43)])), ((a 20), .inl ((ca 20), 2, .inl (fun _ => 0)))] := hD
  refine lv_aload_n hx hb dX9_closedBy_5 rfl (lv_at hl 0 rfl) ?_
  refine lv_iload_n hx hb dX9_closedBy_6 rfl (lv_at hl 1 rfl) ?_
  have hPc := hP.sub (ws' := [(m0, .inr (8, [.int 0, .int 0, .int 0, .int 0, .ref (a 4), .int 0, .int 0, .int 0, .int 0, .int 0, .int 0, .long 0, .int 0, .int 0, .int 0, .int 0, .int 0, .int 0, .ref (a 18), .ref (a 19), .ref (a 20), .ref (a 21), .ref (a 22), .ref (a 23), .ref (a 24), .ref (a 25), .ref (a 26), .ref (a 27), .ref (a 28), .ref (a 29), .ref (a 30), .ref (a 31), .ref (a 32), .ref (a 33), .ref (a 34), .ref (a 35), .long 0, .int 0, .ref (a 38), .ref (a 39), .int 0, .ref (a 41), .ref (a 42), .ref (a 43)])), ((a 20), .inl ((ca 20), 2, .inl (fun _ => 0)))]) [0, 1] rfl
  have hKc := hK.sub (tys' := [((ca 20), .int)]) [0] rfl
  refine vp_callSi ((va_runV (As := [.int pa]) (rest := []) ⟨hx, hb, hml, hown, hts⟩ (c_9isPiece l dC dI g (m0) (a) (ca) (pa) ) (cwV 1 hts (gwV qw_326 qw_327 qw_328 qw_23 qw_325) rfl rfl rfl (by decide +kernel) ⟨Nat.le_of_ble_eq_true rfl, Nat.le_of_ble_eq_true rfl⟩) ⟨fun a U g9 mk q => ⟨q.1, q.2.1, va_K.moved (u := U) (U := U.calling g9 mk a) (Vm.Alike.refl U.vm) q.2.2.1, Ev.bl q.2.2.2⟩, va_recv hK hP (ci := 8) (q0 := 0) rfl rfl, fun U hU hW => ⟨rfl, by rw [hU]; exact hPc, va_K.moved hW.alike hKc, hE.go hS (fun _ h => h.elim) hU hW⟩⟩ rfl rfl hl.1 rfl (lv_room (Nat.le_of_ble_eq_true rfl)) dX9_closedBy_7 ⟨Nat.le_of_ble_eq_true rfl, Nat.le_of_ble_eq_true rfl⟩)).run (fun r1 h_r1 => ?_)
  have h_r1 : r1 = 0 := h_r1
  subst h_r1
  refine lv_if_eq (tgt := 25) hx hb dX9_closedBy_10 (by decide) (fun c10_2 => ?_) (fun c10_2 => by exfalso; exact absurd c10_2 (by decide))
  refine lv_iconst (v := (-1)) hx hb dX9_closedBy_25 (by decide) ?_
  refine W.widen (k := 0) (n := 0) (Nat.le_of_ble_eq_true rfl) (Nat.le_of_ble_eq_true rfl) ?_
  exact W.iret (v := (-1)) hx hb hr (fun t ht hW => ⟨⟨(-1), (), rfl, (rfl), trivial⟩, hS.F ht⟩) hS.2.2 dX9_closedBy_26
set_option maxHeartbeats 4000000 in
set_option maxRecDepth 100000 in
theorem c_9lift (l : Launch) (dC : Nat → ClassId) (dI : Nat → Nat → Nat) (g : Gv) (sz : Nat) (m0 : Nat) (a : Nat → Nat) (ca : Nat → ClassId) (pa : Int32) (pb : Int32)  : Met l yX9_lift (.code yX9_lift cX9_lift 4 (some .int) :: TBL) ({ frames := 3, cells := 0, slots := 0, locals := 180 }) (va_Pc [.ref m0, .int pa, .int pb] (fun U => U.heap.size = sz ∧ va_P (dC, dI) vwCl [(m0, .inr (8, [.int 0, .int 0, .int 0, .int 0, .ref (a 4), .int 0, .int 0, .int 0, .int 0, .int 0, .int 0, .long 0, .int 0, .int 0, .int 0, .int 0, .int 0, .int 0, .ref (a 18), .ref (a 19), .ref (a 20), .ref (a 21), .ref (a 22), .ref (a 23), .ref (a 24), .ref (a 25), .ref (a 26), .ref (a 27), .ref (a 28), .ref (a 29), .ref (a 30), .ref (a 31), .ref (a 32), .ref (a 33), .ref (a 34), .ref (a 35), .long 0, .int 0, .ref (a 38), .ref (a 39), .int 0, .ref (a 41), .ref (a 42), .ref (a 43)])), ((a 21), .inl ((ca 21), 2, .inl (fun _ => 0)))] U.heap ∧ va_K (dC, dI) vwCl [((ca 21), .int)] U ∧ va_D (fun _ => True) [(m0, .inr (8, [.int 0, .int 0, .int 0, .int 0, .ref (a 4), .int 0, .int 0, .int 0, .int 0, .int 0, .int 0, .long 0, .int 0, .int 0, .int 0, .int 0, .int 0, .int 0, .ref (a 18), .ref (a 19), .ref (a 20), .ref (a 21), .ref (a 22), .ref (a 23), .ref (a 24), .ref (a 25), .ref (a 26), .ref (a 27), .ref (a 28), .ref (a 29), .ref (a 30), .ref (a 31), .ref (a 32), .ref (a 33), .ref (a 34), .ref (a 35), .long 0, .int 0, .ref (a 38), .ref (a 39), .int 0, .ref (a 41), .ref (a 42), .ref (a 43)])), ((a 21), .inl ((ca 21), 2, .inl (fun _ => 0)))] ∧ Ev g (va_A [(m0, .inr (8, [.int 0, .int 0, .int 0, .int 0, .ref (a 4), .int 0, .int 0, .int 0, .int 0, .int 0, .int 0, .long 0, .int 0, .int 0, .int 0, .int 0, .int 0, .int 0, .ref (a 18), .ref (a 19), .ref (a 20), .ref (a 21), .ref (a 22), .ref (a 23), .ref (a 24), .ref (a 25), .ref (a 26), .ref (a 27), .ref (a 28), .ref (a 29), .ref (a 30), .ref (a 31), .ref (a 32), .ref (a 33), .ref (a 34), .ref (a 35), .long 0, .int 0, .ref (a 38), .ref (a 39), .int 0, .ref (a 41), .ref (a 42), .ref (a 43)])), ((a 21), .inl ((ca 21), 2, .inl (fun _ => 0)))] sz) U)) (va_Qi (fun (r : Int32) (u : Unit) => r = (-2)) (fun (_ : Unit) (_ : State) => True) (va_A [(m0, .inr (8, [.int 0, .int 0, .int 0, .int 0, .ref (a 4), .int 0, .int 0, .int 0, .int 0, .int 0, .int 0, .long 0, .int 0, .int 0, .int 0, .int 0, .int 0, .int 0, .ref (a 18), .ref (a 19), .ref (a 20), .ref (a 21), .ref (a 22), .ref (a 23), .ref (a 24), .ref (a 25), .ref (a 26), .ref (a 27), .ref (a 28), .ref (a 29), .ref (a 30), .ref (a 31), .ref (a 32), .ref (a 33), .ref (a 34), .ref (a 35), .long 0, .int 0, .ref (a 38), .ref (a 39), .int 0, .ref (a 41), .ref (a 42), .ref (a 43)])), ((a 21), .inl ((ca 21), 2, .inl (fun _ => 0)))] sz)) 0 0 (va_A [(m0, .inr (8, [.int 0, .int 0, .int 0, .int 0, .ref (a 4), .int 0, .int 0, .int 0, .int 0, .int 0, .int 0, .long 0, .int 0, .int 0, .int 0, .int 0, .int 0, .int 0, .ref (a 18), .ref (a 19), .ref (a 20), .ref (a 21), .ref (a 22), .ref (a 23), .ref (a 24), .ref (a 25), .ref (a 26), .ref (a 27), .ref (a 28), .ref (a 29), .ref (a 30), .ref (a 31), .ref (a 32), .ref (a 33), .ref (a 34), .ref (a 35), .long 0, .int 0, .ref (a 38), .ref (a 39), .int 0, .ref (a 41), .ref (a 42), .ref (a 43)])), ((a 21), .inl ((ca 21), 2, .inl (fun _ => 0)))] sz) := by
  refine Met.ofW (cc := cX9_lift) (maxL := 4) (ret := (some .int)) (by decide) rfl ?_
  intro p e s m args below meth c s₁ B hml hv
  obtain ⟨rfl, hsz, hP, hK, hD0, hE⟩ := hv
  have hx := B.exec
  have hb := B.bytes
  have hr := B.returns
  have hts0 := atoms_spec (ws := (.code yX9_lift cX9_lift 4 (some .int) :: TBL)) B.pre
  have hts := fun (w : Cond) (h : w ∈ TBL) => hts0 w (List.mem_cons_of_mem _ h)
  have hown : s.vm.findClass RX9 = some m.cls := findClass_of_methodNamed B.named
  have hlocks := B.notSynchronized
  have hN := hE.1
  subst hsz
  have hD := hD0.self (sz := s.heap.size)
  generalize hAe : va_A [(m0, .inr (8, [.int 0, .int 0, .int 0, .int 0, .ref (a 4), .int 0, .int 0, .int 0, .int 0, .int 0, .int 0, .long 0, .int 0, .int 0, .int 0, .int 0, .int 0, .int 0, .ref (a 18), .ref (a 19), .ref (a 20), .ref (a 21), .ref (a 22), .ref (a 23), .ref (a 24), .ref (a 25), .ref (a 26), .ref (a 27), .ref (a 28), .ref (a 29), .ref (a 30), .ref (a 31), .ref (a 32), .ref (a 33), .ref (a 34), .ref (a 35), .long 0, .int 0, .ref (a 38), .ref (a 39), .int 0, .ref (a 41), .ref (a 42), .ref (a 43)])), ((a 21), .inl ((ca 21), 2, .inl (fun _ => 0)))] s.heap.size = A at hD hE ⊢
  have hA : ∀ q : Nat, s.heap.size ≤ q → A q := fun q h => by rw [← hAe]; exact Or.inr h
  have hS : va_S A s.heap s.heap [] := va_S.rf
  have hP : va_P (dC, dI) vwCl [(m0, .inr (8, [.int 0, .int 0, .int 0, .int 0, .ref (a 4), .int 0, .int 0, .int 0, .int 0, .int 0, .int 0, .long 0, .int 0, .int 0, .int 0, .int 0, .int 0, .int 0, .ref (a 18), .ref (a 19), .ref (a 20), .ref (a 21), .ref (a 22), .ref (a 23), .ref (a 24), .ref (a 25), .ref (a 26), .ref (a 27), .ref (a 28), .ref (a 29), .ref (a 30), .ref (a 31), .ref (a 32), .ref (a 33), .ref (a 34), .ref (a 35), .long 0, .int 0, .ref (a 38), .ref (a 39), .int 0, .ref (a 41), .ref (a 42), .ref (a 43)])), ((a 21), .inl ((ca 21), 2, .inl (fun _ => 0)))] s.heap := hP
  have hl := lv_entry ([.ref m0, .int pa, .int pb]) (n := 4) (Nat.le_of_ble_eq_true rfl)
  rw [lg_entry_eq]
  generalize (lg_sl ([.ref m0, .int pa, .int pb]) ++ List.replicate (4 - (lg_sl ([.ref m0, .int pa, .int pb])).length) Slot.unset).toArray = ls at hl ⊢
  have hl : lv_has ls 4 [(0, .ref m0), (1, .int pa), (2, .int pb)] := hl
  refine lv_aload_n hx hb dX9_lift_0 rfl (lv_at hl 0 rfl) ?_
  refine lv_iconst (v := 0) hx hb dX9_lift_1 (by decide) ?_
  refine va_put (D := (dC, dI)) (ci := 8) (v := .int 0) (ty := .int) (C := RX9) (T := TX9) (N := 44) hx hb hts inlX9 tyX9 tyX9_ok nmX9 hown hK hP hD hS 0 rfl rfl 0 (by decide) (hts (.fieldLink RX9 85 "ClosedUntilModel" "thrown" "I") qw_43) (fun _ h9 => h9) rfl (by decide +kernel) rfl rfl (Nat.le_of_ble_eq_true rfl) dX9_lift_2 (fun H locs hP hD hS => ?_)
  have hP : va_P (dC, dI) vwCl [(m0, .inr (8, [.int 0, .int 0, .int 0, .int 0, .ref (a 4), .int 0, .int 0, .int 0, .int 0, .int 0, .int 0, .long 0, .int 0, .int 0, .int 0, .int 0, .int 0, .int 0, .ref (a 18), .ref (a 19), .ref (a 20), .ref (a 21), .ref (a 22), .ref (a 23), .ref (a 24), .ref (a 25), .ref (a 26), .ref (a 27), .ref (a 28), .ref (a 29), .ref (a 30), .ref (a 31), .ref (a 32), .ref (a 33), .ref (a 34), .ref (a 35), .long 0, .int 0, .ref (a 38), .ref (a 39), .int 0, .ref (a 41), .ref (a 42), .ref (a 43)])), ((a 21), .inl ((ca 21), 2, .inl (fun _ => 0)))] H := hP
  have hD : va_D A [(m0, .inr (8, [.int 0, .int 0, .int 0, .int 0, .ref (a 4), .int 0, .int 0, .int 0, .int 0, .int 0, .int 0, .long 0, .int 0, .int 0, .int 0, .int 0, .int 0, .int 0, .ref (a 18), .ref (a 19), .ref (a 20), .ref (a 21), .ref (a 22), .ref (a 23), .ref (a 24), .ref (a 25), .ref (a 26), .ref (a 27), .ref (a 28), .ref (a 29), .ref (a 30), .ref (a 31), .ref (a 32), .ref (a 33), .ref (a 34), .ref (a 35), .long 0, .int 0, .ref (a 38), .ref (a 39), .int 0, .ref (a 41), .ref (a 42), .ref (a 43)])), ((a 21), .inl ((ca 21), 2, .inl (fun _ => 0)))] := hD
  refine lv_aload_n hx hb dX9_lift_5 rfl (lv_at hl 0 rfl) ?_
  refine lv_iload_n hx hb dX9_lift_6 rfl (lv_at hl 1 rfl) ?_
  have hPc := hP.sub (ws' := [(m0, .inr (8, [.int 0, .int 0, .int 0, .int 0, .ref (a 4), .int 0, .int 0, .int 0, .int 0, .int 0, .int 0, .long 0, .int 0, .int 0, .int 0, .int 0, .int 0, .int 0, .ref (a 18), .ref (a 19), .ref (a 20), .ref (a 21), .ref (a 22), .ref (a 23), .ref (a 24), .ref (a 25), .ref (a 26), .ref (a 27), .ref (a 28), .ref (a 29), .ref (a 30), .ref (a 31), .ref (a 32), .ref (a 33), .ref (a 34), .ref (a 35), .long 0, .int 0, .ref (a 38), .ref (a 39), .int 0, .ref (a 41), .ref (a 42), .ref (a 43)])), ((a 21), .inl ((ca 21), 2, .inl (fun _ => 0)))]) [0, 1] rfl
  have hKc := hK.sub (tys' := [((ca 21), .int)]) [0] rfl
  refine vp_callSi ((va_runV (As := [.int pa]) (rest := []) ⟨hx, hb, hml, hown, hts⟩ (c_9isClosure l dC dI g (m0) (a) (ca) (pa) ) (cwV 1 hts (gwV qw_334 qw_335 qw_336 qw_23 qw_333) rfl rfl rfl (by decide +kernel) ⟨Nat.le_of_ble_eq_true rfl, Nat.le_of_ble_eq_true rfl⟩) ⟨fun a U g9 mk q => ⟨q.1, q.2.1, va_K.moved (u := U) (U := U.calling g9 mk a) (Vm.Alike.refl U.vm) q.2.2.1, Ev.bl q.2.2.2⟩, va_recv hK hP (ci := 8) (q0 := 0) rfl rfl, fun U hU hW => ⟨rfl, by rw [hU]; exact hPc, va_K.moved hW.alike hKc, hE.go hS (fun _ h => h.elim) hU hW⟩⟩ rfl rfl hl.1 rfl (lv_room (Nat.le_of_ble_eq_true rfl)) dX9_lift_7 ⟨Nat.le_of_ble_eq_true rfl, Nat.le_of_ble_eq_true rfl⟩)).run (fun r1 h_r1 => ?_)
  have h_r1 : r1 = 0 := h_r1
  subst h_r1
  refine lv_if_eq (tgt := 27) hx hb dX9_lift_10 (by decide) (fun c10_2 => ?_) (fun c10_2 => by exfalso; exact absurd c10_2 (by decide))
  refine lv_bipush (v := (-2)) hx hb dX9_lift_27 (by decide) ?_
  refine W.widen (k := 0) (n := 0) (Nat.le_of_ble_eq_true rfl) (Nat.le_of_ble_eq_true rfl) ?_
  exact W.iret (v := (-2)) hx hb hr (fun t ht hW => ⟨⟨(-2), (), rfl, (rfl), trivial⟩, hS.F ht⟩) hS.2.2 dX9_lift_29
set_option maxHeartbeats 4000000 in
set_option maxRecDepth 100000 in
theorem c_9died (l : Launch) (dC : Nat → ClassId) (dI : Nat → Nat → Nat) (g : Gv) (sz : Nat) (m0 : Nat) (a : Nat → Nat) (ca : Nat → ClassId) (pa : Int32) (pb : Int32)  : Met l yX9_died (.code yX9_died cX9_died 4 (some .int) :: TBL) ({ frames := 3, cells := 0, slots := 0, locals := 180 }) (va_Pc [.ref m0, .int pa, .int pb] (fun U => U.heap.size = sz ∧ va_P (dC, dI) vwCl [(m0, .inr (8, [.int 0, .int 0, .int 0, .int 0, .ref (a 4), .int 0, .int 0, .int 0, .int 0, .int 0, .int 0, .long 0, .int 0, .int 0, .int 0, .int 0, .int 0, .int 0, .ref (a 18), .ref (a 19), .ref (a 20), .ref (a 21), .ref (a 22), .ref (a 23), .ref (a 24), .ref (a 25), .ref (a 26), .ref (a 27), .ref (a 28), .ref (a 29), .ref (a 30), .ref (a 31), .ref (a 32), .ref (a 33), .ref (a 34), .ref (a 35), .long 0, .int 0, .ref (a 38), .ref (a 39), .int 0, .ref (a 41), .ref (a 42), .ref (a 43)])), ((a 18), .inl ((ca 18), 2, .inl (fun _ => 0)))] U.heap ∧ va_K (dC, dI) vwCl [((ca 18), .int)] U ∧ va_D (fun _ => True) [(m0, .inr (8, [.int 0, .int 0, .int 0, .int 0, .ref (a 4), .int 0, .int 0, .int 0, .int 0, .int 0, .int 0, .long 0, .int 0, .int 0, .int 0, .int 0, .int 0, .int 0, .ref (a 18), .ref (a 19), .ref (a 20), .ref (a 21), .ref (a 22), .ref (a 23), .ref (a 24), .ref (a 25), .ref (a 26), .ref (a 27), .ref (a 28), .ref (a 29), .ref (a 30), .ref (a 31), .ref (a 32), .ref (a 33), .ref (a 34), .ref (a 35), .long 0, .int 0, .ref (a 38), .ref (a 39), .int 0, .ref (a 41), .ref (a 42), .ref (a 43)])), ((a 18), .inl ((ca 18), 2, .inl (fun _ => 0)))] ∧ Ev g (va_A [(m0, .inr (8, [.int 0, .int 0, .int 0, .int 0, .ref (a 4), .int 0, .int 0, .int 0, .int 0, .int 0, .int 0, .long 0, .int 0, .int 0, .int 0, .int 0, .int 0, .int 0, .ref (a 18), .ref (a 19), .ref (a 20), .ref (a 21), .ref (a 22), .ref (a 23), .ref (a 24), .ref (a 25), .ref (a 26), .ref (a 27), .ref (a 28), .ref (a 29), .ref (a 30), .ref (a 31), .ref (a 32), .ref (a 33), .ref (a 34), .ref (a 35), .long 0, .int 0, .ref (a 38), .ref (a 39), .int 0, .ref (a 41), .ref (a 42), .ref (a 43)])), ((a 18), .inl ((ca 18), 2, .inl (fun _ => 0)))] sz) U)) (va_Qi (fun (r : Int32) (u : Unit) => r = (-2)) (fun (_ : Unit) (_ : State) => True) (va_A [(m0, .inr (8, [.int 0, .int 0, .int 0, .int 0, .ref (a 4), .int 0, .int 0, .int 0, .int 0, .int 0, .int 0, .long 0, .int 0, .int 0, .int 0, .int 0, .int 0, .int 0, .ref (a 18), .ref (a 19), .ref (a 20), .ref (a 21), .ref (a 22), .ref (a 23), .ref (a 24), .ref (a 25), .ref (a 26), .ref (a 27), .ref (a 28), .ref (a 29), .ref (a 30), .ref (a 31), .ref (a 32), .ref (a 33), .ref (a 34), .ref (a 35), .long 0, .int 0, .ref (a 38), .ref (a 39), .int 0, .ref (a 41), .ref (a 42), .ref (a 43)])), ((a 18), .inl ((ca 18), 2, .inl (fun _ => 0)))] sz)) 0 0 (va_A [(m0, .inr (8, [.int 0, .int 0, .int 0, .int 0, .ref (a 4), .int 0, .int 0, .int 0, .int 0, .int 0, .int 0, .long 0, .int 0, .int 0, .int 0, .int 0, .int 0, .int 0, .ref (a 18), .ref (a 19), .ref (a 20), .ref (a 21), .ref (a 22), .ref (a 23), .ref (a 24), .ref (a 25), .ref (a 26), .ref (a 27), .ref (a 28), .ref (a 29), .ref (a 30), .ref (a 31), .ref (a 32), .ref (a 33), .ref (a 34), .ref (a 35), .long 0, .int 0, .ref (a 38), .ref (a 39), .int 0, .ref (a 41), .ref (a 42), .ref (a 43)])), ((a 18), .inl ((ca 18), 2, .inl (fun _ => 0)))] sz) := by
  refine Met.ofW (cc := cX9_died) (maxL := 4) (ret := (some .int)) (by decide) rfl ?_
  intro p e s m args below meth c s₁ B hml hv
  obtain ⟨rfl, hsz, hP, hK, hD0, hE⟩ := hv
  have hx := B.exec
  have hb := B.bytes
  have hr := B.returns
  have hts0 := atoms_spec (ws := (.code yX9_died cX9_died 4 (some .int) :: TBL)) B.pre
  have hts := fun (w : Cond) (h : w ∈ TBL) => hts0 w (List.mem_cons_of_mem _ h)
  have hown : s.vm.findClass RX9 = some m.cls := findClass_of_methodNamed B.named
  have hlocks := B.notSynchronized
  have hN := hE.1
  subst hsz
  have hD := hD0.self (sz := s.heap.size)
  generalize hAe : va_A [(m0, .inr (8, [.int 0, .int 0, .int 0, .int 0, .ref (a 4), .int 0, .int 0, .int 0, .int 0, .int 0, .int 0, .long 0, .int 0, .int 0, .int 0, .int 0, .int 0, .int 0, .ref (a 18), .ref (a 19), .ref (a 20), .ref (a 21), .ref (a 22), .ref (a 23), .ref (a 24), .ref (a 25), .ref (a 26), .ref (a 27), .ref (a 28), .ref (a 29), .ref (a 30), .ref (a 31), .ref (a 32), .ref (a 33), .ref (a 34), .ref (a 35), .long 0, .int 0, .ref (a 38), .ref (a 39), .int 0, .ref (a 41), .ref (a 42), .ref (a 43)])), ((a 18), .inl ((ca 18), 2, .inl (fun _ => 0)))] s.heap.size = A at hD hE ⊢
  have hA : ∀ q : Nat, s.heap.size ≤ q → A q := fun q h => by rw [← hAe]; exact Or.inr h
  have hS : va_S A s.heap s.heap [] := va_S.rf
  have hP : va_P (dC, dI) vwCl [(m0, .inr (8, [.int 0, .int 0, .int 0, .int 0, .ref (a 4), .int 0, .int 0, .int 0, .int 0, .int 0, .int 0, .long 0, .int 0, .int 0, .int 0, .int 0, .int 0, .int 0, .ref (a 18), .ref (a 19), .ref (a 20), .ref (a 21), .ref (a 22), .ref (a 23), .ref (a 24), .ref (a 25), .ref (a 26), .ref (a 27), .ref (a 28), .ref (a 29), .ref (a 30), .ref (a 31), .ref (a 32), .ref (a 33), .ref (a 34), .ref (a 35), .long 0, .int 0, .ref (a 38), .ref (a 39), .int 0, .ref (a 41), .ref (a 42), .ref (a 43)])), ((a 18), .inl ((ca 18), 2, .inl (fun _ => 0)))] s.heap := hP
  have hl := lv_entry ([.ref m0, .int pa, .int pb]) (n := 4) (Nat.le_of_ble_eq_true rfl)
  rw [lg_entry_eq]
  generalize (lg_sl ([.ref m0, .int pa, .int pb]) ++ List.replicate (4 - (lg_sl ([.ref m0, .int pa, .int pb])).length) Slot.unset).toArray = ls at hl ⊢
  have hl : lv_has ls 4 [(0, .ref m0), (1, .int pa), (2, .int pb)] := hl
  refine lv_aload_n hx hb dX9_died_0 rfl (lv_at hl 0 rfl) ?_
  refine lv_iconst (v := 0) hx hb dX9_died_1 (by decide) ?_
  refine va_put (D := (dC, dI)) (ci := 8) (v := .int 0) (ty := .int) (C := RX9) (T := TX9) (N := 44) hx hb hts inlX9 tyX9 tyX9_ok nmX9 hown hK hP hD hS 0 rfl rfl 0 (by decide) (hts (.fieldLink RX9 85 "ClosedUntilModel" "thrown" "I") qw_43) (fun _ h9 => h9) rfl (by decide +kernel) rfl rfl (Nat.le_of_ble_eq_true rfl) dX9_died_2 (fun H locs hP hD hS => ?_)
  have hP : va_P (dC, dI) vwCl [(m0, .inr (8, [.int 0, .int 0, .int 0, .int 0, .ref (a 4), .int 0, .int 0, .int 0, .int 0, .int 0, .int 0, .long 0, .int 0, .int 0, .int 0, .int 0, .int 0, .int 0, .ref (a 18), .ref (a 19), .ref (a 20), .ref (a 21), .ref (a 22), .ref (a 23), .ref (a 24), .ref (a 25), .ref (a 26), .ref (a 27), .ref (a 28), .ref (a 29), .ref (a 30), .ref (a 31), .ref (a 32), .ref (a 33), .ref (a 34), .ref (a 35), .long 0, .int 0, .ref (a 38), .ref (a 39), .int 0, .ref (a 41), .ref (a 42), .ref (a 43)])), ((a 18), .inl ((ca 18), 2, .inl (fun _ => 0)))] H := hP
  have hD : va_D A [(m0, .inr (8, [.int 0, .int 0, .int 0, .int 0, .ref (a 4), .int 0, .int 0, .int 0, .int 0, .int 0, .int 0, .long 0, .int 0, .int 0, .int 0, .int 0, .int 0, .int 0, .ref (a 18), .ref (a 19), .ref (a 20), .ref (a 21), .ref (a 22), .ref (a 23), .ref (a 24), .ref (a 25), .ref (a 26), .ref (a 27), .ref (a 28), .ref (a 29), .ref (a 30), .ref (a 31), .ref (a 32), .ref (a 33), .ref (a 34), .ref (a 35), .long 0, .int 0, .ref (a 38), .ref (a 39), .int 0, .ref (a 41), .ref (a 42), .ref (a 43)])), ((a 18), .inl ((ca 18), 2, .inl (fun _ => 0)))] := hD
  refine lv_aload_n hx hb dX9_died_5 rfl (lv_at hl 0 rfl) ?_
  refine lv_iload_n hx hb dX9_died_6 rfl (lv_at hl 1 rfl) ?_
  have hPc := hP.sub (ws' := [(m0, .inr (8, [.int 0, .int 0, .int 0, .int 0, .ref (a 4), .int 0, .int 0, .int 0, .int 0, .int 0, .int 0, .long 0, .int 0, .int 0, .int 0, .int 0, .int 0, .int 0, .ref (a 18), .ref (a 19), .ref (a 20), .ref (a 21), .ref (a 22), .ref (a 23), .ref (a 24), .ref (a 25), .ref (a 26), .ref (a 27), .ref (a 28), .ref (a 29), .ref (a 30), .ref (a 31), .ref (a 32), .ref (a 33), .ref (a 34), .ref (a 35), .long 0, .int 0, .ref (a 38), .ref (a 39), .int 0, .ref (a 41), .ref (a 42), .ref (a 43)])), ((a 18), .inl ((ca 18), 2, .inl (fun _ => 0)))]) [0, 1] rfl
  have hKc := hK.sub (tys' := [((ca 18), .int)]) [0] rfl
  refine vp_callSi ((va_runV (As := [.int pa]) (rest := []) ⟨hx, hb, hml, hown, hts⟩ (c_9isPerson l dC dI g (m0) (a) (ca) (pa) ) (cwV 1 hts (gwV qw_330 qw_331 qw_332 qw_23 qw_329) rfl rfl rfl (by decide +kernel) ⟨Nat.le_of_ble_eq_true rfl, Nat.le_of_ble_eq_true rfl⟩) ⟨fun a U g9 mk q => ⟨q.1, q.2.1, va_K.moved (u := U) (U := U.calling g9 mk a) (Vm.Alike.refl U.vm) q.2.2.1, Ev.bl q.2.2.2⟩, va_recv hK hP (ci := 8) (q0 := 0) rfl rfl, fun U hU hW => ⟨rfl, by rw [hU]; exact hPc, va_K.moved hW.alike hKc, hE.go hS (fun _ h => h.elim) hU hW⟩⟩ rfl rfl hl.1 rfl (lv_room (Nat.le_of_ble_eq_true rfl)) dX9_died_7 ⟨Nat.le_of_ble_eq_true rfl, Nat.le_of_ble_eq_true rfl⟩)).run (fun r1 h_r1 => ?_)
  have h_r1 : r1 = 0 := h_r1
  subst h_r1
  refine lv_if_eq (tgt := 42) hx hb dX9_died_10 (by decide) (fun c10_2 => ?_) (fun c10_2 => by exfalso; exact absurd c10_2 (by decide))
  refine lv_bipush (v := (-2)) hx hb dX9_died_42 (by decide) ?_
  refine W.widen (k := 0) (n := 0) (Nat.le_of_ble_eq_true rfl) (Nat.le_of_ble_eq_true rfl) ?_
  exact W.iret (v := (-2)) hx hb hr (fun t ht hW => ⟨⟨(-2), (), rfl, (rfl), trivial⟩, hS.F ht⟩) hS.2.2 dX9_died_44
set_option maxHeartbeats 4000000 in
set_option maxRecDepth 100000 in
theorem c_9put (l : Launch) (dC : Nat → ClassId) (dI : Nat → Nat → Nat) (g : Gv) (sz : Nat) (m0 : Nat) (a : Nat → Nat) (ca : Nat → ClassId) (pa : Int32) (pb : Int32)  : Met l yX9_put (.code yX9_put cX9_put 4 (some .int) :: TBL) ({ frames := 3, cells := 0, slots := 0, locals := 180 }) (va_Pc [.ref m0, .int pa, .int pb] (fun U => U.heap.size = sz ∧ va_P (dC, dI) vwCl [(m0, .inr (8, [.int 0, .int 0, .int 0, .int 0, .ref (a 4), .int 0, .int 0, .int 0, .int 0, .int 0, .int 0, .long 0, .int 0, .int 0, .int 0, .int 0, .int 0, .int 0, .ref (a 18), .ref (a 19), .ref (a 20), .ref (a 21), .ref (a 22), .ref (a 23), .ref (a 24), .ref (a 25), .ref (a 26), .ref (a 27), .ref (a 28), .ref (a 29), .ref (a 30), .ref (a 31), .ref (a 32), .ref (a 33), .ref (a 34), .ref (a 35), .long 0, .int 0, .ref (a 38), .ref (a 39), .int 0, .ref (a 41), .ref (a 42), .ref (a 43)])), ((a 20), .inl ((ca 20), 2, .inl (fun _ => 0)))] U.heap ∧ va_K (dC, dI) vwCl [((ca 20), .int)] U ∧ va_D (fun _ => True) [(m0, .inr (8, [.int 0, .int 0, .int 0, .int 0, .ref (a 4), .int 0, .int 0, .int 0, .int 0, .int 0, .int 0, .long 0, .int 0, .int 0, .int 0, .int 0, .int 0, .int 0, .ref (a 18), .ref (a 19), .ref (a 20), .ref (a 21), .ref (a 22), .ref (a 23), .ref (a 24), .ref (a 25), .ref (a 26), .ref (a 27), .ref (a 28), .ref (a 29), .ref (a 30), .ref (a 31), .ref (a 32), .ref (a 33), .ref (a 34), .ref (a 35), .long 0, .int 0, .ref (a 38), .ref (a 39), .int 0, .ref (a 41), .ref (a 42), .ref (a 43)])), ((a 20), .inl ((ca 20), 2, .inl (fun _ => 0)))] ∧ Ev g (va_A [(m0, .inr (8, [.int 0, .int 0, .int 0, .int 0, .ref (a 4), .int 0, .int 0, .int 0, .int 0, .int 0, .int 0, .long 0, .int 0, .int 0, .int 0, .int 0, .int 0, .int 0, .ref (a 18), .ref (a 19), .ref (a 20), .ref (a 21), .ref (a 22), .ref (a 23), .ref (a 24), .ref (a 25), .ref (a 26), .ref (a 27), .ref (a 28), .ref (a 29), .ref (a 30), .ref (a 31), .ref (a 32), .ref (a 33), .ref (a 34), .ref (a 35), .long 0, .int 0, .ref (a 38), .ref (a 39), .int 0, .ref (a 41), .ref (a 42), .ref (a 43)])), ((a 20), .inl ((ca 20), 2, .inl (fun _ => 0)))] sz) U)) (va_Qi (fun (r : Int32) (u : Unit) => r = (-2)) (fun (_ : Unit) (_ : State) => True) (va_A [(m0, .inr (8, [.int 0, .int 0, .int 0, .int 0, .ref (a 4), .int 0, .int 0, .int 0, .int 0, .int 0, .int 0, .long 0, .int 0, .int 0, .int 0, .int 0, .int 0, .int 0, .ref (a 18), .ref (a 19), .ref (a 20), .ref (a 21), .ref (a 22), .ref (a 23), .ref (a 24), .ref (a 25), .ref (a 26), .ref (a 27), .ref (a 28), .ref (a 29), .ref (a 30), .ref (a 31), .ref (a 32), .ref (a 33), .ref (a 34), .ref (a 35), .long 0, .int 0, .ref (a 38), .ref (a 39), .int 0, .ref (a 41), .ref (a 42), .ref (a 43)])), ((a 20), .inl ((ca 20), 2, .inl (fun _ => 0)))] sz)) 0 0 (va_A [(m0, .inr (8, [.int 0, .int 0, .int 0, .int 0, .ref (a 4), .int 0, .int 0, .int 0, .int 0, .int 0, .int 0, .long 0, .int 0, .int 0, .int 0, .int 0, .int 0, .int 0, .ref (a 18), .ref (a 19), .ref (a 20), .ref (a 21), .ref (a 22), .ref (a 23), .ref (a 24), .ref (a 25), .ref (a 26), .ref (a 27), .ref (a 28), .ref (a 29), .ref (a 30), .ref (a 31), .ref (a 32), .ref (a 33), .ref (a 34), .ref (a 35), .long 0, .int 0, .ref (a 38), .ref (a 39), .int 0, .ref (a 41), .ref (a 42), .ref (a 43)])), ((a 20), .inl ((ca 20), 2, .inl (fun _ => 0)))] sz) := by
  refine Met.ofW (cc := cX9_put) (maxL := 4) (ret := (some .int)) (by decide) rfl ?_
  intro p e s m args below meth c s₁ B hml hv
  obtain ⟨rfl, hsz, hP, hK, hD0, hE⟩ := hv
  have hx := B.exec
  have hb := B.bytes
  have hr := B.returns
  have hts0 := atoms_spec (ws := (.code yX9_put cX9_put 4 (some .int) :: TBL)) B.pre
  have hts := fun (w : Cond) (h : w ∈ TBL) => hts0 w (List.mem_cons_of_mem _ h)
  have hown : s.vm.findClass RX9 = some m.cls := findClass_of_methodNamed B.named
  have hlocks := B.notSynchronized
  have hN := hE.1
  subst hsz
  have hD := hD0.self (sz := s.heap.size)
  generalize hAe : va_A [(m0, .inr (8, [.int 0, .int 0, .int 0, .int 0, .ref (a 4), .int 0, .int 0, .int 0, .int 0, .int 0, .int 0, .long 0, .int 0, .int 0, .int 0, .int 0, .int 0, .int 0, .ref (a 18), .ref (a 19), .ref (a 20), .ref (a 21), .ref (a 22), .ref (a 23), .ref (a 24), .ref (a 25), .ref (a 26), .ref (a 27), .ref (a 28), .ref (a 29), .ref (a 30), .ref (a 31), .ref (a 32), .ref (a 33), .ref (a 34), .ref (a 35), .long 0, .int 0, .ref (a 38), .ref (a 39), .int 0, .ref (a 41), .ref (a 42), .ref (a 43)])), ((a 20), .inl ((ca 20), 2, .inl (fun _ => 0)))] s.heap.size = A at hD hE ⊢
  have hA : ∀ q : Nat, s.heap.size ≤ q → A q := fun q h => by rw [← hAe]; exact Or.inr h
  have hS : va_S A s.heap s.heap [] := va_S.rf
  have hP : va_P (dC, dI) vwCl [(m0, .inr (8, [.int 0, .int 0, .int 0, .int 0, .ref (a 4), .int 0, .int 0, .int 0, .int 0, .int 0, .int 0, .long 0, .int 0, .int 0, .int 0, .int 0, .int 0, .int 0, .ref (a 18), .ref (a 19), .ref (a 20), .ref (a 21), .ref (a 22), .ref (a 23), .ref (a 24), .ref (a 25), .ref (a 26), .ref (a 27), .ref (a 28), .ref (a 29), .ref (a 30), .ref (a 31), .ref (a 32), .ref (a 33), .ref (a 34), .ref (a 35), .long 0, .int 0, .ref (a 38), .ref (a 39), .int 0, .ref (a 41), .ref (a 42), .ref (a 43)])), ((a 20), .inl ((ca 20), 2, .inl (fun _ => 0)))] s.heap := hP
  have hl := lv_entry ([.ref m0, .int pa, .int pb]) (n := 4) (Nat.le_of_ble_eq_true rfl)
  rw [lg_entry_eq]
  generalize (lg_sl ([.ref m0, .int pa, .int pb]) ++ List.replicate (4 - (lg_sl ([.ref m0, .int pa, .int pb])).length) Slot.unset).toArray = ls at hl ⊢
  have hl : lv_has ls 4 [(0, .ref m0), (1, .int pa), (2, .int pb)] := hl
  refine lv_aload_n hx hb dX9_put_0 rfl (lv_at hl 0 rfl) ?_
  refine lv_iconst (v := 0) hx hb dX9_put_1 (by decide) ?_
  refine va_put (D := (dC, dI)) (ci := 8) (v := .int 0) (ty := .int) (C := RX9) (T := TX9) (N := 44) hx hb hts inlX9 tyX9 tyX9_ok nmX9 hown hK hP hD hS 0 rfl rfl 0 (by decide) (hts (.fieldLink RX9 85 "ClosedUntilModel" "thrown" "I") qw_43) (fun _ h9 => h9) rfl (by decide +kernel) rfl rfl (Nat.le_of_ble_eq_true rfl) dX9_put_2 (fun H locs hP hD hS => ?_)
  have hP : va_P (dC, dI) vwCl [(m0, .inr (8, [.int 0, .int 0, .int 0, .int 0, .ref (a 4), .int 0, .int 0, .int 0, .int 0, .int 0, .int 0, .long 0, .int 0, .int 0, .int 0, .int 0, .int 0, .int 0, .ref (a 18), .ref (a 19), .ref (a 20), .ref (a 21), .ref (a 22), .ref (a 23), .ref (a 24), .ref (a 25), .ref (a 26), .ref (a 27), .ref (a 28), .ref (a 29), .ref (a 30), .ref (a 31), .ref (a 32), .ref (a 33), .ref (a 34), .ref (a 35), .long 0, .int 0, .ref (a 38), .ref (a 39), .int 0, .ref (a 41), .ref (a 42), .ref (a 43)])), ((a 20), .inl ((ca 20), 2, .inl (fun _ => 0)))] H := hP
  have hD : va_D A [(m0, .inr (8, [.int 0, .int 0, .int 0, .int 0, .ref (a 4), .int 0, .int 0, .int 0, .int 0, .int 0, .int 0, .long 0, .int 0, .int 0, .int 0, .int 0, .int 0, .int 0, .ref (a 18), .ref (a 19), .ref (a 20), .ref (a 21), .ref (a 22), .ref (a 23), .ref (a 24), .ref (a 25), .ref (a 26), .ref (a 27), .ref (a 28), .ref (a 29), .ref (a 30), .ref (a 31), .ref (a 32), .ref (a 33), .ref (a 34), .ref (a 35), .long 0, .int 0, .ref (a 38), .ref (a 39), .int 0, .ref (a 41), .ref (a 42), .ref (a 43)])), ((a 20), .inl ((ca 20), 2, .inl (fun _ => 0)))] := hD
  refine lv_aload_n hx hb dX9_put_5 rfl (lv_at hl 0 rfl) ?_
  refine lv_iload_n hx hb dX9_put_6 rfl (lv_at hl 1 rfl) ?_
  have hPc := hP.sub (ws' := [(m0, .inr (8, [.int 0, .int 0, .int 0, .int 0, .ref (a 4), .int 0, .int 0, .int 0, .int 0, .int 0, .int 0, .long 0, .int 0, .int 0, .int 0, .int 0, .int 0, .int 0, .ref (a 18), .ref (a 19), .ref (a 20), .ref (a 21), .ref (a 22), .ref (a 23), .ref (a 24), .ref (a 25), .ref (a 26), .ref (a 27), .ref (a 28), .ref (a 29), .ref (a 30), .ref (a 31), .ref (a 32), .ref (a 33), .ref (a 34), .ref (a 35), .long 0, .int 0, .ref (a 38), .ref (a 39), .int 0, .ref (a 41), .ref (a 42), .ref (a 43)])), ((a 20), .inl ((ca 20), 2, .inl (fun _ => 0)))]) [0, 1] rfl
  have hKc := hK.sub (tys' := [((ca 20), .int)]) [0] rfl
  refine vp_callSi ((va_runV (As := [.int pa]) (rest := []) ⟨hx, hb, hml, hown, hts⟩ (c_9isPiece l dC dI g (m0) (a) (ca) (pa) ) (cwV 1 hts (gwV qw_326 qw_327 qw_328 qw_23 qw_325) rfl rfl rfl (by decide +kernel) ⟨Nat.le_of_ble_eq_true rfl, Nat.le_of_ble_eq_true rfl⟩) ⟨fun a U g9 mk q => ⟨q.1, q.2.1, va_K.moved (u := U) (U := U.calling g9 mk a) (Vm.Alike.refl U.vm) q.2.2.1, Ev.bl q.2.2.2⟩, va_recv hK hP (ci := 8) (q0 := 0) rfl rfl, fun U hU hW => ⟨rfl, by rw [hU]; exact hPc, va_K.moved hW.alike hKc, hE.go hS (fun _ h => h.elim) hU hW⟩⟩ rfl rfl hl.1 rfl (lv_room (Nat.le_of_ble_eq_true rfl)) dX9_put_7 ⟨Nat.le_of_ble_eq_true rfl, Nat.le_of_ble_eq_true rfl⟩)).run (fun r1 h_r1 => ?_)
  have h_r1 : r1 = 0 := h_r1
  subst h_r1
  refine lv_if_eq (tgt := 35) hx hb dX9_put_10 (by decide) (fun c10_2 => ?_) (fun c10_2 => by exfalso; exact absurd c10_2 (by decide))
  refine lv_bipush (v := (-2)) hx hb dX9_put_35 (by decide) ?_
  refine W.widen (k := 0) (n := 0) (Nat.le_of_ble_eq_true rfl) (Nat.le_of_ble_eq_true rfl) ?_
  exact W.iret (v := (-2)) hx hb hr (fun t ht hW => ⟨⟨(-2), (), rfl, (rfl), trivial⟩, hS.F ht⟩) hS.2.2 dX9_put_37
set_option maxHeartbeats 4000000 in
set_option maxRecDepth 100000 in
theorem c_9mustGo (l : Launch) (dC : Nat → ClassId) (dI : Nat → Nat → Nat) (g : Gv) (sz : Nat) (m0 : Nat) (a : Nat → Nat) (ca : Nat → ClassId) (pa : Int32) (pb : Int32) (pc0 : Int32)  : Met l yX9_mustGo (.code yX9_mustGo cX9_mustGo 7 (some .int) :: TBL) ({ frames := 3, cells := 0, slots := 0, locals := 180 }) (va_Pc [.ref m0, .int pa, .int pb, .int pc0] (fun U => U.heap.size = sz ∧ va_P (dC, dI) vwCl [(m0, .inr (8, [.int 0, .int 0, .int 0, .int 0, .ref (a 4), .int 0, .int 0, .int 0, .int 0, .int 0, .int 0, .long 0, .int 0, .int 0, .int 0, .int 0, .int 0, .int 0, .ref (a 18), .ref (a 19), .ref (a 20), .ref (a 21), .ref (a 22), .ref (a 23), .ref (a 24), .ref (a 25), .ref (a 26), .ref (a 27), .ref (a 28), .ref (a 29), .ref (a 30), .ref (a 31), .ref (a 32), .ref (a 33), .ref (a 34), .ref (a 35), .long 0, .int 0, .ref (a 38), .ref (a 39), .int 0, .ref (a 41), .ref (a 42), .ref (a 43)])), ((a 20), .inl ((ca 20), 2, .inl (fun _ => 0)))] U.heap ∧ va_K (dC, dI) vwCl [((ca 20), .int)] U ∧ va_D (fun _ => True) [(m0, .inr (8, [.int 0, .int 0, .int 0, .int 0, .ref (a 4), .int 0, .int 0, .int 0, .int 0, .int 0, .int 0, .long 0, .int 0, .int 0, .int 0, .int 0, .int 0, .int 0, .ref (a 18), .ref (a 19), .ref (a 20), .ref (a 21), .ref (a 22), .ref (a 23), .ref (a 24), .ref (a 25), .ref (a 26), .ref (a 27), .ref (a 28), .ref (a 29), .ref (a 30), .ref (a 31), .ref (a 32), .ref (a 33), .ref (a 34), .ref (a 35), .long 0, .int 0, .ref (a 38), .ref (a 39), .int 0, .ref (a 41), .ref (a 42), .ref (a 43)])), ((a 20), .inl ((ca 20), 2, .inl (fun _ => 0)))] ∧ Ev g (va_A [(m0, .inr (8, [.int 0, .int 0, .int 0, .int 0, .ref (a 4), .int 0, .int 0, .int 0, .int 0, .int 0, .int 0, .long 0, .int 0, .int 0, .int 0, .int 0, .int 0, .int 0, .ref (a 18), .ref (a 19), .ref (a 20), .ref (a 21), .ref (a 22), .ref (a 23), .ref (a 24), .ref (a 25), .ref (a 26), .ref (a 27), .ref (a 28), .ref (a 29), .ref (a 30), .ref (a 31), .ref (a 32), .ref (a 33), .ref (a 34), .ref (a 35), .long 0, .int 0, .ref (a 38), .ref (a 39), .int 0, .ref (a 41), .ref (a 42), .ref (a 43)])), ((a 20), .inl ((ca 20), 2, .inl (fun _ => 0)))] sz) U)) (va_Qi (fun (r : Int32) (u : Unit) => r = (-1)) (fun (_ : Unit) (_ : State) => True) (va_A [(m0, .inr (8, [.int 0, .int 0, .int 0, .int 0, .ref (a 4), .int 0, .int 0, .int 0, .int 0, .int 0, .int 0, .long 0, .int 0, .int 0, .int 0, .int 0, .int 0, .int 0, .ref (a 18), .ref (a 19), .ref (a 20), .ref (a 21), .ref (a 22), .ref (a 23), .ref (a 24), .ref (a 25), .ref (a 26), .ref (a 27), .ref (a 28), .ref (a 29), .ref (a 30), .ref (a 31), .ref (a 32), .ref (a 33), .ref (a 34), .ref (a 35), .long 0, .int 0, .ref (a 38), .ref (a 39), .int 0, .ref (a 41), .ref (a 42), .ref (a 43)])), ((a 20), .inl ((ca 20), 2, .inl (fun _ => 0)))] sz)) 0 0 (va_A [(m0, .inr (8, [.int 0, .int 0, .int 0, .int 0, .ref (a 4), .int 0, .int 0, .int 0, .int 0, .int 0, .int 0, .long 0, .int 0, .int 0, .int 0, .int 0, .int 0, .int 0, .ref (a 18), .ref (a 19), .ref (a 20), .ref (a 21), .ref (a 22), .ref (a 23), .ref (a 24), .ref (a 25), .ref (a 26), .ref (a 27), .ref (a 28), .ref (a 29), .ref (a 30), .ref (a 31), .ref (a 32), .ref (a 33), .ref (a 34), .ref (a 35), .long 0, .int 0, .ref (a 38), .ref (a 39), .int 0, .ref (a 41), .ref (a 42), .ref (a 43)])), ((a 20), .inl ((ca 20), 2, .inl (fun _ => 0)))] sz) := by
  refine Met.ofW (cc := cX9_mustGo) (maxL := 7) (ret := (some .int)) (by decide) rfl ?_
  intro p e s m args below meth c s₁ B hml hv
  obtain ⟨rfl, hsz, hP, hK, hD0, hE⟩ := hv
  have hx := B.exec
  have hb := B.bytes
  have hr := B.returns
  have hts0 := atoms_spec (ws := (.code yX9_mustGo cX9_mustGo 7 (some .int) :: TBL)) B.pre
  have hts := fun (w : Cond) (h : w ∈ TBL) => hts0 w (List.mem_cons_of_mem _ h)
  have hown : s.vm.findClass RX9 = some m.cls := findClass_of_methodNamed B.named
  have hlocks := B.notSynchronized
  have hN := hE.1
  subst hsz
  have hD := hD0.self (sz := s.heap.size)
  generalize hAe : va_A [(m0, .inr (8, [.int 0, .int 0, .int 0, .int 0, .ref (a 4), .int 0, .int 0, .int 0, .int 0, .int 0, .int 0, .long 0, .int 0, .int 0, .int 0, .int 0, .int 0, .int 0, .ref (a 18), .ref (a 19), .ref (a 20), .ref (a 21), .ref (a 22), .ref (a 23), .ref (a 24), .ref (a 25), .ref (a 26), .ref (a 27), .ref (a 28), .ref (a 29), .ref (a 30), .ref (a 31), .ref (a 32), .ref (a 33), .ref (a 34), .ref (a 35), .long 0, .int 0, .ref (a 38), .ref (a 39), .int 0, .ref (a 41), .ref (a 42), .ref (a 43)])), ((a 20), .inl ((ca 20), 2, .inl (fun _ => 0)))] s.heap.size = A at hD hE ⊢
  have hA : ∀ q : Nat, s.heap.size ≤ q → A q := fun q h => by rw [← hAe]; exact Or.inr h
  have hS : va_S A s.heap s.heap [] := va_S.rf
  have hP : va_P (dC, dI) vwCl [(m0, .inr (8, [.int 0, .int 0, .int 0, .int 0, .ref (a 4), .int 0, .int 0, .int 0, .int 0, .int 0, .int 0, .long 0, .int 0, .int 0, .int 0, .int 0, .int 0, .int 0, .ref (a 18), .ref (a 19), .ref (a 20), .ref (a 21), .ref (a 22), .ref (a 23), .ref (a 24), .ref (a 25), .ref (a 26), .ref (a 27), .ref (a 28), .ref (a 29), .ref (a 30), .ref (a 31), .ref (a 32), .ref (a 33), .ref (a 34), .ref (a 35), .long 0, .int 0, .ref (a 38), .ref (a 39), .int 0, .ref (a 41), .ref (a 42), .ref (a 43)])), ((a 20), .inl ((ca 20), 2, .inl (fun _ => 0)))] s.heap := hP
  have hl := lv_entry ([.ref m0, .int pa, .int pb, .int pc0]) (n := 7) (Nat.le_of_ble_eq_true rfl)
  rw [lg_entry_eq]
  generalize (lg_sl ([.ref m0, .int pa, .int pb, .int pc0]) ++ List.replicate (7 - (lg_sl ([.ref m0, .int pa, .int pb, .int pc0])).length) Slot.unset).toArray = ls at hl ⊢
  have hl : lv_has ls 7 [(0, .ref m0), (1, .int pa), (2, .int pb), (3, .int pc0)] := hl
  refine lv_aload_n hx hb dX9_mustGo_0 rfl (lv_at hl 0 rfl) ?_
  refine lv_iconst (v := 0) hx hb dX9_mustGo_1 (by decide) ?_
  refine va_put (D := (dC, dI)) (ci := 8) (v := .int 0) (ty := .int) (C := RX9) (T := TX9) (N := 44) hx hb hts inlX9 tyX9 tyX9_ok nmX9 hown hK hP hD hS 0 rfl rfl 0 (by decide) (hts (.fieldLink RX9 85 "ClosedUntilModel" "thrown" "I") qw_43) (fun _ h9 => h9) rfl (by decide +kernel) rfl rfl (Nat.le_of_ble_eq_true rfl) dX9_mustGo_2 (fun H locs hP hD hS => ?_)
  have hP : va_P (dC, dI) vwCl [(m0, .inr (8, [.int 0, .int 0, .int 0, .int 0, .ref (a 4), .int 0, .int 0, .int 0, .int 0, .int 0, .int 0, .long 0, .int 0, .int 0, .int 0, .int 0, .int 0, .int 0, .ref (a 18), .ref (a 19), .ref (a 20), .ref (a 21), .ref (a 22), .ref (a 23), .ref (a 24), .ref (a 25), .ref (a 26), .ref (a 27), .ref (a 28), .ref (a 29), .ref (a 30), .ref (a 31), .ref (a 32), .ref (a 33), .ref (a 34), .ref (a 35), .long 0, .int 0, .ref (a 38), .ref (a 39), .int 0, .ref (a 41), .ref (a 42), .ref (a 43)])), ((a 20), .inl ((ca 20), 2, .inl (fun _ => 0)))] H := hP
  have hD : va_D A [(m0, .inr (8, [.int 0, .int 0, .int 0, .int 0, .ref (a 4), .int 0, .int 0, .int 0, .int 0, .int 0, .int 0, .long 0, .int 0, .int 0, .int 0, .int 0, .int 0, .int 0, .ref (a 18), .ref (a 19), .ref (a 20), .ref (a 21), .ref (a 22), .ref (a 23), .ref (a 24), .ref (a 25), .ref (a 26), .ref (a 27), .ref (a 28), .ref (a 29), .ref (a 30), .ref (a 31), .ref (a 32), .ref (a 33), .ref (a 34), .ref (a 35), .long 0, .int 0, .ref (a 38), .ref (a 39), .int 0, .ref (a 41), .ref (a 42), .ref (a 43)])), ((a 20), .inl ((ca 20), 2, .inl (fun _ => 0)))] := hD
  refine lv_aload_n hx hb dX9_mustGo_5 rfl (lv_at hl 0 rfl) ?_
  refine lv_iload_n hx hb dX9_mustGo_6 rfl (lv_at hl 1 rfl) ?_
  have hPc := hP.sub (ws' := [(m0, .inr (8, [.int 0, .int 0, .int 0, .int 0, .ref (a 4), .int 0, .int 0, .int 0, .int 0, .int 0, .int 0, .long 0, .int 0, .int 0, .int 0, .int 0, .int 0, .int 0, .ref (a 18), .ref (a 19), .ref (a 20), .ref (a 21), .ref (a 22), .ref (a 23), .ref (a 24), .ref (a 25), .ref (a 26), .ref (a 27), .ref (a 28), .ref (a 29), .ref (a 30), .ref (a 31), .ref (a 32), .ref (a 33), .ref (a 34), .ref (a 35), .long 0, .int 0, .ref (a 38), .ref (a 39), .int 0, .ref (a 41), .ref (a 42), .ref (a 43)])), ((a 20), .inl ((ca 20), 2, .inl (fun _ => 0)))]) [0, 1] rfl
  have hKc := hK.sub (tys' := [((ca 20), .int)]) [0] rfl
  refine vp_callSi ((va_runV (As := [.int pa]) (rest := []) ⟨hx, hb, hml, hown, hts⟩ (c_9isPiece l dC dI g (m0) (a) (ca) (pa) ) (cwV 1 hts (gwV qw_326 qw_327 qw_328 qw_23 qw_325) rfl rfl rfl (by decide +kernel) ⟨Nat.le_of_ble_eq_true rfl, Nat.le_of_ble_eq_true rfl⟩) ⟨fun a U g9 mk q => ⟨q.1, q.2.1, va_K.moved (u := U) (U := U.calling g9 mk a) (Vm.Alike.refl U.vm) q.2.2.1, Ev.bl q.2.2.2⟩, va_recv hK hP (ci := 8) (q0 := 0) rfl rfl, fun U hU hW => ⟨rfl, by rw [hU]; exact hPc, va_K.moved hW.alike hKc, hE.go hS (fun _ h => h.elim) hU hW⟩⟩ rfl rfl hl.1 rfl (lv_room (Nat.le_of_ble_eq_true rfl)) dX9_mustGo_7 ⟨Nat.le_of_ble_eq_true rfl, Nat.le_of_ble_eq_true rfl⟩)).run (fun r1 h_r1 => ?_)
  have h_r1 : r1 = 0 := h_r1
  subst h_r1
  refine lv_if_eq (tgt := 21) hx hb dX9_mustGo_10 (by decide) (fun c10_2 => ?_) (fun c10_2 => by exfalso; exact absurd c10_2 (by decide))
  refine lv_iconst (v := (-1)) hx hb dX9_mustGo_21 (by decide) ?_
  refine W.widen (k := 0) (n := 0) (Nat.le_of_ble_eq_true rfl) (Nat.le_of_ble_eq_true rfl) ?_
  exact W.iret (v := (-1)) hx hb hr (fun t ht hW => ⟨⟨(-1), (), rfl, (rfl), trivial⟩, hS.F ht⟩) hS.2.2 dX9_mustGo_22
set_option maxHeartbeats 4000000 in
set_option maxRecDepth 100000 in
theorem c_9review (l : Launch) (dC : Nat → ClassId) (dI : Nat → Nat → Nat) (g : Gv) (sz : Nat) (m0 : Nat) (a : Nat → Nat) (ca : Nat → ClassId) (pa : Int32) (pb : Int32) (pc0 : Int32)  : Met l yX9_review (.code yX9_review cX9_review 6 (some .int) :: TBL) ({ frames := 3, cells := 0, slots := 0, locals := 180 }) (va_Pc [.ref m0, .int pa, .int pb, .int pc0] (fun U => U.heap.size = sz ∧ va_P (dC, dI) vwCl [(m0, .inr (8, [.int 0, .int 0, .int 0, .int 0, .ref (a 4), .int 0, .int 0, .int 0, .int 0, .int 0, .int 0, .long 0, .int 0, .int 0, .int 0, .int 0, .int 0, .int 0, .ref (a 18), .ref (a 19), .ref (a 20), .ref (a 21), .ref (a 22), .ref (a 23), .ref (a 24), .ref (a 25), .ref (a 26), .ref (a 27), .ref (a 28), .ref (a 29), .ref (a 30), .ref (a 31), .ref (a 32), .ref (a 33), .ref (a 34), .ref (a 35), .long 0, .int 0, .ref (a 38), .ref (a 39), .int 0, .ref (a 41), .ref (a 42), .ref (a 43)])), ((a 21), .inl ((ca 21), 2, .inl (fun _ => 0)))] U.heap ∧ va_K (dC, dI) vwCl [((ca 21), .int)] U ∧ va_D (fun _ => True) [(m0, .inr (8, [.int 0, .int 0, .int 0, .int 0, .ref (a 4), .int 0, .int 0, .int 0, .int 0, .int 0, .int 0, .long 0, .int 0, .int 0, .int 0, .int 0, .int 0, .int 0, .ref (a 18), .ref (a 19), .ref (a 20), .ref (a 21), .ref (a 22), .ref (a 23), .ref (a 24), .ref (a 25), .ref (a 26), .ref (a 27), .ref (a 28), .ref (a 29), .ref (a 30), .ref (a 31), .ref (a 32), .ref (a 33), .ref (a 34), .ref (a 35), .long 0, .int 0, .ref (a 38), .ref (a 39), .int 0, .ref (a 41), .ref (a 42), .ref (a 43)])), ((a 21), .inl ((ca 21), 2, .inl (fun _ => 0)))] ∧ Ev g (va_A [(m0, .inr (8, [.int 0, .int 0, .int 0, .int 0, .ref (a 4), .int 0, .int 0, .int 0, .int 0, .int 0, .int 0, .long 0, .int 0, .int 0, .int 0, .int 0, .int 0, .int 0, .ref (a 18), .ref (a 19), .ref (a 20), .ref (a 21), .ref (a 22), .ref (a 23), .ref (a 24), .ref (a 25), .ref (a 26), .ref (a 27), .ref (a 28), .ref (a 29), .ref (a 30), .ref (a 31), .ref (a 32), .ref (a 33), .ref (a 34), .ref (a 35), .long 0, .int 0, .ref (a 38), .ref (a 39), .int 0, .ref (a 41), .ref (a 42), .ref (a 43)])), ((a 21), .inl ((ca 21), 2, .inl (fun _ => 0)))] sz) U)) (va_Qi (fun (r : Int32) (u : Unit) => r = (-1)) (fun (_ : Unit) (_ : State) => True) (va_A [(m0, .inr (8, [.int 0, .int 0, .int 0, .int 0, .ref (a 4), .int 0, .int 0, .int 0, .int 0, .int 0, .int 0, .long 0, .int 0, .int 0, .int 0, .int 0, .int 0, .int 0, .ref (a 18), .ref (a 19), .ref (a 20), .ref (a 21), .ref (a 22), .ref (a 23), .ref (a 24), .ref (a 25), .ref (a 26), .ref (a 27), .ref (a 28), .ref (a 29), .ref (a 30), .ref (a 31), .ref (a 32), .ref (a 33), .ref (a 34), .ref (a 35), .long 0, .int 0, .ref (a 38), .ref (a 39), .int 0, .ref (a 41), .ref (a 42), .ref (a 43)])), ((a 21), .inl ((ca 21), 2, .inl (fun _ => 0)))] sz)) 0 0 (va_A [(m0, .inr (8, [.int 0, .int 0, .int 0, .int 0, .ref (a 4), .int 0, .int 0, .int 0, .int 0, .int 0, .int 0, .long 0, .int 0, .int 0, .int 0, .int 0, .int 0, .int 0, .ref (a 18), .ref (a 19), .ref (a 20), .ref (a 21), .ref (a 22), .ref (a 23), .ref (a 24), .ref (a 25), .ref (a 26), .ref (a 27), .ref (a 28), .ref (a 29), .ref (a 30), .ref (a 31), .ref (a 32), .ref (a 33), .ref (a 34), .ref (a 35), .long 0, .int 0, .ref (a 38), .ref (a 39), .int 0, .ref (a 41), .ref (a 42), .ref (a 43)])), ((a 21), .inl ((ca 21), 2, .inl (fun _ => 0)))] sz) := by
  refine Met.ofW (cc := cX9_review) (maxL := 6) (ret := (some .int)) (by decide) rfl ?_
  intro p e s m args below meth c s₁ B hml hv
  obtain ⟨rfl, hsz, hP, hK, hD0, hE⟩ := hv
  have hx := B.exec
  have hb := B.bytes
  have hr := B.returns
  have hts0 := atoms_spec (ws := (.code yX9_review cX9_review 6 (some .int) :: TBL)) B.pre
  have hts := fun (w : Cond) (h : w ∈ TBL) => hts0 w (List.mem_cons_of_mem _ h)
  have hown : s.vm.findClass RX9 = some m.cls := findClass_of_methodNamed B.named
  have hlocks := B.notSynchronized
  have hN := hE.1
  subst hsz
  have hD := hD0.self (sz := s.heap.size)
  generalize hAe : va_A [(m0, .inr (8, [.int 0, .int 0, .int 0, .int 0, .ref (a 4), .int 0, .int 0, .int 0, .int 0, .int 0, .int 0, .long 0, .int 0, .int 0, .int 0, .int 0, .int 0, .int 0, .ref (a 18), .ref (a 19), .ref (a 20), .ref (a 21), .ref (a 22), .ref (a 23), .ref (a 24), .ref (a 25), .ref (a 26), .ref (a 27), .ref (a 28), .ref (a 29), .ref (a 30), .ref (a 31), .ref (a 32), .ref (a 33), .ref (a 34), .ref (a 35), .long 0, .int 0, .ref (a 38), .ref (a 39), .int 0, .ref (a 41), .ref (a 42), .ref (a 43)])), ((a 21), .inl ((ca 21), 2, .inl (fun _ => 0)))] s.heap.size = A at hD hE ⊢
  have hA : ∀ q : Nat, s.heap.size ≤ q → A q := fun q h => by rw [← hAe]; exact Or.inr h
  have hS : va_S A s.heap s.heap [] := va_S.rf
  have hP : va_P (dC, dI) vwCl [(m0, .inr (8, [.int 0, .int 0, .int 0, .int 0, .ref (a 4), .int 0, .int 0, .int 0, .int 0, .int 0, .int 0, .long 0, .int 0, .int 0, .int 0, .int 0, .int 0, .int 0, .ref (a 18), .ref (a 19), .ref (a 20), .ref (a 21), .ref (a 22), .ref (a 23), .ref (a 24), .ref (a 25), .ref (a 26), .ref (a 27), .ref (a 28), .ref (a 29), .ref (a 30), .ref (a 31), .ref (a 32), .ref (a 33), .ref (a 34), .ref (a 35), .long 0, .int 0, .ref (a 38), .ref (a 39), .int 0, .ref (a 41), .ref (a 42), .ref (a 43)])), ((a 21), .inl ((ca 21), 2, .inl (fun _ => 0)))] s.heap := hP
  have hl := lv_entry ([.ref m0, .int pa, .int pb, .int pc0]) (n := 6) (Nat.le_of_ble_eq_true rfl)
  rw [lg_entry_eq]
  generalize (lg_sl ([.ref m0, .int pa, .int pb, .int pc0]) ++ List.replicate (6 - (lg_sl ([.ref m0, .int pa, .int pb, .int pc0])).length) Slot.unset).toArray = ls at hl ⊢
  have hl : lv_has ls 6 [(0, .ref m0), (1, .int pa), (2, .int pb), (3, .int pc0)] := hl
  refine lv_aload_n hx hb dX9_review_0 rfl (lv_at hl 0 rfl) ?_
  refine lv_iconst (v := 0) hx hb dX9_review_1 (by decide) ?_
  refine va_put (D := (dC, dI)) (ci := 8) (v := .int 0) (ty := .int) (C := RX9) (T := TX9) (N := 44) hx hb hts inlX9 tyX9 tyX9_ok nmX9 hown hK hP hD hS 0 rfl rfl 0 (by decide) (hts (.fieldLink RX9 85 "ClosedUntilModel" "thrown" "I") qw_43) (fun _ h9 => h9) rfl (by decide +kernel) rfl rfl (Nat.le_of_ble_eq_true rfl) dX9_review_2 (fun H locs hP hD hS => ?_)
  have hP : va_P (dC, dI) vwCl [(m0, .inr (8, [.int 0, .int 0, .int 0, .int 0, .ref (a 4), .int 0, .int 0, .int 0, .int 0, .int 0, .int 0, .long 0, .int 0, .int 0, .int 0, .int 0, .int 0, .int 0, .ref (a 18), .ref (a 19), .ref (a 20), .ref (a 21), .ref (a 22), .ref (a 23), .ref (a 24), .ref (a 25), .ref (a 26), .ref (a 27), .ref (a 28), .ref (a 29), .ref (a 30), .ref (a 31), .ref (a 32), .ref (a 33), .ref (a 34), .ref (a 35), .long 0, .int 0, .ref (a 38), .ref (a 39), .int 0, .ref (a 41), .ref (a 42), .ref (a 43)])), ((a 21), .inl ((ca 21), 2, .inl (fun _ => 0)))] H := hP
  have hD : va_D A [(m0, .inr (8, [.int 0, .int 0, .int 0, .int 0, .ref (a 4), .int 0, .int 0, .int 0, .int 0, .int 0, .int 0, .long 0, .int 0, .int 0, .int 0, .int 0, .int 0, .int 0, .ref (a 18), .ref (a 19), .ref (a 20), .ref (a 21), .ref (a 22), .ref (a 23), .ref (a 24), .ref (a 25), .ref (a 26), .ref (a 27), .ref (a 28), .ref (a 29), .ref (a 30), .ref (a 31), .ref (a 32), .ref (a 33), .ref (a 34), .ref (a 35), .long 0, .int 0, .ref (a 38), .ref (a 39), .int 0, .ref (a 41), .ref (a 42), .ref (a 43)])), ((a 21), .inl ((ca 21), 2, .inl (fun _ => 0)))] := hD
  refine lv_aload_n hx hb dX9_review_5 rfl (lv_at hl 0 rfl) ?_
  refine lv_iload_n hx hb dX9_review_6 rfl (lv_at hl 1 rfl) ?_
  have hPc := hP.sub (ws' := [(m0, .inr (8, [.int 0, .int 0, .int 0, .int 0, .ref (a 4), .int 0, .int 0, .int 0, .int 0, .int 0, .int 0, .long 0, .int 0, .int 0, .int 0, .int 0, .int 0, .int 0, .ref (a 18), .ref (a 19), .ref (a 20), .ref (a 21), .ref (a 22), .ref (a 23), .ref (a 24), .ref (a 25), .ref (a 26), .ref (a 27), .ref (a 28), .ref (a 29), .ref (a 30), .ref (a 31), .ref (a 32), .ref (a 33), .ref (a 34), .ref (a 35), .long 0, .int 0, .ref (a 38), .ref (a 39), .int 0, .ref (a 41), .ref (a 42), .ref (a 43)])), ((a 21), .inl ((ca 21), 2, .inl (fun _ => 0)))]) [0, 1] rfl
  have hKc := hK.sub (tys' := [((ca 21), .int)]) [0] rfl
  refine vp_callSi ((va_runV (As := [.int pa]) (rest := []) ⟨hx, hb, hml, hown, hts⟩ (c_9isClosure l dC dI g (m0) (a) (ca) (pa) ) (cwV 1 hts (gwV qw_334 qw_335 qw_336 qw_23 qw_333) rfl rfl rfl (by decide +kernel) ⟨Nat.le_of_ble_eq_true rfl, Nat.le_of_ble_eq_true rfl⟩) ⟨fun a U g9 mk q => ⟨q.1, q.2.1, va_K.moved (u := U) (U := U.calling g9 mk a) (Vm.Alike.refl U.vm) q.2.2.1, Ev.bl q.2.2.2⟩, va_recv hK hP (ci := 8) (q0 := 0) rfl rfl, fun U hU hW => ⟨rfl, by rw [hU]; exact hPc, va_K.moved hW.alike hKc, hE.go hS (fun _ h => h.elim) hU hW⟩⟩ rfl rfl hl.1 rfl (lv_room (Nat.le_of_ble_eq_true rfl)) dX9_review_7 ⟨Nat.le_of_ble_eq_true rfl, Nat.le_of_ble_eq_true rfl⟩)).run (fun r1 h_r1 => ?_)
  have h_r1 : r1 = 0 := h_r1
  subst h_r1
  refine lv_if_eq (tgt := 52) hx hb dX9_review_10 (by decide) (fun c10_2 => ?_) (fun c10_2 => by exfalso; exact absurd c10_2 (by decide))
  refine lv_iconst (v := (-1)) hx hb dX9_review_52 (by decide) ?_
  refine W.widen (k := 0) (n := 0) (Nat.le_of_ble_eq_true rfl) (Nat.le_of_ble_eq_true rfl) ?_
  exact W.iret (v := (-1)) hx hb hr (fun t ht hW => ⟨⟨(-1), (), rfl, (rfl), trivial⟩, hS.F ht⟩) hS.2.2 dX9_review_53
set_option maxHeartbeats 4000000 in
set_option maxRecDepth 100000 in
theorem c_9undo (l : Launch) (dC : Nat → ClassId) (dI : Nat → Nat → Nat) (g : Gv) (sz : Nat) (m0 : Nat) (a : Nat → Nat) (ca : Nat → ClassId)  : Met l yX9_undo (.code yX9_undo cX9_undo 2 (some .int) :: TBL) ({ frames := 3, cells := 0, slots := 0, locals := 180 }) (va_Pc [.ref m0] (fun U => U.heap.size = sz ∧ va_P (dC, dI) vwCl [(m0, .inr (8, [.int 0, .int 0, .int 0, .int 0, .ref (a 4), .int 0, .int 0, .int 0, .int 0, .int 0, .int 0, .long 0, .int 0, .int 0, .int 0, .int 0, .int 0, .int 0, .ref (a 18), .ref (a 19), .ref (a 20), .ref (a 21), .ref (a 22), .ref (a 23), .ref (a 24), .ref (a 25), .ref (a 26), .ref (a 27), .ref (a 28), .ref (a 29), .ref (a 30), .ref (a 31), .ref (a 32), .ref (a 33), .ref (a 34), .ref (a 35), .long 0, .int 0, .ref (a 38), .ref (a 39), .int 0, .ref (a 41), .ref (a 42), .ref (a 43)]))] U.heap ∧ va_K (dC, dI) vwCl [] U ∧ va_D (fun _ => True) [(m0, .inr (8, [.int 0, .int 0, .int 0, .int 0, .ref (a 4), .int 0, .int 0, .int 0, .int 0, .int 0, .int 0, .long 0, .int 0, .int 0, .int 0, .int 0, .int 0, .int 0, .ref (a 18), .ref (a 19), .ref (a 20), .ref (a 21), .ref (a 22), .ref (a 23), .ref (a 24), .ref (a 25), .ref (a 26), .ref (a 27), .ref (a 28), .ref (a 29), .ref (a 30), .ref (a 31), .ref (a 32), .ref (a 33), .ref (a 34), .ref (a 35), .long 0, .int 0, .ref (a 38), .ref (a 39), .int 0, .ref (a 41), .ref (a 42), .ref (a 43)]))] ∧ Ev g (va_A [(m0, .inr (8, [.int 0, .int 0, .int 0, .int 0, .ref (a 4), .int 0, .int 0, .int 0, .int 0, .int 0, .int 0, .long 0, .int 0, .int 0, .int 0, .int 0, .int 0, .int 0, .ref (a 18), .ref (a 19), .ref (a 20), .ref (a 21), .ref (a 22), .ref (a 23), .ref (a 24), .ref (a 25), .ref (a 26), .ref (a 27), .ref (a 28), .ref (a 29), .ref (a 30), .ref (a 31), .ref (a 32), .ref (a 33), .ref (a 34), .ref (a 35), .long 0, .int 0, .ref (a 38), .ref (a 39), .int 0, .ref (a 41), .ref (a 42), .ref (a 43)]))] sz) U)) (va_Qi (fun (r : Int32) (u : Unit) => r = (-1)) (fun (_ : Unit) (_ : State) => True) (va_A [(m0, .inr (8, [.int 0, .int 0, .int 0, .int 0, .ref (a 4), .int 0, .int 0, .int 0, .int 0, .int 0, .int 0, .long 0, .int 0, .int 0, .int 0, .int 0, .int 0, .int 0, .ref (a 18), .ref (a 19), .ref (a 20), .ref (a 21), .ref (a 22), .ref (a 23), .ref (a 24), .ref (a 25), .ref (a 26), .ref (a 27), .ref (a 28), .ref (a 29), .ref (a 30), .ref (a 31), .ref (a 32), .ref (a 33), .ref (a 34), .ref (a 35), .long 0, .int 0, .ref (a 38), .ref (a 39), .int 0, .ref (a 41), .ref (a 42), .ref (a 43)]))] sz)) 0 0 (va_A [(m0, .inr (8, [.int 0, .int 0, .int 0, .int 0, .ref (a 4), .int 0, .int 0, .int 0, .int 0, .int 0, .int 0, .long 0, .int 0, .int 0, .int 0, .int 0, .int 0, .int 0, .ref (a 18), .ref (a 19), .ref (a 20), .ref (a 21), .ref (a 22), .ref (a 23), .ref (a 24), .ref (a 25), .ref (a 26), .ref (a 27), .ref (a 28), .ref (a 29), .ref (a 30), .ref (a 31), .ref (a 32), .ref (a 33), .ref (a 34), .ref (a 35), .long 0, .int 0, .ref (a 38), .ref (a 39), .int 0, .ref (a 41), .ref (a 42), .ref (a 43)]))] sz) := by
  refine Met.ofW (cc := cX9_undo) (maxL := 2) (ret := (some .int)) (by decide) rfl ?_
  intro p e s m args below meth c s₁ B hml hv
  obtain ⟨rfl, hsz, hP, hK, hD0, hE⟩ := hv
  have hx := B.exec
  have hb := B.bytes
  have hr := B.returns
  have hts0 := atoms_spec (ws := (.code yX9_undo cX9_undo 2 (some .int) :: TBL)) B.pre
  have hts := fun (w : Cond) (h : w ∈ TBL) => hts0 w (List.mem_cons_of_mem _ h)
  have hown : s.vm.findClass RX9 = some m.cls := findClass_of_methodNamed B.named
  have hlocks := B.notSynchronized
  have hN := hE.1
  subst hsz
  have hD := hD0.self (sz := s.heap.size)
  generalize hAe : va_A [(m0, .inr (8, [.int 0, .int 0, .int 0, .int 0, .ref (a 4), .int 0, .int 0, .int 0, .int 0, .int 0, .int 0, .long 0, .int 0, .int 0, .int 0, .int 0, .int 0, .int 0, .ref (a 18), .ref (a 19), .ref (a 20), .ref (a 21), .ref (a 22), .ref (a 23), .ref (a 24), .ref (a 25), .ref (a 26), .ref (a 27), .ref (a 28), .ref (a 29), .ref (a 30), .ref (a 31), .ref (a 32), .ref (a 33), .ref (a 34), .ref (a 35), .long 0, .int 0, .ref (a 38), .ref (a 39), .int 0, .ref (a 41), .ref (a 42), .ref (a 43)]))] s.heap.size = A at hD hE ⊢
  have hA : ∀ q : Nat, s.heap.size ≤ q → A q := fun q h => by rw [← hAe]; exact Or.inr h
  have hS : va_S A s.heap s.heap [] := va_S.rf
  have hP : va_P (dC, dI) vwCl [(m0, .inr (8, [.int 0, .int 0, .int 0, .int 0, .ref (a 4), .int 0, .int 0, .int 0, .int 0, .int 0, .int 0, .long 0, .int 0, .int 0, .int 0, .int 0, .int 0, .int 0, .ref (a 18), .ref (a 19), .ref (a 20), .ref (a 21), .ref (a 22), .ref (a 23), .ref (a 24), .ref (a 25), .ref (a 26), .ref (a 27), .ref (a 28), .ref (a 29), .ref (a 30), .ref (a 31), .ref (a 32), .ref (a 33), .ref (a 34), .ref (a 35), .long 0, .int 0, .ref (a 38), .ref (a 39), .int 0, .ref (a 41), .ref (a 42), .ref (a 43)]))] s.heap := hP
  have hl := lv_entry ([.ref m0]) (n := 2) (Nat.le_of_ble_eq_true rfl)
  rw [lg_entry_eq]
  generalize (lg_sl ([.ref m0]) ++ List.replicate (2 - (lg_sl ([.ref m0])).length) Slot.unset).toArray = ls at hl ⊢
  have hl : lv_has ls 2 [(0, .ref m0)] := hl
  refine lv_aload_n hx hb dX9_undo_0 rfl (lv_at hl 0 rfl) ?_
  refine lv_iconst (v := 0) hx hb dX9_undo_1 (by decide) ?_
  refine va_put (D := (dC, dI)) (ci := 8) (v := .int 0) (ty := .int) (C := RX9) (T := TX9) (N := 44) hx hb hts inlX9 tyX9 tyX9_ok nmX9 hown hK hP hD hS 0 rfl rfl 0 (by decide) (hts (.fieldLink RX9 85 "ClosedUntilModel" "thrown" "I") qw_43) (fun _ h9 => h9) rfl (by decide +kernel) rfl rfl (Nat.le_of_ble_eq_true rfl) dX9_undo_2 (fun H locs hP hD hS => ?_)
  have hP : va_P (dC, dI) vwCl [(m0, .inr (8, [.int 0, .int 0, .int 0, .int 0, .ref (a 4), .int 0, .int 0, .int 0, .int 0, .int 0, .int 0, .long 0, .int 0, .int 0, .int 0, .int 0, .int 0, .int 0, .ref (a 18), .ref (a 19), .ref (a 20), .ref (a 21), .ref (a 22), .ref (a 23), .ref (a 24), .ref (a 25), .ref (a 26), .ref (a 27), .ref (a 28), .ref (a 29), .ref (a 30), .ref (a 31), .ref (a 32), .ref (a 33), .ref (a 34), .ref (a 35), .long 0, .int 0, .ref (a 38), .ref (a 39), .int 0, .ref (a 41), .ref (a 42), .ref (a 43)]))] H := hP
  have hD : va_D A [(m0, .inr (8, [.int 0, .int 0, .int 0, .int 0, .ref (a 4), .int 0, .int 0, .int 0, .int 0, .int 0, .int 0, .long 0, .int 0, .int 0, .int 0, .int 0, .int 0, .int 0, .ref (a 18), .ref (a 19), .ref (a 20), .ref (a 21), .ref (a 22), .ref (a 23), .ref (a 24), .ref (a 25), .ref (a 26), .ref (a 27), .ref (a 28), .ref (a 29), .ref (a 30), .ref (a 31), .ref (a 32), .ref (a 33), .ref (a 34), .ref (a 35), .long 0, .int 0, .ref (a 38), .ref (a 39), .int 0, .ref (a 41), .ref (a 42), .ref (a 43)]))] := hD
  refine lv_aload_n hx hb dX9_undo_5 rfl (lv_at hl 0 rfl) ?_
  refine va_get (D := (dC, dI)) (ci := 8) (v := .int 0) (C := RX9) (T := TX9) (N := 44) hx hb hts inlX9 hown hK hP 0 rfl rfl 40 (by decide) (hts (.fieldLink RX9 310 "ClosedUntilModel" "undos" "I") qw_341) (fun _ h9 => h9) rfl dX9_undo_6 ?_
  refine lv_if_ne (tgt := 14) hx hb dX9_undo_9 (by decide) (fun c9_1 => by exfalso; exact absurd c9_1 (by decide)) (fun c9_1 => ?_)
  refine lv_iconst (v := (-1)) hx hb dX9_undo_12 (by decide) ?_
  refine W.widen (k := 0) (n := 0) (Nat.le_of_ble_eq_true rfl) (Nat.le_of_ble_eq_true rfl) ?_
  exact W.iret (v := (-1)) hx hb hr (fun t ht hW => ⟨⟨(-1), (), rfl, (rfl), trivial⟩, hS.F ht⟩) hS.2.2 dX9_undo_13
