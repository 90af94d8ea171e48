theorem dX9_piece_0 : decode cX9_piece 0 = .ok (.aload_n 0, 1) := by decide +kernel
theorem dX9_piece_1 : decode cX9_piece 1 = .ok (.iconst 0, 1) := by decide +kernel
theorem dX9_piece_2 : decode cX9_piece 2 = .ok (.putfield 85, 3) := by decide +kernel
theorem dX9_piece_5 : decode cX9_piece 5 = .ok (.aload_n 0, 1) := by decide +kernel
theorem dX9_piece_6 : decode cX9_piece 6 = .ok (.iload_n 1, 1) := by decide +kernel
theorem dX9_piece_7 : decode cX9_piece 7 = .ok (.invokevirtual 322, 3) := by decide +kernel
theorem dX9_piece_10 : decode cX9_piece 10 = .ok (.ifCond .ne 6, 3) := by decide +kernel
theorem dX9_piece_13 : decode cX9_piece 13 = .ok (.bipush (-2), 2) := by decide +kernel
theorem dX9_piece_15 : decode cX9_piece 15 = .ok (.ireturn, 1) := by decide +kernel
theorem dX9_piece_16 : decode cX9_piece 16 = .ok (.iload_n 2, 1) := by decide +kernel
theorem dX9_piece_17 : decode cX9_piece 17 = .ok (.tableswitch 79 0 5 #[39, 46, 53, 60, 67, 73], 39) := by decide +kernel
theorem dX9_piece_56 : decode cX9_piece 56 = .ok (.aload_n 0, 1) := by decide +kernel
theorem dX9_piece_57 : decode cX9_piece 57 = .ok (.getfield 70, 3) := by decide +kernel
theorem dX9_piece_60 : decode cX9_piece 60 = .ok (.iload_n 1, 1) := by decide +kernel
theorem dX9_piece_61 : decode cX9_piece 61 = .ok (.iaload, 1) := by decide +kernel
theorem dX9_piece_62 : decode cX9_piece 62 = .ok (.ireturn, 1) := by decide +kernel
theorem dX9_piece_63 : decode cX9_piece 63 = .ok (.aload_n 0, 1) := by decide +kernel
theorem dX9_piece_64 : decode cX9_piece 64 = .ok (.getfield 48, 3) := by decide +kernel
theorem dX9_piece_67 : decode cX9_piece 67 = .ok (.iload_n 1, 1) := by decide +kernel
theorem dX9_piece_68 : decode cX9_piece 68 = .ok (.iaload, 1) := by decide +kernel
theorem dX9_piece_69 : decode cX9_piece 69 = .ok (.ireturn, 1) := by decide +kernel
theorem dX9_piece_70 : decode cX9_piece 70 = .ok (.aload_n 0, 1) := by decide +kernel
theorem dX9_piece_71 : decode cX9_piece 71 = .ok (.getfield 51, 3) := by decide +kernel
theorem dX9_piece_74 : decode cX9_piece 74 = .ok (.iload_n 1, 1) := by decide +kernel
theorem dX9_piece_75 : decode cX9_piece 75 = .ok (.iaload, 1) := by decide +kernel
theorem dX9_piece_76 : decode cX9_piece 76 = .ok (.ireturn, 1) := by decide +kernel
theorem dX9_piece_77 : decode cX9_piece 77 = .ok (.aload_n 0, 1) := by decide +kernel
theorem dX9_piece_78 : decode cX9_piece 78 = .ok (.getfield 54, 3) := by decide +kernel
theorem dX9_piece_81 : decode cX9_piece 81 = .ok (.iload_n 1, 1) := by decide +kernel
theorem dX9_piece_82 : decode cX9_piece 82 = .ok (.iaload, 1) := by decide +kernel
theorem dX9_piece_83 : decode cX9_piece 83 = .ok (.ireturn, 1) := by decide +kernel
theorem dX9_piece_84 : decode cX9_piece 84 = .ok (.aload_n 0, 1) := by decide +kernel
theorem dX9_piece_85 : decode cX9_piece 85 = .ok (.iload_n 1, 1) := by decide +kernel
theorem dX9_piece_86 : decode cX9_piece 86 = .ok (.invokevirtual 325, 3) := by decide +kernel
theorem dX9_piece_89 : decode cX9_piece 89 = .ok (.ireturn, 1) := by decide +kernel
theorem dX9_piece_90 : decode cX9_piece 90 = .ok (.aload_n 0, 1) := by decide +kernel
theorem dX9_piece_91 : decode cX9_piece 91 = .ok (.iload_n 1, 1) := by decide +kernel
theorem dX9_piece_92 : decode cX9_piece 92 = .ok (.invokevirtual 328, 3) := by decide +kernel
theorem dX9_piece_95 : decode cX9_piece 95 = .ok (.ireturn, 1) := by decide +kernel
theorem dX9_piece_96 : decode cX9_piece 96 = .ok (.bipush (-2), 2) := by decide +kernel
theorem dX9_piece_98 : decode cX9_piece 98 = .ok (.ireturn, 1) := by decide +kernel
theorem dX9_person_0 : decode cX9_person 0 = .ok (.aload_n 0, 1) := by decide +kernel
theorem dX9_person_1 : decode cX9_person 1 = .ok (.iconst 0, 1) := by decide +kernel
theorem dX9_person_2 : decode cX9_person 2 = .ok (.putfield 85, 3) := by decide +kernel
theorem dX9_person_5 : decode cX9_person 5 = .ok (.aload_n 0, 1) := by decide +kernel
theorem dX9_person_6 : decode cX9_person 6 = .ok (.iload_n 1, 1) := by decide +kernel
theorem dX9_person_7 : decode cX9_person 7 = .ok (.invokevirtual 331, 3) := by decide +kernel
theorem dX9_person_10 : decode cX9_person 10 = .ok (.ifCond .ne 6, 3) := by decide +kernel
theorem dX9_person_13 : decode cX9_person 13 = .ok (.bipush (-2), 2) := by decide +kernel
theorem dX9_person_15 : decode cX9_person 15 = .ok (.ireturn, 1) := by decide +kernel
theorem dX9_person_16 : decode cX9_person 16 = .ok (.iload_n 2, 1) := by decide +kernel
theorem dX9_person_17 : decode cX9_person 17 = .ok (.ifCond .ne 12, 3) := by decide +kernel
theorem dX9_person_20 : decode cX9_person 20 = .ok (.aload_n 0, 1) := by decide +kernel
theorem dX9_person_21 : decode cX9_person 21 = .ok (.getfield 30, 3) := by decide +kernel
theorem dX9_person_24 : decode cX9_person 24 = .ok (.iload_n 1, 1) := by decide +kernel
theorem dX9_person_25 : decode cX9_person 25 = .ok (.iaload, 1) := by decide +kernel
theorem dX9_person_26 : decode cX9_person 26 = .ok (.goto 35, 3) := by decide +kernel
theorem dX9_person_29 : decode cX9_person 29 = .ok (.iload_n 2, 1) := by decide +kernel
theorem dX9_person_30 : decode cX9_person 30 = .ok (.iconst 1, 1) := by decide +kernel
theorem dX9_person_31 : decode cX9_person 31 = .ok (.if_icmp .ne 15, 3) := by decide +kernel
theorem dX9_person_34 : decode cX9_person 34 = .ok (.aload_n 0, 1) := by decide +kernel
theorem dX9_person_35 : decode cX9_person 35 = .ok (.getfield 70, 3) := by decide +kernel
theorem dX9_person_38 : decode cX9_person 38 = .ok (.bipush 24, 2) := by decide +kernel
theorem dX9_person_40 : decode cX9_person 40 = .ok (.iload_n 1, 1) := by decide +kernel
theorem dX9_person_41 : decode cX9_person 41 = .ok (.iadd, 1) := by decide +kernel
theorem dX9_person_42 : decode cX9_person 42 = .ok (.iaload, 1) := by decide +kernel
theorem dX9_person_43 : decode cX9_person 43 = .ok (.goto 18, 3) := by decide +kernel
theorem dX9_person_46 : decode cX9_person 46 = .ok (.iload_n 2, 1) := by decide +kernel
theorem dX9_person_47 : decode cX9_person 47 = .ok (.iconst 2, 1) := by decide +kernel
theorem dX9_person_48 : decode cX9_person 48 = .ok (.if_icmp .ne 11, 3) := by decide +kernel
theorem dX9_person_51 : decode cX9_person 51 = .ok (.aload_n 0, 1) := by decide +kernel
theorem dX9_person_52 : decode cX9_person 52 = .ok (.iload_n 1, 1) := by decide +kernel
theorem dX9_person_53 : decode cX9_person 53 = .ok (.invokevirtual 334, 3) := by decide +kernel
theorem dX9_person_56 : decode cX9_person 56 = .ok (.goto 5, 3) := by decide +kernel
theorem dX9_person_59 : decode cX9_person 59 = .ok (.bipush (-2), 2) := by decide +kernel
theorem dX9_person_61 : decode cX9_person 61 = .ok (.ireturn, 1) := by decide +kernel
theorem dX9_closure_0 : decode cX9_closure 0 = .ok (.aload_n 0, 1) := by decide +kernel
theorem dX9_closure_1 : decode cX9_closure 1 = .ok (.iconst 0, 1) := by decide +kernel
theorem dX9_closure_2 : decode cX9_closure 2 = .ok (.putfield 85, 3) := by decide +kernel
theorem dX9_closure_5 : decode cX9_closure 5 = .ok (.aload_n 0, 1) := by decide +kernel
theorem dX9_closure_6 : decode cX9_closure 6 = .ok (.iload_n 1, 1) := by decide +kernel
theorem dX9_closure_7 : decode cX9_closure 7 = .ok (.invokevirtual 337, 3) := by decide +kernel
theorem dX9_closure_10 : decode cX9_closure 10 = .ok (.ifCond .ne 6, 3) := by decide +kernel
theorem dX9_closure_13 : decode cX9_closure 13 = .ok (.bipush (-2), 2) := by decide +kernel
theorem dX9_closure_15 : decode cX9_closure 15 = .ok (.ireturn, 1) := by decide +kernel
theorem dX9_closure_16 : decode cX9_closure 16 = .ok (.iload_n 2, 1) := by decide +kernel
theorem dX9_closure_17 : decode cX9_closure 17 = .ok (.tableswitch 104 0 6 #[43, 50, 57, 72, 82, 92, 98], 43) := by decide +kernel
theorem dX9_closure_60 : decode cX9_closure 60 = .ok (.aload_n 0, 1) := by decide +kernel
theorem dX9_closure_61 : decode cX9_closure 61 = .ok (.getfield 57, 3) := by decide +kernel
theorem dX9_closure_64 : decode cX9_closure 64 = .ok (.iload_n 1, 1) := by decide +kernel
theorem dX9_closure_65 : decode cX9_closure 65 = .ok (.iaload, 1) := by decide +kernel
theorem dX9_closure_66 : decode cX9_closure 66 = .ok (.ireturn, 1) := by decide +kernel
theorem dX9_closure_67 : decode cX9_closure 67 = .ok (.aload_n 0, 1) := by decide +kernel
theorem dX9_closure_68 : decode cX9_closure 68 = .ok (.getfield 60, 3) := by decide +kernel
theorem dX9_closure_71 : decode cX9_closure 71 = .ok (.iload_n 1, 1) := by decide +kernel
theorem dX9_closure_72 : decode cX9_closure 72 = .ok (.iaload, 1) := by decide +kernel
theorem dX9_closure_73 : decode cX9_closure 73 = .ok (.ireturn, 1) := by decide +kernel
theorem dX9_closure_74 : decode cX9_closure 74 = .ok (.aload_n 0, 1) := by decide +kernel
theorem dX9_closure_75 : decode cX9_closure 75 = .ok (.getfield 66, 3) := by decide +kernel
theorem dX9_closure_78 : decode cX9_closure 78 = .ok (.iload_n 1, 1) := by decide +kernel
theorem dX9_closure_79 : decode cX9_closure 79 = .ok (.baload, 1) := by decide +kernel
theorem dX9_closure_80 : decode cX9_closure 80 = .ok (.ifCond .eq 7, 3) := by decide +kernel
theorem dX9_closure_83 : decode cX9_closure 83 = .ok (.iconst 1, 1) := by decide +kernel
theorem dX9_closure_84 : decode cX9_closure 84 = .ok (.goto 4, 3) := by decide +kernel
theorem dX9_closure_87 : decode cX9_closure 87 = .ok (.iconst 0, 1) := by decide +kernel
theorem dX9_closure_88 : decode cX9_closure 88 = .ok (.ireturn, 1) := by decide +kernel
theorem dX9_closure_89 : decode cX9_closure 89 = .ok (.aload_n 0, 1) := by decide +kernel
theorem dX9_closure_90 : decode cX9_closure 90 = .ok (.getfield 70, 3) := by decide +kernel
theorem dX9_closure_93 : decode cX9_closure 93 = .ok (.bipush 44, 2) := by decide +kernel
theorem dX9_closure_95 : decode cX9_closure 95 = .ok (.iload_n 1, 1) := by decide +kernel
theorem dX9_closure_96 : decode cX9_closure 96 = .ok (.iadd, 1) := by decide +kernel
theorem dX9_closure_97 : decode cX9_closure 97 = .ok (.iaload, 1) := by decide +kernel
theorem dX9_closure_98 : decode cX9_closure 98 = .ok (.ireturn, 1) := by decide +kernel
theorem dX9_closure_99 : decode cX9_closure 99 = .ok (.aload_n 0, 1) := by decide +kernel
theorem dX9_closure_100 : decode cX9_closure 100 = .ok (.getfield 70, 3) := by decide +kernel
theorem dX9_closure_103 : decode cX9_closure 103 = .ok (.bipush 32, 2) := by decide +kernel
theorem dX9_closure_105 : decode cX9_closure 105 = .ok (.iload_n 1, 1) := by decide +kernel
theorem dX9_closure_106 : decode cX9_closure 106 = .ok (.iadd, 1) := by decide +kernel
theorem dX9_closure_107 : decode cX9_closure 107 = .ok (.iaload, 1) := by decide +kernel
theorem dX9_closure_108 : decode cX9_closure 108 = .ok (.ireturn, 1) := by decide +kernel
theorem dX9_closure_109 : decode cX9_closure 109 = .ok (.aload_n 0, 1) := by decide +kernel
theorem dX9_closure_110 : decode cX9_closure 110 = .ok (.iload_n 1, 1) := by decide +kernel
theorem dX9_closure_111 : decode cX9_closure 111 = .ok (.invokevirtual 340, 3) := by decide +kernel
theorem dX9_closure_114 : decode cX9_closure 114 = .ok (.ireturn, 1) := by decide +kernel
theorem dX9_closure_115 : decode cX9_closure 115 = .ok (.aload_n 0, 1) := by decide +kernel
theorem dX9_closure_116 : decode cX9_closure 116 = .ok (.iload_n 1, 1) := by decide +kernel
theorem dX9_closure_117 : decode cX9_closure 117 = .ok (.invokevirtual 343, 3) := by decide +kernel
theorem dX9_closure_120 : decode cX9_closure 120 = .ok (.ireturn, 1) := by decide +kernel
theorem dX9_closure_121 : decode cX9_closure 121 = .ok (.bipush (-2), 2) := by decide +kernel
theorem dX9_closure_123 : decode cX9_closure 123 = .ok (.ireturn, 1) := by decide +kernel
theorem dX9_term_0 : decode cX9_term 0 = .ok (.aload_n 0, 1) := by decide +kernel
theorem dX9_term_1 : decode cX9_term 1 = .ok (.iconst 0, 1) := by decide +kernel
theorem dX9_term_2 : decode cX9_term 2 = .ok (.putfield 85, 3) := by decide +kernel
theorem dX9_term_5 : decode cX9_term 5 = .ok (.aload_n 0, 1) := by decide +kernel
theorem dX9_term_6 : decode cX9_term 6 = .ok (.iload_n 1, 1) := by decide +kernel
theorem dX9_term_7 : decode cX9_term 7 = .ok (.invokevirtual 337, 3) := by decide +kernel
theorem dX9_term_10 : decode cX9_term 10 = .ok (.ifCond .eq 29, 3) := by decide +kernel
theorem dX9_term_13 : decode cX9_term 13 = .ok (.aload_n 0, 1) := by decide +kernel
theorem dX9_term_14 : decode cX9_term 14 = .ok (.iload_n 2, 1) := by decide +kernel
theorem dX9_term_15 : decode cX9_term 15 = .ok (.invokevirtual 322, 3) := by decide +kernel
theorem dX9_term_18 : decode cX9_term 18 = .ok (.ifCond .eq 21, 3) := by decide +kernel
theorem dX9_term_21 : decode cX9_term 21 = .ok (.aload_n 0, 1) := by decide +kernel
theorem dX9_term_22 : decode cX9_term 22 = .ok (.iload_n 1, 1) := by decide +kernel
theorem dX9_term_23 : decode cX9_term 23 = .ok (.iload_n 2, 1) := by decide +kernel
theorem dX9_term_24 : decode cX9_term 24 = .ok (.invokevirtual 316, 3) := by decide +kernel
theorem dX9_term_27 : decode cX9_term 27 = .ok (.ifCond .eq 12, 3) := by decide +kernel
theorem dX9_term_30 : decode cX9_term 30 = .ok (.aload_n 0, 1) := by decide +kernel
theorem dX9_term_31 : decode cX9_term 31 = .ok (.iload_n 1, 1) := by decide +kernel
theorem dX9_term_32 : decode cX9_term 32 = .ok (.iload_n 2, 1) := by decide +kernel
theorem dX9_term_33 : decode cX9_term 33 = .ok (.invokevirtual 352, 3) := by decide +kernel
theorem dX9_term_36 : decode cX9_term 36 = .ok (.goto 4, 3) := by decide +kernel
theorem dX9_term_39 : decode cX9_term 39 = .ok (.iconst (-1), 1) := by decide +kernel
theorem dX9_term_40 : decode cX9_term 40 = .ok (.ireturn, 1) := by decide +kernel
theorem dX9_ends_0 : decode cX9_ends 0 = .ok (.aload_n 0, 1) := by decide +kernel
theorem dX9_ends_1 : decode cX9_ends 1 = .ok (.iconst 0, 1) := by decide +kernel
theorem dX9_ends_2 : decode cX9_ends 2 = .ok (.putfield 85, 3) := by decide +kernel
theorem dX9_ends_5 : decode cX9_ends 5 = .ok (.aload_n 0, 1) := by decide +kernel
theorem dX9_ends_6 : decode cX9_ends 6 = .ok (.iload_n 1, 1) := by decide +kernel
theorem dX9_ends_7 : decode cX9_ends 7 = .ok (.invokevirtual 337, 3) := by decide +kernel
theorem dX9_ends_10 : decode cX9_ends 10 = .ok (.ifCond .eq 20, 3) := by decide +kernel
theorem dX9_ends_13 : decode cX9_ends 13 = .ok (.aload_n 0, 1) := by decide +kernel
theorem dX9_ends_14 : decode cX9_ends 14 = .ok (.iload_n 2, 1) := by decide +kernel
theorem dX9_ends_15 : decode cX9_ends 15 = .ok (.invokevirtual 322, 3) := by decide +kernel
theorem dX9_ends_18 : decode cX9_ends 18 = .ok (.ifCond .eq 12, 3) := by decide +kernel
theorem dX9_ends_21 : decode cX9_ends 21 = .ok (.aload_n 0, 1) := by decide +kernel
theorem dX9_ends_22 : decode cX9_ends 22 = .ok (.iload_n 1, 1) := by decide +kernel
theorem dX9_ends_23 : decode cX9_ends 23 = .ok (.iload_n 2, 1) := by decide +kernel
theorem dX9_ends_24 : decode cX9_ends 24 = .ok (.invokevirtual 319, 3) := by decide +kernel
theorem dX9_ends_27 : decode cX9_ends 27 = .ok (.goto 4, 3) := by decide +kernel
theorem dX9_ends_30 : decode cX9_ends 30 = .ok (.iconst (-1), 1) := by decide +kernel
theorem dX9_ends_31 : decode cX9_ends 31 = .ok (.ireturn, 1) := by decide +kernel
theorem dX9_opens_0 : decode cX9_opens 0 = .ok (.aload_n 0, 1) := by decide +kernel
theorem dX9_opens_1 : decode cX9_opens 1 = .ok (.iconst 0, 1) := by decide +kernel
theorem dX9_opens_2 : decode cX9_opens 2 = .ok (.putfield 85, 3) := by decide +kernel
theorem dX9_opens_5 : decode cX9_opens 5 = .ok (.aload_n 0, 1) := by decide +kernel
theorem dX9_opens_6 : decode cX9_opens 6 = .ok (.invokevirtual 361, 3) := by decide +kernel
theorem dX9_opens_9 : decode cX9_opens 9 = .ok (.aload_n 0, 1) := by decide +kernel
theorem dX9_opens_10 : decode cX9_opens 10 = .ok (.iload_n 1, 1) := by decide +kernel
theorem dX9_opens_11 : decode cX9_opens 11 = .ok (.invokevirtual 322, 3) := by decide +kernel
theorem dX9_opens_14 : decode cX9_opens 14 = .ok (.ifCond .eq 20, 3) := by decide +kernel
theorem dX9_opens_17 : decode cX9_opens 17 = .ok (.iload_n 2, 1) := by decide +kernel
theorem dX9_opens_18 : decode cX9_opens 18 = .ok (.invokestatic 364, 3) := by decide +kernel
theorem dX9_opens_21 : decode cX9_opens 21 = .ok (.ifCond .eq 13, 3) := by decide +kernel
theorem dX9_opens_24 : decode cX9_opens 24 = .ok (.aload_n 0, 1) := by decide +kernel
theorem dX9_opens_25 : decode cX9_opens 25 = .ok (.iload_n 1, 1) := by decide +kernel
theorem dX9_opens_26 : decode cX9_opens 26 = .ok (.iload_n 2, 1) := by decide +kernel
theorem dX9_opens_27 : decode cX9_opens 27 = .ok (.iconst 0, 1) := by decide +kernel
theorem dX9_opens_28 : decode cX9_opens 28 = .ok (.invokevirtual 367, 3) := by decide +kernel
theorem dX9_opens_31 : decode cX9_opens 31 = .ok (.goto 4, 3) := by decide +kernel
theorem dX9_opens_34 : decode cX9_opens 34 = .ok (.iconst (-1), 1) := by decide +kernel
theorem dX9_opens_35 : decode cX9_opens 35 = .ok (.ireturn, 1) := by decide +kernel
theorem dX9_allOf_0 : decode cX9_allOf 0 = .ok (.aload_n 0, 1) := by decide +kernel
theorem dX9_allOf_1 : decode cX9_allOf 1 = .ok (.iconst 0, 1) := by decide +kernel
theorem dX9_allOf_2 : decode cX9_allOf 2 = .ok (.putfield 85, 3) := by decide +kernel
theorem dX9_allOf_5 : decode cX9_allOf 5 = .ok (.aload_n 0, 1) := by decide +kernel
theorem dX9_allOf_6 : decode cX9_allOf 6 = .ok (.invokevirtual 361, 3) := by decide +kernel
theorem dX9_allOf_9 : decode cX9_allOf 9 = .ok (.aload_n 0, 1) := by decide +kernel
theorem dX9_allOf_10 : decode cX9_allOf 10 = .ok (.iload_n 1, 1) := by decide +kernel
theorem dX9_allOf_11 : decode cX9_allOf 11 = .ok (.invokevirtual 322, 3) := by decide +kernel
theorem dX9_allOf_14 : decode cX9_allOf 14 = .ok (.ifCond .eq 10, 3) := by decide +kernel
theorem dX9_allOf_17 : decode cX9_allOf 17 = .ok (.iload_n 2, 1) := by decide +kernel
theorem dX9_allOf_18 : decode cX9_allOf 18 = .ok (.invokestatic 364, 3) := by decide +kernel
theorem dX9_allOf_21 : decode cX9_allOf 21 = .ok (.ifCond .ne 5, 3) := by decide +kernel
theorem dX9_allOf_24 : decode cX9_allOf 24 = .ok (.iconst (-1), 1) := by decide +kernel
theorem dX9_allOf_25 : decode cX9_allOf 25 = .ok (.ireturn, 1) := by decide +kernel
theorem dX9_allOf_26 : decode cX9_allOf 26 = .ok (.iconst 0, 1) := by decide +kernel
theorem dX9_allOf_27 : decode cX9_allOf 27 = .ok (.istore_n 3, 1) := by decide +kernel
theorem dX9_allOf_28 : decode cX9_allOf 28 = .ok (.iconst 0, 1) := by decide +kernel
theorem dX9_allOf_29 : decode cX9_allOf 29 = .ok (.istore 4, 2) := by decide +kernel
theorem dX9_allOf_31 : decode cX9_allOf 31 = .ok (.iload 4, 2) := by decide +kernel
theorem dX9_allOf_33 : decode cX9_allOf 33 = .ok (.aload_n 0, 1) := by decide +kernel
theorem dX9_allOf_34 : decode cX9_allOf 34 = .ok (.getfield 20, 3) := by decide +kernel
theorem dX9_allOf_37 : decode cX9_allOf 37 = .ok (.iconst 0, 1) := by decide +kernel
theorem dX9_allOf_38 : decode cX9_allOf 38 = .ok (.iaload, 1) := by decide +kernel
theorem dX9_allOf_39 : decode cX9_allOf 39 = .ok (.if_icmp .ge 45, 3) := by decide +kernel
theorem dX9_allOf_42 : decode cX9_allOf 42 = .ok (.aload_n 0, 1) := by decide +kernel
theorem dX9_allOf_43 : decode cX9_allOf 43 = .ok (.iload 4, 2) := by decide +kernel
theorem dX9_allOf_45 : decode cX9_allOf 45 = .ok (.iload_n 1, 1) := by decide +kernel
theorem dX9_allOf_46 : decode cX9_allOf 46 = .ok (.invokevirtual 313, 3) := by decide +kernel
theorem dX9_allOf_49 : decode cX9_allOf 49 = .ok (.ifCond .ne 6, 3) := by decide +kernel
theorem dX9_allOf_52 : decode cX9_allOf 52 = .ok (.goto 26, 3) := by decide +kernel
theorem dX9_allOf_55 : decode cX9_allOf 55 = .ok (.aload_n 0, 1) := by decide +kernel
theorem dX9_allOf_56 : decode cX9_allOf 56 = .ok (.iload 4, 2) := by decide +kernel
theorem dX9_allOf_58 : decode cX9_allOf 58 = .ok (.iload_n 2, 1) := by decide +kernel
theorem dX9_allOf_59 : decode cX9_allOf 59 = .ok (.iconst 0, 1) := by decide +kernel
theorem dX9_allOf_60 : decode cX9_allOf 60 = .ok (.invokevirtual 367, 3) := by decide +kernel
theorem dX9_allOf_63 : decode cX9_allOf 63 = .ok (.istore 5, 2) := by decide +kernel
theorem dX9_allOf_65 : decode cX9_allOf 65 = .ok (.iload 5, 2) := by decide +kernel
theorem dX9_allOf_67 : decode cX9_allOf 67 = .ok (.iload_n 3, 1) := by decide +kernel
theorem dX9_allOf_68 : decode cX9_allOf 68 = .ok (.if_icmp .le 8, 3) := by decide +kernel
theorem dX9_allOf_71 : decode cX9_allOf 71 = .ok (.iload 5, 2) := by decide +kernel
theorem dX9_allOf_73 : decode cX9_allOf 73 = .ok (.goto 4, 3) := by decide +kernel
theorem dX9_allOf_76 : decode cX9_allOf 76 = .ok (.iload_n 3, 1) := by decide +kernel
theorem dX9_allOf_77 : decode cX9_allOf 77 = .ok (.istore_n 3, 1) := by decide +kernel
theorem dX9_allOf_78 : decode cX9_allOf 78 = .ok (.iinc 4 1, 3) := by decide +kernel
theorem dX9_allOf_81 : decode cX9_allOf 81 = .ok (.goto (-50), 3) := by decide +kernel
theorem dX9_allOf_84 : decode cX9_allOf 84 = .ok (.iload_n 3, 1) := by decide +kernel
theorem dX9_allOf_85 : decode cX9_allOf 85 = .ok (.ireturn, 1) := by decide +kernel
theorem dX9_reason_0 : decode cX9_reason 0 = .ok (.aload_n 0, 1) := by decide +kernel
theorem dX9_reason_1 : decode cX9_reason 1 = .ok (.iconst 0, 1) := by decide +kernel
theorem dX9_reason_2 : decode cX9_reason 2 = .ok (.putfield 85, 3) := by decide +kernel
theorem dX9_reason_5 : decode cX9_reason 5 = .ok (.aload_n 0, 1) := by decide +kernel
theorem dX9_reason_6 : decode cX9_reason 6 = .ok (.invokevirtual 361, 3) := by decide +kernel
theorem dX9_reason_9 : decode cX9_reason 9 = .ok (.aload_n 0, 1) := by decide +kernel
theorem dX9_reason_10 : decode cX9_reason 10 = .ok (.iload_n 1, 1) := by decide +kernel
theorem dX9_reason_11 : decode cX9_reason 11 = .ok (.invokevirtual 322, 3) := by decide +kernel
theorem dX9_reason_14 : decode cX9_reason 14 = .ok (.ifCond .eq 10, 3) := by decide +kernel
theorem dX9_reason_17 : decode cX9_reason 17 = .ok (.iload_n 2, 1) := by decide +kernel
theorem dX9_reason_18 : decode cX9_reason 18 = .ok (.invokestatic 364, 3) := by decide +kernel
theorem dX9_reason_21 : decode cX9_reason 21 = .ok (.ifCond .ne 5, 3) := by decide +kernel
theorem dX9_reason_24 : decode cX9_reason 24 = .ok (.iconst (-1), 1) := by decide +kernel
theorem dX9_reason_25 : decode cX9_reason 25 = .ok (.ireturn, 1) := by decide +kernel
theorem dX9_reason_26 : decode cX9_reason 26 = .ok (.aload_n 0, 1) := by decide +kernel
theorem dX9_reason_27 : decode cX9_reason 27 = .ok (.iload_n 1, 1) := by decide +kernel
theorem dX9_reason_28 : decode cX9_reason 28 = .ok (.iload_n 2, 1) := by decide +kernel
theorem dX9_reason_29 : decode cX9_reason 29 = .ok (.iconst 0, 1) := by decide +kernel
theorem dX9_reason_30 : decode cX9_reason 30 = .ok (.invokevirtual 367, 3) := by decide +kernel
theorem dX9_reason_33 : decode cX9_reason 33 = .ok (.istore_n 3, 1) := by decide +kernel
theorem dX9_reason_34 : decode cX9_reason 34 = .ok (.iconst 0, 1) := by decide +kernel
theorem dX9_reason_35 : decode cX9_reason 35 = .ok (.istore 4, 2) := by decide +kernel
theorem dX9_reason_37 : decode cX9_reason 37 = .ok (.iload 4, 2) := by decide +kernel
theorem dX9_reason_39 : decode cX9_reason 39 = .ok (.aload_n 0, 1) := by decide +kernel
theorem dX9_reason_40 : decode cX9_reason 40 = .ok (.getfield 23, 3) := by decide +kernel
theorem dX9_reason_43 : decode cX9_reason 43 = .ok (.iconst 0, 1) := by decide +kernel
theorem dX9_reason_44 : decode cX9_reason 44 = .ok (.iaload, 1) := by decide +kernel
theorem dX9_reason_45 : decode cX9_reason 45 = .ok (.if_icmp .ge 38, 3) := by decide +kernel
theorem dX9_reason_48 : decode cX9_reason 48 = .ok (.iload_n 3, 1) := by decide +kernel
theorem dX9_reason_49 : decode cX9_reason 49 = .ok (.ifCond .le 34, 3) := by decide +kernel
theorem dX9_reason_52 : decode cX9_reason 52 = .ok (.aload_n 0, 1) := by decide +kernel
theorem dX9_reason_53 : decode cX9_reason 53 = .ok (.iload 4, 2) := by decide +kernel
theorem dX9_reason_55 : decode cX9_reason 55 = .ok (.iload_n 2, 1) := by decide +kernel
theorem dX9_reason_56 : decode cX9_reason 56 = .ok (.iconst 0, 1) := by decide +kernel
theorem dX9_reason_57 : decode cX9_reason 57 = .ok (.invokevirtual 355, 3) := by decide +kernel
theorem dX9_reason_60 : decode cX9_reason 60 = .ok (.ifCond .eq 17, 3) := by decide +kernel
theorem dX9_reason_63 : decode cX9_reason 63 = .ok (.aload_n 0, 1) := by decide +kernel
theorem dX9_reason_64 : decode cX9_reason 64 = .ok (.iload 4, 2) := by decide +kernel
theorem dX9_reason_66 : decode cX9_reason 66 = .ok (.iload_n 1, 1) := by decide +kernel
theorem dX9_reason_67 : decode cX9_reason 67 = .ok (.invokevirtual 319, 3) := by decide +kernel
theorem dX9_reason_70 : decode cX9_reason 70 = .ok (.iload_n 3, 1) := by decide +kernel
theorem dX9_reason_71 : decode cX9_reason 71 = .ok (.if_icmp .ne 6, 3) := by decide +kernel
theorem dX9_reason_74 : decode cX9_reason 74 = .ok (.iload 4, 2) := by decide +kernel
theorem dX9_reason_76 : decode cX9_reason 76 = .ok (.ireturn, 1) := by decide +kernel
theorem dX9_reason_77 : decode cX9_reason 77 = .ok (.iinc 4 1, 3) := by decide +kernel
theorem dX9_reason_80 : decode cX9_reason 80 = .ok (.goto (-43), 3) := by decide +kernel
theorem dX9_reason_83 : decode cX9_reason 83 = .ok (.iconst (-1), 1) := by decide +kernel
theorem dX9_reason_84 : decode cX9_reason 84 = .ok (.ireturn, 1) := by decide +kernel
theorem dX9_closedBy_0 : decode cX9_closedBy 0 = .ok (.aload_n 0, 1) := by decide +kernel
theorem dX9_closedBy_1 : decode cX9_closedBy 1 = .ok (.iconst 0, 1) := by decide +kernel
theorem dX9_closedBy_2 : decode cX9_closedBy 2 = .ok (.putfield 85, 3) := by decide +kernel
theorem dX9_closedBy_5 : decode cX9_closedBy 5 = .ok (.aload_n 0, 1) := by decide +kernel
theorem dX9_closedBy_6 : decode cX9_closedBy 6 = .ok (.iload_n 1, 1) := by decide +kernel
theorem dX9_closedBy_7 : decode cX9_closedBy 7 = .ok (.invokevirtual 322, 3) := by decide +kernel
theorem dX9_closedBy_10 : decode cX9_closedBy 10 = .ok (.ifCond .eq 15, 3) := by decide +kernel
theorem dX9_closedBy_13 : decode cX9_closedBy 13 = .ok (.iload_n 2, 1) := by decide +kernel
theorem dX9_closedBy_14 : decode cX9_closedBy 14 = .ok (.i2l, 1) := by decide +kernel
theorem dX9_closedBy_15 : decode cX9_closedBy 15 = .ok (.lconst 0, 1) := by decide +kernel
theorem dX9_closedBy_16 : decode cX9_closedBy 16 = .ok (.ldc2_w 133, 3) := by decide +kernel
theorem dX9_closedBy_19 : decode cX9_closedBy 19 = .ok (.invokestatic 123, 3) := by decide +kernel
theorem dX9_closedBy_22 : decode cX9_closedBy 22 = .ok (.ifCond .ne 5, 3) := by decide +kernel
theorem dX9_closedBy_25 : decode cX9_closedBy 25 = .ok (.iconst (-1), 1) := by decide +kernel
theorem dX9_closedBy_26 : decode cX9_closedBy 26 = .ok (.ireturn, 1) := by decide +kernel
theorem dX9_closedBy_27 : decode cX9_closedBy 27 = .ok (.iconst 0, 1) := by decide +kernel
theorem dX9_closedBy_28 : decode cX9_closedBy 28 = .ok (.istore_n 3, 1) := by decide +kernel
theorem dX9_closedBy_29 : decode cX9_closedBy 29 = .ok (.iconst 0, 1) := by decide +kernel
theorem dX9_closedBy_30 : decode cX9_closedBy 30 = .ok (.istore 4, 2) := by decide +kernel
theorem dX9_closedBy_32 : decode cX9_closedBy 32 = .ok (.iload 4, 2) := by decide +kernel
theorem dX9_closedBy_34 : decode cX9_closedBy 34 = .ok (.aload_n 0, 1) := by decide +kernel
theorem dX9_closedBy_35 : decode cX9_closedBy 35 = .ok (.getfield 23, 3) := by decide +kernel
theorem dX9_closedBy_38 : decode cX9_closedBy 38 = .ok (.iconst 0, 1) := by decide +kernel
theorem dX9_closedBy_39 : decode cX9_closedBy 39 = .ok (.iaload, 1) := by decide +kernel
theorem dX9_closedBy_40 : decode cX9_closedBy 40 = .ok (.if_icmp .ge 31, 3) := by decide +kernel
theorem dX9_closedBy_43 : decode cX9_closedBy 43 = .ok (.iload_n 3, 1) := by decide +kernel
theorem dX9_closedBy_44 : decode cX9_closedBy 44 = .ok (.aload_n 0, 1) := by decide +kernel
theorem dX9_closedBy_45 : decode cX9_closedBy 45 = .ok (.iload 4, 2) := by decide +kernel
theorem dX9_closedBy_47 : decode cX9_closedBy 47 = .ok (.iload_n 1, 1) := by decide +kernel
theorem dX9_closedBy_48 : decode cX9_closedBy 48 = .ok (.invokevirtual 319, 3) := by decide +kernel
theorem dX9_closedBy_51 : decode cX9_closedBy 51 = .ok (.iload_n 2, 1) := by decide +kernel
theorem dX9_closedBy_52 : decode cX9_closedBy 52 = .ok (.if_icmp .le 10, 3) := by decide +kernel
theorem dX9_closedBy_55 : decode cX9_closedBy 55 = .ok (.iconst 1, 1) := by decide +kernel
theorem dX9_closedBy_56 : decode cX9_closedBy 56 = .ok (.iload 4, 2) := by decide +kernel
theorem dX9_closedBy_58 : decode cX9_closedBy 58 = .ok (.ishl, 1) := by decide +kernel
theorem dX9_closedBy_59 : decode cX9_closedBy 59 = .ok (.goto 4, 3) := by decide +kernel
theorem dX9_closedBy_62 : decode cX9_closedBy 62 = .ok (.iconst 0, 1) := by decide +kernel
theorem dX9_closedBy_63 : decode cX9_closedBy 63 = .ok (.ior, 1) := by decide +kernel
theorem dX9_closedBy_64 : decode cX9_closedBy 64 = .ok (.istore_n 3, 1) := by decide +kernel
theorem dX9_closedBy_65 : decode cX9_closedBy 65 = .ok (.iinc 4 1, 3) := by decide +kernel
theorem dX9_closedBy_68 : decode cX9_closedBy 68 = .ok (.goto (-36), 3) := by decide +kernel
theorem dX9_closedBy_71 : decode cX9_closedBy 71 = .ok (.iload_n 3, 1) := by decide +kernel
theorem dX9_closedBy_72 : decode cX9_closedBy 72 = .ok (.ireturn, 1) := by decide +kernel
theorem dX9_sooner_0 : decode cX9_sooner 0 = .ok (.aload_n 0, 1) := by decide +kernel
theorem dX9_sooner_1 : decode cX9_sooner 1 = .ok (.aload_n 0, 1) := by decide +kernel
theorem dX9_sooner_2 : decode cX9_sooner 2 = .ok (.iload_n 1, 1) := by decide +kernel
theorem dX9_sooner_3 : decode cX9_sooner 3 = .ok (.invokevirtual 337, 3) := by decide +kernel
theorem dX9_sooner_6 : decode cX9_sooner 6 = .ok (.ifCond .eq 22, 3) := by decide +kernel
theorem dX9_sooner_9 : decode cX9_sooner 9 = .ok (.aload_n 0, 1) := by decide +kernel
theorem dX9_sooner_10 : decode cX9_sooner 10 = .ok (.iload_n 2, 1) := by decide +kernel
theorem dX9_sooner_11 : decode cX9_sooner 11 = .ok (.invokevirtual 322, 3) := by decide +kernel
theorem dX9_sooner_14 : decode cX9_sooner 14 = .ok (.ifCond .eq 14, 3) := by decide +kernel
theorem dX9_sooner_17 : decode cX9_sooner 17 = .ok (.iload_n 3, 1) := by decide +kernel
theorem dX9_sooner_18 : decode cX9_sooner 18 = .ok (.invokestatic 364, 3) := by decide +kernel
theorem dX9_sooner_21 : decode cX9_sooner 21 = .ok (.ifCond .eq 7, 3) := by decide +kernel
theorem dX9_sooner_24 : decode cX9_sooner 24 = .ok (.iconst 0, 1) := by decide +kernel
theorem dX9_sooner_25 : decode cX9_sooner 25 = .ok (.goto 4, 3) := by decide +kernel
theorem dX9_sooner_28 : decode cX9_sooner 28 = .ok (.iconst 1, 1) := by decide +kernel
theorem dX9_sooner_29 : decode cX9_sooner 29 = .ok (.putfield 85, 3) := by decide +kernel
theorem dX9_sooner_32 : decode cX9_sooner 32 = .ok (.aload_n 0, 1) := by decide +kernel
theorem dX9_sooner_33 : decode cX9_sooner 33 = .ok (.invokevirtual 361, 3) := by decide +kernel
theorem dX9_sooner_36 : decode cX9_sooner 36 = .ok (.aload_n 0, 1) := by decide +kernel
theorem dX9_sooner_37 : decode cX9_sooner 37 = .ok (.getfield 85, 3) := by decide +kernel
theorem dX9_sooner_40 : decode cX9_sooner 40 = .ok (.iconst 1, 1) := by decide +kernel
theorem dX9_sooner_41 : decode cX9_sooner 41 = .ok (.if_icmp .ne 7, 3) := by decide +kernel
theorem dX9_sooner_44 : decode cX9_sooner 44 = .ok (.iconst 0, 1) := by decide +kernel
theorem dX9_sooner_45 : decode cX9_sooner 45 = .ok (.goto 20, 3) := by decide +kernel
theorem dX9_sooner_48 : decode cX9_sooner 48 = .ok (.aload_n 0, 1) := by decide +kernel
theorem dX9_sooner_49 : decode cX9_sooner 49 = .ok (.iload_n 2, 1) := by decide +kernel
theorem dX9_sooner_50 : decode cX9_sooner 50 = .ok (.iload_n 3, 1) := by decide +kernel
theorem dX9_sooner_51 : decode cX9_sooner 51 = .ok (.iconst 0, 1) := by decide +kernel
theorem dX9_sooner_52 : decode cX9_sooner 52 = .ok (.invokevirtual 367, 3) := by decide +kernel
theorem dX9_sooner_55 : decode cX9_sooner 55 = .ok (.aload_n 0, 1) := by decide +kernel
theorem dX9_sooner_56 : decode cX9_sooner 56 = .ok (.iload_n 2, 1) := by decide +kernel
theorem dX9_sooner_57 : decode cX9_sooner 57 = .ok (.iload_n 3, 1) := by decide +kernel
theorem dX9_sooner_58 : decode cX9_sooner 58 = .ok (.iconst 1, 1) := by decide +kernel
theorem dX9_sooner_59 : decode cX9_sooner 59 = .ok (.iload_n 1, 1) := by decide +kernel
theorem dX9_sooner_60 : decode cX9_sooner 60 = .ok (.ishl, 1) := by decide +kernel
theorem dX9_sooner_61 : decode cX9_sooner 61 = .ok (.invokevirtual 367, 3) := by decide +kernel
theorem dX9_sooner_64 : decode cX9_sooner 64 = .ok (.isub, 1) := by decide +kernel
theorem dX9_sooner_65 : decode cX9_sooner 65 = .ok (.ireturn, 1) := by decide +kernel
theorem qw_601 : (Cond.code yX9_isPiece cX9_isPiece 2 (some .boolean) : Cond) ∈ TBL := List.mem_of_getElem? (i := 594) (by decide +kernel)
theorem qw_602 : (Cond.methodLink RX9 322 yX9_isPiece : Cond) ∈ TBL := List.mem_of_getElem? (i := 591) (by decide +kernel)
theorem qw_603 : (Cond.instanceMethod yX9_isPiece : Cond) ∈ TBL := List.mem_of_getElem? (i := 592) (by decide +kernel)
theorem qw_604 : (Cond.selects RX9 yX9_isPiece yX9_isPiece : Cond) ∈ TBL := List.mem_of_getElem? (i := 593) (by decide +kernel)
theorem qw_605 : (Cond.code yX9_under cX9_under 4 (some .int) : Cond) ∈ TBL := List.mem_of_getElem? (i := 598) (by decide +kernel)
theorem qw_606 : (Cond.methodLink RX9 325 yX9_under : Cond) ∈ TBL := List.mem_of_getElem? (i := 595) (by decide +kernel)
theorem qw_607 : (Cond.instanceMethod yX9_under : Cond) ∈ TBL := List.mem_of_getElem? (i := 596) (by decide +kernel)
theorem qw_608 : (Cond.selects RX9 yX9_under yX9_under : Cond) ∈ TBL := List.mem_of_getElem? (i := 597) (by decide +kernel)
theorem qw_609 : (Cond.code yX9_isPerson cX9_isPerson 2 (some .boolean) : Cond) ∈ TBL := List.mem_of_getElem? (i := 624) (by decide +kernel)
theorem qw_610 : (Cond.methodLink RX9 331 yX9_isPerson : Cond) ∈ TBL := List.mem_of_getElem? (i := 621) (by decide +kernel)
theorem qw_611 : (Cond.instanceMethod yX9_isPerson : Cond) ∈ TBL := List.mem_of_getElem? (i := 622) (by decide +kernel)
theorem qw_612 : (Cond.selects RX9 yX9_isPerson yX9_isPerson : Cond) ∈ TBL := List.mem_of_getElem? (i := 623) (by decide +kernel)
theorem qw_613 : (Cond.code yX9_havers cX9_havers 4 (some .int) : Cond) ∈ TBL := List.mem_of_getElem? (i := 628) (by decide +kernel)
theorem qw_614 : (Cond.methodLink RX9 334 yX9_havers : Cond) ∈ TBL := List.mem_of_getElem? (i := 625) (by decide +kernel)
theorem qw_615 : (Cond.instanceMethod yX9_havers : Cond) ∈ TBL := List.mem_of_getElem? (i := 626) (by decide +kernel)
theorem qw_616 : (Cond.selects RX9 yX9_havers yX9_havers : Cond) ∈ TBL := List.mem_of_getElem? (i := 627) (by decide +kernel)
theorem qw_617 : (Cond.code yX9_isClosure cX9_isClosure 2 (some .boolean) : Cond) ∈ TBL := List.mem_of_getElem? (i := 653) (by decide +kernel)
theorem qw_618 : (Cond.methodLink RX9 337 yX9_isClosure : Cond) ∈ TBL := List.mem_of_getElem? (i := 650) (by decide +kernel)
theorem qw_619 : (Cond.instanceMethod yX9_isClosure : Cond) ∈ TBL := List.mem_of_getElem? (i := 651) (by decide +kernel)
theorem qw_620 : (Cond.selects RX9 yX9_isClosure yX9_isClosure : Cond) ∈ TBL := List.mem_of_getElem? (i := 652) (by decide +kernel)
theorem qw_621 : (Cond.code yX9_targets cX9_targets 4 (some .int) : Cond) ∈ TBL := List.mem_of_getElem? (i := 657) (by decide +kernel)
theorem qw_622 : (Cond.methodLink RX9 340 yX9_targets : Cond) ∈ TBL := List.mem_of_getElem? (i := 654) (by decide +kernel)
theorem qw_623 : (Cond.instanceMethod yX9_targets : Cond) ∈ TBL := List.mem_of_getElem? (i := 655) (by decide +kernel)
theorem qw_624 : (Cond.selects RX9 yX9_targets yX9_targets : Cond) ∈ TBL := List.mem_of_getElem? (i := 656) (by decide +kernel)
theorem qw_625 : (Cond.code yX9_closes cX9_closes 4 (some .int) : Cond) ∈ TBL := List.mem_of_getElem? (i := 665) (by decide +kernel)
theorem qw_626 : (Cond.methodLink RX9 343 yX9_closes : Cond) ∈ TBL := List.mem_of_getElem? (i := 662) (by decide +kernel)
theorem qw_627 : (Cond.instanceMethod yX9_closes : Cond) ∈ TBL := List.mem_of_getElem? (i := 663) (by decide +kernel)
theorem qw_628 : (Cond.selects RX9 yX9_closes yX9_closes : Cond) ∈ TBL := List.mem_of_getElem? (i := 664) (by decide +kernel)
theorem qw_629 : (Cond.code yX9_laysEnds cX9_laysEnds 3 none : Cond) ∈ TBL := List.mem_of_getElem? (i := 718) (by decide +kernel)
theorem qw_630 : (Cond.methodLink RX9 361 yX9_laysEnds : Cond) ∈ TBL := List.mem_of_getElem? (i := 715) (by decide +kernel)
theorem qw_631 : (Cond.instanceMethod yX9_laysEnds : Cond) ∈ TBL := List.mem_of_getElem? (i := 716) (by decide +kernel)
theorem qw_632 : (Cond.selects RX9 yX9_laysEnds yX9_laysEnds : Cond) ∈ TBL := List.mem_of_getElem? (i := 717) (by decide +kernel)
theorem rgS6_fcbeb75 {A : Nat → Prop} {D : va_G} {cl : List vw_C} {H : Heap} {c0 c1 c2 c3 c4 c5 : Nat × va_E} {d e : Nat × va_E} (hP : va_P D cl (([c0, c1, c2, c3, c4, c5]).set 0 d) H) (hD : va_D A (([c0, c1, c2, c3, c4, c5]).set 0 d)) (h : d = e) : va_P D cl ([e, c1, c2, c3, c4, c5]) H ∧ va_D A ([e, c1, c2, c3, c4, c5]) := by subst h; exact ⟨hP, hD⟩
theorem rgP6_7bcecd8 {D : va_G} {cl : List vw_C} {H : Heap} {c0 c1 c2 c3 c4 c5 : Nat × va_E} (h : va_P D cl ([c0, c1, c2, c3, c4, c5]) H) : va_P D cl ([c0, c1]) H := h.sub (ws' := [c0, c1]) [0, 1] rfl
theorem rgK5_92301ca {D : va_G} {cl : List vw_C} {U : State} {t0 t1 t2 t3 t4 : ClassId × FieldType} (h : va_K D cl [t0, t1, t2, t3, t4] U) : va_K D cl [t0] U := h.sub (tys' := [t0]) [0] rfl
theorem rgT5_06bc212 {t0 t1 t2 t3 t4 : ClassId × FieldType} : (([t0, t1, t2, t3, t4] : List (ClassId × FieldType)))[1]? = some t1 := rfl
theorem rgL6_a3d2007 {c0 c1 c2 c3 c4 c5 : Nat × va_E} : (([c0, c1, c2, c3, c4, c5] : va_W))[3]? = some c3 := rfl
theorem rgT5_57d5a88 {t0 t1 t2 t3 t4 : ClassId × FieldType} : (([t0, t1, t2, t3, t4] : List (ClassId × FieldType)))[2]? = some t2 := rfl
theorem rgP6_fc0c881 {D : va_G} {cl : List vw_C} {H : Heap} {c0 c1 c2 c3 c4 c5 : Nat × va_E} (h : va_P D cl ([c0, c1, c2, c3, c4, c5]) H) : va_P D cl ([c0, c1, c5]) H := h.sub (ws' := [c0, c1, c5]) [0, 1, 5] rfl
theorem rgK5_146deb6 {D : va_G} {cl : List vw_C} {U : State} {t0 t1 t2 t3 t4 : ClassId × FieldType} (h : va_K D cl [t0, t1, t2, t3, t4] U) : va_K D cl [t0, t4] U := h.sub (tys' := [t0, t4]) [0, 4] rfl
theorem rgP6_038e098 {D : va_G} {cl : List vw_C} {H : Heap} {c0 c1 c2 c3 c4 c5 : Nat × va_E} (h : va_P D cl ([c0, c1, c2, c3, c4, c5]) H) : va_P D cl ([c0, c5]) H := h.sub (ws' := [c0, c5]) [0, 5] rfl
theorem rgK5_ad253ab {D : va_G} {cl : List vw_C} {U : State} {t0 t1 t2 t3 t4 : ClassId × FieldType} (h : va_K D cl [t0, t1, t2, t3, t4] U) : va_K D cl [t4] U := h.sub (tys' := [t4]) [4] rfl
theorem rgP6_0b09e1e {D : va_G} {cl : List vw_C} {H : Heap} {c0 c1 c2 c3 c4 c5 : Nat × va_E} (h : va_P D cl ([c0, c1, c2, c3, c4, c5]) H) : va_P D cl ([c0, c2, c4]) H := h.sub (ws' := [c0, c2, c4]) [0, 2, 4] rfl
theorem rgK5_ca6d75c {D : va_G} {cl : List vw_C} {U : State} {t0 t1 t2 t3 t4 : ClassId × FieldType} (h : va_K D cl [t0, t1, t2, t3, t4] U) : va_K D cl [t1, t3] U := h.sub (tys' := [t1, t3]) [1, 3] rfl
theorem rgS13_d750318 {A : Nat → Prop} {D : va_G} {cl : List vw_C} {H : Heap} {c0 c1 c2 c3 c4 c5 c6 c7 c8 c9 c10 c11 c12 : Nat × va_E} {d e : Nat × va_E} (hP : va_P D cl (([c0, c1, c2, c3, c4, c5, c6, c7, c8, c9, c10, c11, c12]).set 0 d) H) (hD : va_D A (([c0, c1, c2, c3, c4, c5, c6, c7, c8, c9, c10, c11, c12]).set 0 d)) (h : d = e) : va_P D cl ([e, c1, c2, c3, c4, c5, c6, c7, c8, c9, c10, c11, c12]) H ∧ va_D A ([e, c1, c2, c3, c4, c5, c6, c7, c8, c9, c10, c11, c12]) := by subst h; exact ⟨hP, hD⟩
theorem rgP13_4a0220d {D : va_G} {cl : List vw_C} {H : Heap} {c0 c1 c2 c3 c4 c5 c6 c7 c8 c9 c10 c11 c12 : Nat × va_E} (h : va_P D cl ([c0, c1, c2, c3, c4, c5, c6, c7, c8, c9, c10, c11, c12]) H) : va_P D cl ([c0, c2]) H := h.sub (ws' := [c0, c2]) [0, 2] rfl
theorem rgK12_1b900a9 {D : va_G} {cl : List vw_C} {U : State} {t0 t1 t2 t3 t4 t5 t6 t7 t8 t9 t10 t11 : ClassId × FieldType} (h : va_K D cl [t0, t1, t2, t3, t4, t5, t6, t7, t8, t9, t10, t11] U) : va_K D cl [t1] U := h.sub (tys' := [t1]) [1] rfl
theorem rgT12_aed2869 {t0 t1 t2 t3 t4 t5 t6 t7 t8 t9 t10 t11 : ClassId × FieldType} : (([t0, t1, t2, t3, t4, t5, t6, t7, t8, t9, t10, t11] : List (ClassId × FieldType)))[7]? = some t7 := rfl
theorem rgP13_6112b67 {D : va_G} {cl : List vw_C} {H : Heap} {c0 c1 c2 c3 c4 c5 c6 c7 c8 c9 c10 c11 c12 : Nat × va_E} (h : va_P D cl ([c0, c1, c2, c3, c4, c5, c6, c7, c8, c9, c10, c11, c12]) H) : va_P D cl ([c0, c1, c6, c7, c8, c9]) H := h.sub (ws' := [c0, c1, c6, c7, c8, c9]) [0, 1, 6, 7, 8, 9] rfl
theorem rgK12_c6e6ecd {D : va_G} {cl : List vw_C} {U : State} {t0 t1 t2 t3 t4 t5 t6 t7 t8 t9 t10 t11 : ClassId × FieldType} (h : va_K D cl [t0, t1, t2, t3, t4, t5, t6, t7, t8, t9, t10, t11] U) : va_K D cl [t0, t5, t6, t7, t8] U := h.sub (tys' := [t0, t5, t6, t7, t8]) [0, 5, 6, 7, 8] rfl
theorem rgJ13_b0e94ea {A0 : Nat → Prop} {D : va_G} {cl : List vw_C} {H H1 : Heap} {c0 c1 c2 c3 c4 c5 c6 c7 c8 c9 c10 c11 c12 : Nat × va_E} {d0 d1 d2 d3 d4 d5 d6 d7 d8 d9 d10 d11 d12 : Nat × va_E} (hP : va_P D cl ([c0, c1, c2, c3, c4, c5, c6, c7, c8, c9, c10, c11, c12]) H) (hD : va_D A0 ([c0, c1, c2, c3, c4, c5, c6, c7, c8, c9, c10, c11, c12])) (hk : ∀ q : Nat, q < H.size → ¬ va_A ([c0, c1, c2, c3, c4, c5, c6, c7, c8, c9, c10, c11, c12]) H.size q → H1[q]? = H[q]?) (hF : ∀ q, va_A ([c0, c1, c2, c3, c4, c5, c6, c7, c8, c9, c10, c11, c12]) H.size q → A0 q) (hP1 : va_P D cl ([d0, d1, d2, d3, d4, d5, d6, d7, d8, d9, d10, d11, d12]) H1) (hD1 : va_D (va_A ([c0, c1, c2, c3, c4, c5, c6, c7, c8, c9, c10, c11, c12]) H.size) ([d0, d1, d2, d3, d4, d5, d6, d7, d8, d9, d10, d11, d12])) : va_P D cl ([d0, d1, d2, d3, d4, d5, d6, d7, d8, d9, d10, d11, d12]) H1 ∧ va_D A0 ([d0, d1, d2, d3, d4, d5, d6, d7, d8, d9, d10, d11, d12]) := by
  obtain ⟨h1, h2⟩ := va_join (ws := [c0, c1, c2, c3, c4, c5, c6, c7, c8, c9, c10, c11, c12]) (wc := [c0, c1, c2, c3, c4, c5, c6, c7, c8, c9, c10, c11, c12]) (wr := []) (w1 := [d0, d1, d2, d3, d4, d5, d6, d7, d8, d9, d10, d11, d12]) hP hD [0, 1, 2, 3, 4, 5, 6, 7, 8, 9, 10, 11, 12] [] rfl rfl (by decide +kernel) (by decide +kernel) hk hF hP1 hD1
  exact ⟨va_P.sub (ws := [d0, d1, d2, d3, d4, d5, d6, d7, d8, d9, d10, d11, d12]) (ws' := [d0, d1, d2, d3, d4, d5, d6, d7, d8, d9, d10, d11, d12]) h1 [0, 1, 2, 3, 4, 5, 6, 7, 8, 9, 10, 11, 12] rfl, va_D.sub (ws := [d0, d1, d2, d3, d4, d5, d6, d7, d8, d9, d10, d11, d12]) (ws' := [d0, d1, d2, d3, d4, d5, d6, d7, d8, d9, d10, d11, d12]) h2 [0, 1, 2, 3, 4, 5, 6, 7, 8, 9, 10, 11, 12] (by decide +kernel) rfl⟩
theorem rgP13_64d05c0 {D : va_G} {cl : List vw_C} {H : Heap} {c0 c1 c2 c3 c4 c5 c6 c7 c8 c9 c10 c11 c12 : Nat × va_E} (h : va_P D cl ([c0, c1, c2, c3, c4, c5, c6, c7, c8, c9, c10, c11, c12]) H) : va_P D cl ([c0, c6, c7, c8, c9]) H := h.sub (ws' := [c0, c6, c7, c8, c9]) [0, 6, 7, 8, 9] rfl
theorem rgK12_c9eba68 {D : va_G} {cl : List vw_C} {U : State} {t0 t1 t2 t3 t4 t5 t6 t7 t8 t9 t10 t11 : ClassId × FieldType} (h : va_K D cl [t0, t1, t2, t3, t4, t5, t6, t7, t8, t9, t10, t11] U) : va_K D cl [t5, t6, t7, t8] U := h.sub (tys' := [t5, t6, t7, t8]) [5, 6, 7, 8] rfl
theorem rgP13_38a12b7 {D : va_G} {cl : List vw_C} {H : Heap} {c0 c1 c2 c3 c4 c5 c6 c7 c8 c9 c10 c11 c12 : Nat × va_E} (h : va_P D cl ([c0, c1, c2, c3, c4, c5, c6, c7, c8, c9, c10, c11, c12]) H) : va_P D cl ([c0, c3, c4, c5, c8, c9, c10, c11, c12]) H := h.sub (ws' := [c0, c3, c4, c5, c8, c9, c10, c11, c12]) [0, 3, 4, 5, 8, 9, 10, 11, 12] rfl
theorem rgK12_c22815d {D : va_G} {cl : List vw_C} {U : State} {t0 t1 t2 t3 t4 t5 t6 t7 t8 t9 t10 t11 : ClassId × FieldType} (h : va_K D cl [t0, t1, t2, t3, t4, t5, t6, t7, t8, t9, t10, t11] U) : va_K D cl [t2, t3, t4, t7, t8, t9, t10, t11] U := h.sub (tys' := [t2, t3, t4, t7, t8, t9, t10, t11]) [2, 3, 4, 7, 8, 9, 10, 11] rfl
theorem rgD13_9a4027d {A : Nat → Prop} {c0 c1 c2 c3 c4 c5 c6 c7 c8 c9 c10 c11 c12 : Nat × va_E} (h : va_D A ([c0, c1, c2, c3, c4, c5, c6, c7, c8, c9, c10, c11, c12])) : va_D A ([c0, c3, c4, c5, c8, c9, c10, c11, c12]) := h.sub (ws' := [c0, c3, c4, c5, c8, c9, c10, c11, c12]) [0, 3, 4, 5, 8, 9, 10, 11, 12] (by decide +kernel) rfl
theorem rgJ13_3153061 {A0 : Nat → Prop} {D : va_G} {cl : List vw_C} {H H1 : Heap} {c0 c1 c2 c3 c4 c5 c6 c7 c8 c9 c10 c11 c12 : Nat × va_E} {d0 d1 d2 d3 d4 d5 d6 d7 d8 : Nat × va_E} (hP : va_P D cl ([c0, c1, c2, c3, c4, c5, c6, c7, c8, c9, c10, c11, c12]) H) (hD : va_D A0 ([c0, c1, c2, c3, c4, c5, c6, c7, c8, c9, c10, c11, c12])) (hk : ∀ q : Nat, q < H.size → ¬ va_A ([c0, c3, c4, c5, c8, c9, c10, c11, c12]) H.size q → H1[q]? = H[q]?) (hF : ∀ q, va_A ([c0, c3, c4, c5, c8, c9, c10, c11, c12]) H.size q → A0 q) (hP1 : va_P D cl ([d0, d1, d2, d3, d4, d5, d6, d7, d8]) H1) (hD1 : va_D (va_A ([c0, c3, c4, c5, c8, c9, c10, c11, c12]) H.size) ([d0, d1, d2, d3, d4, d5, d6, d7, d8])) : va_P D cl ([d0, c1, c2, d1, d2, d3, c6, c7, d4, d5, d6, d7, d8]) H1 ∧ va_D A0 ([d0, c1, c2, d1, d2, d3, c6, c7, d4, d5, d6, d7, d8]) := by
  obtain ⟨h1, h2⟩ := va_join (ws := [c0, c1, c2, c3, c4, c5, c6, c7, c8, c9, c10, c11, c12]) (wc := [c0, c3, c4, c5, c8, c9, c10, c11, c12]) (wr := [c1, c2, c6, c7]) (w1 := [d0, d1, d2, d3, d4, d5, d6, d7, d8]) hP hD [0, 3, 4, 5, 8, 9, 10, 11, 12] [1, 2, 6, 7] rfl rfl (by decide +kernel) (by decide +kernel) hk hF hP1 hD1
  exact ⟨va_P.sub (ws := [c1, c2, c6, c7, d0, d1, d2, d3, d4, d5, d6, d7, d8]) (ws' := [d0, c1, c2, d1, d2, d3, c6, c7, d4, d5, d6, d7, d8]) h1 [4, 0, 1, 5, 6, 7, 2, 3, 8, 9, 10, 11, 12] rfl, va_D.sub (ws := [c1, c2, c6, c7, d0, d1, d2, d3, d4, d5, d6, d7, d8]) (ws' := [d0, c1, c2, d1, d2, d3, c6, c7, d4, d5, d6, d7, d8]) h2 [4, 0, 1, 5, 6, 7, 2, 3, 8, 9, 10, 11, 12] (by decide +kernel) rfl⟩
theorem rgS14_947ddd8 {A : Nat → Prop} {D : va_G} {cl : List vw_C} {H : Heap} {c0 c1 c2 c3 c4 c5 c6 c7 c8 c9 c10 c11 c12 c13 : Nat × va_E} {d e : Nat × va_E} (hP : va_P D cl (([c0, c1, c2, c3, c4, c5, c6, c7, c8, c9, c10, c11, c12, c13]).set 0 d) H) (hD : va_D A (([c0, c1, c2, c3, c4, c5, c6, c7, c8, c9, c10, c11, c12, c13]).set 0 d)) (h : d = e) : va_P D cl ([e, c1, c2, c3, c4, c5, c6, c7, c8, c9, c10, c11, c12, c13]) H ∧ va_D A ([e, c1, c2, c3, c4, c5, c6, c7, c8, c9, c10, c11, c12, c13]) := by subst h; exact ⟨hP, hD⟩
theorem rgJ14_93bd4e1 {A0 : Nat → Prop} {D : va_G} {cl : List vw_C} {H H1 : Heap} {c0 c1 c2 c3 c4 c5 c6 c7 c8 c9 c10 c11 c12 c13 : Nat × va_E} {d0 d1 d2 d3 d4 d5 d6 d7 d8 d9 d10 d11 d12 d13 : Nat × va_E} (hP : va_P D cl ([c0, c1, c2, c3, c4, c5, c6, c7, c8, c9, c10, c11, c12, c13]) H) (hD : va_D A0 ([c0, c1, c2, c3, c4, c5, c6, c7, c8, c9, c10, c11, c12, c13])) (hk : ∀ q : Nat, q < H.size → ¬ va_A ([c0, c1, c2, c3, c4, c5, c6, c7, c8, c9, c10, c11, c12, c13]) H.size q → H1[q]? = H[q]?) (hF : ∀ q, va_A ([c0, c1, c2, c3, c4, c5, c6, c7, c8, c9, c10, c11, c12, c13]) H.size q → A0 q) (hP1 : va_P D cl ([d0, d1, d2, d3, d4, d5, d6, d7, d8, d9, d10, d11, d12, d13]) H1) (hD1 : va_D (va_A ([c0, c1, c2, c3, c4, c5, c6, c7, c8, c9, c10, c11, c12, c13]) H.size) ([d0, d1, d2, d3, d4, d5, d6, d7, d8, d9, d10, d11, d12, d13])) : va_P D cl ([d0, d1, d2, d3, d4, d5, d6, d7, d8, d9, d10, d11, d12, d13]) H1 ∧ va_D A0 ([d0, d1, d2, d3, d4, d5, d6, d7, d8, d9, d10, d11, d12, d13]) := by
  obtain ⟨h1, h2⟩ := va_join (ws := [c0, c1, c2, c3, c4, c5, c6, c7, c8, c9, c10, c11, c12, c13]) (wc := [c0, c1, c2, c3, c4, c5, c6, c7, c8, c9, c10, c11, c12, c13]) (wr := []) (w1 := [d0, d1, d2, d3, d4, d5, d6, d7, d8, d9, d10, d11, d12, d13]) hP hD [0, 1, 2, 3, 4, 5, 6, 7, 8, 9, 10, 11, 12, 13] [] rfl rfl (by decide +kernel) (by decide +kernel) hk hF hP1 hD1
  exact ⟨va_P.sub (ws := [d0, d1, d2, d3, d4, d5, d6, d7, d8, d9, d10, d11, d12, d13]) (ws' := [d0, d1, d2, d3, d4, d5, d6, d7, d8, d9, d10, d11, d12, d13]) h1 [0, 1, 2, 3, 4, 5, 6, 7, 8, 9, 10, 11, 12, 13] rfl, va_D.sub (ws := [d0, d1, d2, d3, d4, d5, d6, d7, d8, d9, d10, d11, d12, d13]) (ws' := [d0, d1, d2, d3, d4, d5, d6, d7, d8, d9, d10, d11, d12, d13]) h2 [0, 1, 2, 3, 4, 5, 6, 7, 8, 9, 10, 11, 12, 13] (by decide +kernel) rfl⟩
theorem rgP14_dbed6f8 {D : va_G} {cl : List vw_C} {H : Heap} {c0 c1 c2 c3 c4 c5 c6 c7 c8 c9 c10 c11 c12 c13 : Nat × va_E} (h : va_P D cl ([c0, c1, c2, c3, c4, c5, c6, c7, c8, c9, c10, c11, c12, c13]) H) : va_P D cl ([c0, c1]) H := h.sub (ws' := [c0, c1]) [0, 1] rfl
theorem rgK13_c419d91 {D : va_G} {cl : List vw_C} {U : State} {t0 t1 t2 t3 t4 t5 t6 t7 t8 t9 t10 t11 t12 : ClassId × FieldType} (h : va_K D cl [t0, t1, t2, t3, t4, t5, t6, t7, t8, t9, t10, t11, t12] U) : va_K D cl [t0] U := h.sub (tys' := [t0]) [0] rfl
theorem rgP14_13c4e7a {D : va_G} {cl : List vw_C} {H : Heap} {c0 c1 c2 c3 c4 c5 c6 c7 c8 c9 c10 c11 c12 c13 : Nat × va_E} (h : va_P D cl ([c0, c1, c2, c3, c4, c5, c6, c7, c8, c9, c10, c11, c12, c13]) H) : va_P D cl ([]) H := h.sub (ws' := []) [] rfl
theorem rgP14_910b6ce {D : va_G} {cl : List vw_C} {H : Heap} {c0 c1 c2 c3 c4 c5 c6 c7 c8 c9 c10 c11 c12 c13 : Nat × va_E} (h : va_P D cl ([c0, c1, c2, c3, c4, c5, c6, c7, c8, c9, c10, c11, c12, c13]) H) : va_P D cl ([c0, c2, c8, c13]) H := h.sub (ws' := [c0, c2, c8, c13]) [0, 2, 8, 13] rfl
theorem rgK13_829f201 {D : va_G} {cl : List vw_C} {U : State} {t0 t1 t2 t3 t4 t5 t6 t7 t8 t9 t10 t11 t12 : ClassId × FieldType} (h : va_K D cl [t0, t1, t2, t3, t4, t5, t6, t7, t8, t9, t10, t11, t12] U) : va_K D cl [t1, t7, t12] U := h.sub (tys' := [t1, t7, t12]) [1, 7, 12] rfl
theorem rgP14_6b4c51b {D : va_G} {cl : List vw_C} {H : Heap} {c0 c1 c2 c3 c4 c5 c6 c7 c8 c9 c10 c11 c12 c13 : Nat × va_E} (h : va_P D cl ([c0, c1, c2, c3, c4, c5, c6, c7, c8, c9, c10, c11, c12, c13]) H) : va_P D cl ([c0, c12]) H := h.sub (ws' := [c0, c12]) [0, 12] rfl
theorem rgK13_95aefbf {D : va_G} {cl : List vw_C} {U : State} {t0 t1 t2 t3 t4 t5 t6 t7 t8 t9 t10 t11 t12 : ClassId × FieldType} (h : va_K D cl [t0, t1, t2, t3, t4, t5, t6, t7, t8, t9, t10, t11, t12] U) : va_K D cl [t11] U := h.sub (tys' := [t11]) [11] rfl
theorem rgP14_4dc39f2 {D : va_G} {cl : List vw_C} {H : Heap} {c0 c1 c2 c3 c4 c5 c6 c7 c8 c9 c10 c11 c12 c13 : Nat × va_E} (h : va_P D cl ([c0, c1, c2, c3, c4, c5, c6, c7, c8, c9, c10, c11, c12, c13]) H) : va_P D cl ([c0, c8]) H := h.sub (ws' := [c0, c8]) [0, 8] rfl
theorem rgK13_9965260 {D : va_G} {cl : List vw_C} {U : State} {t0 t1 t2 t3 t4 t5 t6 t7 t8 t9 t10 t11 t12 : ClassId × FieldType} (h : va_K D cl [t0, t1, t2, t3, t4, t5, t6, t7, t8, t9, t10, t11, t12] U) : va_K D cl [t7] U := h.sub (tys' := [t7]) [7] rfl
theorem rgP13_cd0f0b0 {D : va_G} {cl : List vw_C} {H : Heap} {c0 c1 c2 c3 c4 c5 c6 c7 c8 c9 c10 c11 c12 : Nat × va_E} (h : va_P D cl ([c0, c1, c2, c3, c4, c5, c6, c7, c8, c9, c10, c11, c12]) H) : va_P D cl ([]) H := h.sub (ws' := []) [] rfl
theorem rgL13_d2ab6f9 {c0 c1 c2 c3 c4 c5 c6 c7 c8 c9 c10 c11 c12 : Nat × va_E} : (([c0, c1, c2, c3, c4, c5, c6, c7, c8, c9, c10, c11, c12] : va_W))[2]? = some c2 := rfl
theorem rgT12_9de3ffa {t0 t1 t2 t3 t4 t5 t6 t7 t8 t9 t10 t11 : ClassId × FieldType} : (([t0, t1, t2, t3, t4, t5, t6, t7, t8, t9, t10, t11] : List (ClassId × FieldType)))[1]? = some t1 := rfl
theorem rgP14_f407ee8 {D : va_G} {cl : List vw_C} {H : Heap} {c0 c1 c2 c3 c4 c5 c6 c7 c8 c9 c10 c11 c12 c13 : Nat × va_E} (h : va_P D cl ([c0, c1, c2, c3, c4, c5, c6, c7, c8, c9, c10, c11, c12, c13]) H) : va_P D cl ([c0, c2]) H := h.sub (ws' := [c0, c2]) [0, 2] rfl
theorem rgK13_b433afa {D : va_G} {cl : List vw_C} {U : State} {t0 t1 t2 t3 t4 t5 t6 t7 t8 t9 t10 t11 t12 : ClassId × FieldType} (h : va_K D cl [t0, t1, t2, t3, t4, t5, t6, t7, t8, t9, t10, t11, t12] U) : va_K D cl [t1] U := h.sub (tys' := [t1]) [1] rfl
set_option maxHeartbeats 4000000 in
set_option maxRecDepth 100000 in
theorem k_X9_piece (l : Launch) (dC : Nat → ClassId) (dI : Nat → Nat → Nat) (g : Gv) (sz : Nat) (a0 : Nat) (a1 : Int32) (a2 : Int32) (a0_0 : Int32) (a0_1 : Int32) (a0_2 : Int32) (a0_3 : Int32) (a0_4 : Nat) (a0_5 : Int32) (a0_6 : Int32) (a0_7 : Int32) (a0_8 : Int32) (a0_9 : Int32) (a0_10 : Int32) (a0_11 : Int64) (a0_12 : Int32) (a0_13 : Int32) (a0_14 : Int32) (a0_15 : Int32) (a0_16 : Int32) (a0_17 : Int32) (a0_18 : Nat) (a0_19 : Nat) (a0_20 : Nat) (a0_21 : Nat) (a0_22 : Nat) (a0_23 : Nat) (a0_24 : Nat) (a0_25 : Nat) (a0_26 : Nat) (a0_27 : Nat) (a0_28 : Nat) (a0_29 : Nat) (a0_30 : Nat) (a0_31 : Nat) (a0_32 : Nat) (a0_33 : Nat) (a0_34 : Nat) (a0_35 : Nat) (a0_36 : Int64) (a0_37 : Int32) (a0_38 : Nat) (a0_39 : Nat) (a0_40 : Int32) (a0_41 : Nat) (a0_42 : Nat) (a0_43 : Nat) (a0_20_c : ClassId) (a0_20_f : Nat → Int32) (a0_29_c : ClassId) (a0_29_f : Nat → Int32) (a0_30_c : ClassId) (a0_30_f : Nat → Int32) (a0_31_c : ClassId) (a0_31_f : Nat → Int32) (a0_38_c : ClassId) (a0_38_f : Nat → Int32) (h_a0_5 : 0 ≤ a0_5.toInt ∧ a0_5.toInt ≤ 1000) (h_a0_6 : 0 ≤ a0_6.toInt ∧ a0_6.toInt ≤ 1000) (h_a0_7 : 0 ≤ a0_7.toInt ∧ a0_7.toInt ≤ 1000) (h_a0_8 : 0 ≤ a0_8.toInt ∧ a0_8.toInt ≤ 1000) (h_a0_17 : 0 ≤ a0_17.toInt ∧ a0_17.toInt ≤ 1) (h_a0_37 : (-1) ≤ a0_37.toInt ∧ a0_37.toInt ≤ 23) (h_a0_40 : 0 ≤ a0_40.toInt ∧ a0_40.toInt ≤ 12) (h_a0_20_f : vr 0 24 a0_20_f) (hms : RowOk (a0_20_f 0).toInt a0_38_f 0) : Met l yX9_piece (.code yX9_piece cX9_piece 3 (some .int) :: TBL) ({ frames := 2, cells := 0, slots := 0, locals := 46 }) (va_Pc [.ref a0, .int a1, .int a2] (fun U => U.heap.size = sz ∧ va_P (dC, dI) vwCl [(a0, .inr (8, [.int a0_0, .int a0_1, .int a0_2, .int a0_3, .ref a0_4, .int a0_5, .int a0_6, .int a0_7, .int a0_8, .int a0_9, .int a0_10, .long a0_11, .int a0_12, .int a0_13, .int a0_14, .int a0_15, .int a0_16, .int a0_17, .ref a0_18, .ref a0_19, .ref a0_20, .ref a0_21, .ref a0_22, .ref a0_23, .ref a0_24, .ref a0_25, .ref a0_26, .ref a0_27, .ref a0_28, .ref a0_29, .ref a0_30, .ref a0_31, .ref a0_32, .ref a0_33, .ref a0_34, .ref a0_35, .long a0_36, .int a0_37, .ref a0_38, .ref a0_39, .int a0_40, .ref a0_41, .ref a0_42, .ref a0_43])), (a0_20, .inl (a0_20_c, 2, .inl a0_20_f)), (a0_29, .inl (a0_29_c, 48, .inl a0_29_f)), (a0_30, .inl (a0_30_c, 48, .inl a0_30_f)), (a0_31, .inl (a0_31_c, 48, .inl a0_31_f)), (a0_38, .inl (a0_38_c, 176, .inl a0_38_f))] U.heap ∧ va_K (dC, dI) vwCl [(a0_20_c, .int), (a0_29_c, .int), (a0_30_c, .int), (a0_31_c, .int), (a0_38_c, .int)] U ∧ va_D (fun _ => True) [(a0, .inr (8, [.int a0_0, .int a0_1, .int a0_2, .int a0_3, .ref a0_4, .int a0_5, .int a0_6, .int a0_7, .int a0_8, .int a0_9, .int a0_10, .long a0_11, .int a0_12, .int a0_13, .int a0_14, .int a0_15, .int a0_16, .int a0_17, .ref a0_18, .ref a0_19, .ref a0_20, .ref a0_21, .ref a0_22, .ref a0_23, .ref a0_24, .ref a0_25, .ref a0_26, .ref a0_27, .ref a0_28, .ref a0_29, .ref a0_30, .ref a0_31, .ref a0_32, .ref a0_33, .ref a0_34, .ref a0_35, .long a0_36, .int a0_37, .ref a0_38, .ref a0_39, .int a0_40, .ref a0_41, .ref a0_42, .ref a0_43])), (a0_20, .inl (a0_20_c, 2, .inl a0_20_f)), (a0_29, .inl (a0_29_c, 48, .inl a0_29_f)), (a0_30, .inl (a0_30_c, 48, .inl a0_30_f)), (a0_31, .inl (a0_31_c, 48, .inl a0_31_f)), (a0_38, .inl (a0_38_c, 176, .inl a0_38_f))] ∧ Ev g (va_A [(a0, .inr (8, [.int a0_0, .int a0_1, .int a0_2, .int a0_3, .ref a0_4, .int a0_5, .int a0_6, .int a0_7, .int a0_8, .int a0_9, .int a0_10, .long a0_11, .int a0_12, .int a0_13, .int a0_14, .int a0_15, .int a0_16, .int a0_17, .ref a0_18, .ref a0_19, .ref a0_20, .ref a0_21, .ref a0_22, .ref a0_23, .ref a0_24, .ref a0_25, .ref a0_26, .ref a0_27, .ref a0_28, .ref a0_29, .ref a0_30, .ref a0_31, .ref a0_32, .ref a0_33, .ref a0_34, .ref a0_35, .long a0_36, .int a0_37, .ref a0_38, .ref a0_39, .int a0_40, .ref a0_41, .ref a0_42, .ref a0_43])), (a0_20, .inl (a0_20_c, 2, .inl a0_20_f)), (a0_29, .inl (a0_29_c, 48, .inl a0_29_f)), (a0_30, .inl (a0_30_c, 48, .inl a0_30_f)), (a0_31, .inl (a0_31_c, 48, .inl a0_31_f)), (a0_38, .inl (a0_38_c, 176, .inl a0_38_f))] sz) U)) (va_Qi (fun (r : Int32) (u : Int32) => u = r) (fun (u : Int32) (t : State) => ∃ (za0_0 : Int32), va_P (dC, dI) vwCl [(a0, .inr (8, [.int za0_0, .int a0_1, .int a0_2, .int a0_3, .ref a0_4, .int a0_5, .int a0_6, .int a0_7, .int a0_8, .int a0_9, .int a0_10, .long a0_11, .int a0_12, .int a0_13, .int a0_14, .int a0_15, .int a0_16, .int a0_17, .ref a0_18, .ref a0_19, .ref a0_20, .ref a0_21, .ref a0_22, .ref a0_23, .ref a0_24, .ref a0_25, .ref a0_26, .ref a0_27, .ref a0_28, .ref a0_29, .ref a0_30, .ref a0_31, .ref a0_32, .ref a0_33, .ref a0_34, .ref a0_35, .long a0_36, .int a0_37, .ref a0_38, .ref a0_39, .int a0_40, .ref a0_41, .ref a0_42, .ref a0_43])), (a0_20, .inl (a0_20_c, 2, .inl a0_20_f)), (a0_29, .inl (a0_29_c, 48, .inl a0_29_f)), (a0_30, .inl (a0_30_c, 48, .inl a0_30_f)), (a0_31, .inl (a0_31_c, 48, .inl a0_31_f)), (a0_38, .inl (a0_38_c, 176, .inl a0_38_f))] t.heap ∧ va_K (dC, dI) vwCl [] t ∧ va_D (va_A [(a0, .inr (8, [.int a0_0, .int a0_1, .int a0_2, .int a0_3, .ref a0_4, .int a0_5, .int a0_6, .int a0_7, .int a0_8, .int a0_9, .int a0_10, .long a0_11, .int a0_12, .int a0_13, .int a0_14, .int a0_15, .int a0_16, .int a0_17, .ref a0_18, .ref a0_19, .ref a0_20, .ref a0_21, .ref a0_22, .ref a0_23, .ref a0_24, .ref a0_25, .ref a0_26, .ref a0_27, .ref a0_28, .ref a0_29, .ref a0_30, .ref a0_31, .ref a0_32, .ref a0_33, .ref a0_34, .ref a0_35, .long a0_36, .int a0_37, .ref a0_38, .ref a0_39, .int a0_40, .ref a0_41, .ref a0_42, .ref a0_43])), (a0_20, .inl (a0_20_c, 2, .inl a0_20_f)), (a0_29, .inl (a0_29_c, 48, .inl a0_29_f)), (a0_30, .inl (a0_30_c, 48, .inl a0_30_f)), (a0_31, .inl (a0_31_c, 48, .inl a0_31_f)), (a0_38, .inl (a0_38_c, 176, .inl a0_38_f))] sz) [(a0, .inr (8, [.int za0_0, .int a0_1, .int a0_2, .int a0_3, .ref a0_4, .int a0_5, .int a0_6, .int a0_7, .int a0_8, .int a0_9, .int a0_10, .long a0_11, .int a0_12, .int a0_13, .int a0_14, .int a0_15, .int a0_16, .int a0_17, .ref a0_18, .ref a0_19, .ref a0_20, .ref a0_21, .ref a0_22, .ref a0_23, .ref a0_24, .ref a0_25, .ref a0_26, .ref a0_27, .ref a0_28, .ref a0_29, .ref a0_30, .ref a0_31, .ref a0_32, .ref a0_33, .ref a0_34, .ref a0_35, .long a0_36, .int a0_37, .ref a0_38, .ref a0_39, .int a0_40, .ref a0_41, .ref a0_42, .ref a0_43])), (a0_20, .inl (a0_20_c, 2, .inl a0_20_f)), (a0_29, .inl (a0_29_c, 48, .inl a0_29_f)), (a0_30, .inl (a0_30_c, 48, .inl a0_30_f)), (a0_31, .inl (a0_31_c, 48, .inl a0_31_f)), (a0_38, .inl (a0_38_c, 176, .inl a0_38_f))]) (va_A [(a0, .inr (8, [.int a0_0, .int a0_1, .int a0_2, .int a0_3, .ref a0_4, .int a0_5, .int a0_6, .int a0_7, .int a0_8, .int a0_9, .int a0_10, .long a0_11, .int a0_12, .int a0_13, .int a0_14, .int a0_15, .int a0_16, .int a0_17, .ref a0_18, .ref a0_19, .ref a0_20, .ref a0_21, .ref a0_22, .ref a0_23, .ref a0_24, .ref a0_25, .ref a0_26, .ref a0_27, .ref a0_28, .ref a0_29, .ref a0_30, .ref a0_31, .ref a0_32, .ref a0_33, .ref a0_34, .ref a0_35, .long a0_36, .int a0_37, .ref a0_38, .ref a0_39, .int a0_40, .ref a0_41, .ref a0_42, .ref a0_43])), (a0_20, .inl (a0_20_c, 2, .inl a0_20_f)), (a0_29, .inl (a0_29_c, 48, .inl a0_29_f)), (a0_30, .inl (a0_30_c, 48, .inl a0_30_f)), (a0_31, .inl (a0_31_c, 48, .inl a0_31_f)), (a0_38, .inl (a0_38_c, 176, .inl a0_38_f))] sz)) 0 0 (va_A [(a0, .inr (8, [.int a0_0, .int a0_1, .int a0_2, .int a0_3, .ref a0_4, .int a0_5, .int a0_6, .int a0_7, .int a0_8, .int a0_9, .int a0_10, .long a0_11, .int a0_12, .int a0_13, .int a0_14, .int a0_15, .int a0_16, .int a0_17, .ref a0_18, .ref a0_19, .ref a0_20, .ref a0_21, .ref a0_22, .ref a0_23, .ref a0_24, .ref a0_25, .ref a0_26, .ref a0_27, .ref a0_28, .ref a0_29, .ref a0_30, .ref a0_31, .ref a0_32, .ref a0_33, .ref a0_34, .ref a0_35, .long a0_36, .int a0_37, .ref a0_38, .ref a0_39, .int a0_40, .ref a0_41, .ref a0_42, .ref a0_43])), (a0_20, .inl (a0_20_c, 2, .inl a0_20_f)), (a0_29, .inl (a0_29_c, 48, .inl a0_29_f)), (a0_30, .inl (a0_30_c, 48, .inl a0_30_f)), (a0_31, .inl (a0_31_c, 48, .inl a0_31_f)), (a0_38, .inl (a0_38_c, 176, .inl a0_38_f))] sz) := by
  refine Met.ofW (cc := cX9_piece) (maxL := 3) (ret := (some .int)) (by decide) rfl ?_
  intro p e s m args below meth c s₁ B hml hv
  obtain ⟨rfl, hsz, hP, hK, hD0, hE⟩ := hv
  have hx := B.exec
  have hb := B.bytes
  have hr := B.returns
  have hts0 := atoms_spec (ws := (.code yX9_piece cX9_piece 3 (some .int) :: TBL)) B.pre
  have hts := fun (w : Cond) (h : w ∈ TBL) => hts0 w (List.mem_cons_of_mem _ h)
  have hown : s.vm.findClass RX9 = some m.cls := findClass_of_methodNamed B.named
  have hlocks := B.notSynchronized
  have hN := hE.1
  subst hsz
  have hD := hD0.self (sz := s.heap.size)
  generalize hAe : va_A [(a0, .inr (8, [.int a0_0, .int a0_1, .int a0_2, .int a0_3, .ref a0_4, .int a0_5, .int a0_6, .int a0_7, .int a0_8, .int a0_9, .int a0_10, .long a0_11, .int a0_12, .int a0_13, .int a0_14, .int a0_15, .int a0_16, .int a0_17, .ref a0_18, .ref a0_19, .ref a0_20, .ref a0_21, .ref a0_22, .ref a0_23, .ref a0_24, .ref a0_25, .ref a0_26, .ref a0_27, .ref a0_28, .ref a0_29, .ref a0_30, .ref a0_31, .ref a0_32, .ref a0_33, .ref a0_34, .ref a0_35, .long a0_36, .int a0_37, .ref a0_38, .ref a0_39, .int a0_40, .ref a0_41, .ref a0_42, .ref a0_43])), (a0_20, .inl (a0_20_c, 2, .inl a0_20_f)), (a0_29, .inl (a0_29_c, 48, .inl a0_29_f)), (a0_30, .inl (a0_30_c, 48, .inl a0_30_f)), (a0_31, .inl (a0_31_c, 48, .inl a0_31_f)), (a0_38, .inl (a0_38_c, 176, .inl a0_38_f))] s.heap.size = A at hD hE ⊢
  have hA : ∀ q : Nat, s.heap.size ≤ q → A q := fun q h => by rw [← hAe]; exact Or.inr h
  have hS : va_S A s.heap s.heap [] := va_S.rf
  replace hP : va_P (dC, dI) vwCl [(a0, .inr (8, [.int a0_0, .int a0_1, .int a0_2, .int a0_3, .ref a0_4, .int a0_5, .int a0_6, .int a0_7, .int a0_8, .int a0_9, .int a0_10, .long a0_11, .int a0_12, .int a0_13, .int a0_14, .int a0_15, .int a0_16, .int a0_17, .ref a0_18, .ref a0_19, .ref a0_20, .ref a0_21, .ref a0_22, .ref a0_23, .ref a0_24, .ref a0_25, .ref a0_26, .ref a0_27, .ref a0_28, .ref a0_29, .ref a0_30, .ref a0_31, .ref a0_32, .ref a0_33, .ref a0_34, .ref a0_35, .long a0_36, .int a0_37, .ref a0_38, .ref a0_39, .int a0_40, .ref a0_41, .ref a0_42, .ref a0_43])), (a0_20, .inl (a0_20_c, 2, .inl a0_20_f)), (a0_29, .inl (a0_29_c, 48, .inl a0_29_f)), (a0_30, .inl (a0_30_c, 48, .inl a0_30_f)), (a0_31, .inl (a0_31_c, 48, .inl a0_31_f)), (a0_38, .inl (a0_38_c, 176, .inl a0_38_f))] s.heap := hP
  have hl := lv_entry ([.ref a0, .int a1, .int a2]) (n := 3) (Nat.le_of_ble_eq_true rfl)
  rw [lg_entry_eq]
  generalize (lg_sl ([.ref a0, .int a1, .int a2]) ++ List.replicate (3 - (lg_sl ([.ref a0, .int a1, .int a2])).length) Slot.unset).toArray = ls at hl ⊢
  have hl : lv_has ls 3 [(0, .ref a0), (1, .int a1), (2, .int a2)] := hl
  have b_a1 := i32b a1
  have b_a2 := i32b a2
  have b_a0_0 := i32b a0_0
  have b_a0_1 := i32b a0_1
  have b_a0_2 := i32b a0_2
  have b_a0_3 := i32b a0_3
  have b_a0_9 := i32b a0_9
  have b_a0_10 := i32b a0_10
  have b_a0_12 := i32b a0_12
  have b_a0_13 := i32b a0_13
  have b_a0_14 := i32b a0_14
  have b_a0_15 := i32b a0_15
  have b_a0_16 := i32b a0_16
  have hp20 := vr_at h_a0_20_f (k := 0) rfl
  refine lv_aload_n hx hb dX9_piece_0 rfl (lv_at hl 0 rfl) ?_
  refine lv_iconst (v := 0) hx hb dX9_piece_1 (by decide) ?_
  refine va_put (D := (dC, dI)) (ci := 8) (v := .int 0) (ty := .int) (C := RX9) (T := TX9) (N := 44) hx hb hts inlX9 tyX9 tyX9_ok nmX9 hown hK hP hD hS 0 rgL6_3f800dd rfl 0 (by decide) (hts (.fieldLink RX9 85 "ClosedUntilModel" "thrown" "I") qw_408) (fun _ h9 => h9) rfl (by decide +kernel) rfl rfl (Nat.le_of_ble_eq_true rfl) dX9_piece_2 (fun H locs hP9 hD9 hS9 => ?_)
  clear hP hD hS
  obtain ⟨hP, hD⟩ := rgS6_fcbeb75 (e := (a0, .inr (8, [.int 0, .int a0_1, .int a0_2, .int a0_3, .ref a0_4, .int a0_5, .int a0_6, .int a0_7, .int a0_8, .int a0_9, .int a0_10, .long a0_11, .int a0_12, .int a0_13, .int a0_14, .int a0_15, .int a0_16, .int a0_17, .ref a0_18, .ref a0_19, .ref a0_20, .ref a0_21, .ref a0_22, .ref a0_23, .ref a0_24, .ref a0_25, .ref a0_26, .ref a0_27, .ref a0_28, .ref a0_29, .ref a0_30, .ref a0_31, .ref a0_32, .ref a0_33, .ref a0_34, .ref a0_35, .long a0_36, .int a0_37, .ref a0_38, .ref a0_39, .int a0_40, .ref a0_41, .ref a0_42, .ref a0_43]))) hP9 hD9 rfl
  have hS := hS9; clear hP9 hD9 hS9
  refine lv_aload_n hx hb dX9_piece_5 rfl (lv_at hl 0 rfl) ?_
  refine lv_iload_n hx hb dX9_piece_6 rfl (lv_at hl 1 rfl) ?_
  have qc0 : (0 : Int32).toInt = 0 := by decide
  have hPc := (rgP6_7bcecd8 hP)
  have hKc := (rgK5_92301ca hK)
  refine vp_callSi ((va_runV (As := [.int a1]) (rest := []) ⟨hx, hb, hml, hown, hts⟩ (k_X9_isPiece l dC dI g (a0) (a1) (0) (a0_1) (a0_2) (a0_3) (a0_4) (a0_5) (a0_6) (a0_7) (a0_8) (a0_9) (a0_10) (a0_11) (a0_12) (a0_13) (a0_14) (a0_15) (a0_16) (a0_17) (a0_18) (a0_19) (a0_20) (a0_21) (a0_22) (a0_23) (a0_24) (a0_25) (a0_26) (a0_27) (a0_28) (a0_29) (a0_30) (a0_31) (a0_32) (a0_33) (a0_34) (a0_35) (a0_36) (a0_37) (a0_38) (a0_39) (a0_40) (a0_41) (a0_42) (a0_43) (a0_20_c) (a0_20_f) (by omega) (by omega) (by omega) (by omega) (by omega) (by omega) (by omega) h_a0_20_f) (cwV 1 hts (gwV qw_602 qw_603 qw_604 qw_386 qw_601) rfl rfl rfl (by decide +kernel) ⟨Nat.le_of_ble_eq_true rfl, Nat.le_of_ble_eq_true rfl⟩) ⟨fun a U g9 mk q => ⟨q.1, q.2.1, va_K.moved (u := U) (U := U.calling g9 mk a) (Vm.Alike.refl U.vm) q.2.2.1, Ev.bl q.2.2.2⟩, va_recv hK hP (ci := 8) (q0 := 0) rfl rgL6_3f800dd, fun U hU hW => ⟨rfl, atB hU hPc, va_K.moved hW.alike hKc, hE.go hS (fun _ h => h.elim) hU hW⟩⟩ rfl rfl hl.1 rfl (lv_room (Nat.le_of_ble_eq_true rfl)) dX9_piece_7 ⟨Nat.le_of_ble_eq_true rfl, Nat.le_of_ble_eq_true rfl⟩)).run (fun r1 h_r1 => ?_)
  have h_r1 : (r1 = 0 ∨ r1 = 1) ∧ ((r1.toInt = 1 ∧ 0 ≤ a1.toInt ∧ a1.toInt < (a0_20_f 0).toInt) ∨ r1.toInt = 0) := h_r1
  have b_r1 := z01 (show r1 = 0 ∨ r1 = 1 from h_r1.1)
  refine lv_if_ne (tgt := 16) hx hb dX9_piece_10 (by decide) (fun c10_2 => ?_) (fun c10_2 => ?_)
  · have c10_2 : ¬ (r1.toInt = 0) := mt (cv_eq rfl (by decide)).mpr c10_2
    refine lv_iload_n hx hb dX9_piece_16 rfl (lv_at hl 2 rfl) ?_
    rcases (show a2.toInt = 0 ∨ a2.toInt = 1 ∨ a2.toInt = 2 ∨ a2.toInt = 3 ∨ a2.toInt = 4 ∨ a2.toInt = 5 ∨ (a2.toInt < 0 ∨ 5 < a2.toInt) by omega) with hq3 | hq3 | hq3 | hq3 | hq3 | hq3 | hq3
    · refine lv_tableIn (off := 39) (tgt := 56) hx hb dX9_piece_17 (by omega) (by omega) (by rw [hq3]; rfl) (by decide) ?_
      refine lv_aload_n hx hb dX9_piece_56 rfl (lv_at hl 0 rfl) ?_
      refine va_get (D := (dC, dI)) (ci := 8) (v := .ref a0_38) (C := RX9) (T := TX9) (N := 44) hx hb hts inlX9 hown hK hP 0 rgL6_3f800dd rfl 38 (by decide) (hts (.fieldLink RX9 70 "ClosedUntilModel" "s" "[I") qw_502) (fun _ h9 => h9) rfl dX9_piece_57 ?_
      refine lv_iload_n hx hb dX9_piece_60 rfl (lv_at hl 1 rfl) ?_
      refine va_iald hx hb hK hP 5 4 rgL6_bd8047c rgT5_860c1f5 (vinI (by omega) (by omega)) dX9_piece_61 ?_
      refine lv_topi (fun x4 e_x4 => ?_)
      have q_x4 := congrArg Int32.toInt e_x4
      have b_x4 := i32b x4
      have qc0 : (0 : Int32).toInt = 0 := by decide
      refine W.widen (k := 0) (n := 0) (Nat.le_of_ble_eq_true rfl) (Nat.le_of_ble_eq_true rfl) ?_
      have hP9 := hP
      have hD9 := hD
      have hK9 := (rgK5_6e78cbf hK)
      exact W.iret (v := x4) hx hb hr (fun t ht hW => ⟨⟨x4, x4, rfl, rfl, 0, atB ht hP9, va_K.moved hW.alike hK9, hD9⟩, hS.F ht⟩) hS.2.2 dX9_piece_62
    · refine lv_tableIn (off := 46) (tgt := 63) hx hb dX9_piece_17 (by omega) (by omega) (by rw [hq3]; rfl) (by decide) ?_
      refine lv_aload_n hx hb dX9_piece_63 rfl (lv_at hl 0 rfl) ?_
      refine va_get (D := (dC, dI)) (ci := 8) (v := .ref a0_29) (C := RX9) (T := TX9) (N := 44) hx hb hts inlX9 hown hK hP 0 rgL6_3f800dd rfl 29 (by decide) (hts (.fieldLink RX9 48 "ClosedUntilModel" "lastDay" "[I") qw_515) (fun _ h9 => h9) rfl dX9_piece_64 ?_
      refine lv_iload_n hx hb dX9_piece_67 rfl (lv_at hl 1 rfl) ?_
      refine va_iald hx hb hK hP 2 1 rgL6_5db1281 rgT5_06bc212 (vinI (by omega) (by omega)) dX9_piece_68 ?_
      refine lv_topi (fun x5 e_x5 => ?_)
      have q_x5 := congrArg Int32.toInt e_x5
      have b_x5 := i32b x5
      have qc0 : (0 : Int32).toInt = 0 := by decide
      refine W.widen (k := 0) (n := 0) (Nat.le_of_ble_eq_true rfl) (Nat.le_of_ble_eq_true rfl) ?_
      have hP9 := hP
      have hD9 := hD
      have hK9 := (rgK5_6e78cbf hK)
      exact W.iret (v := x5) hx hb hr (fun t ht hW => ⟨⟨x5, x5, rfl, rfl, 0, atB ht hP9, va_K.moved hW.alike hK9, hD9⟩, hS.F ht⟩) hS.2.2 dX9_piece_69
    · refine lv_tableIn (off := 53) (tgt := 70) hx hb dX9_piece_17 (by omega) (by omega) (by rw [hq3]; rfl) (by decide) ?_
      refine lv_aload_n hx hb dX9_piece_70 rfl (lv_at hl 0 rfl) ?_
      refine va_get (D := (dC, dI)) (ci := 8) (v := .ref a0_30) (C := RX9) (T := TX9) (N := 44) hx hb hts inlX9 hown hK hP 0 rgL6_3f800dd rfl 30 (by decide) (hts (.fieldLink RX9 51 "ClosedUntilModel" "ofPeople" "[I") qw_500) (fun _ h9 => h9) rfl dX9_piece_71 ?_
      refine lv_iload_n hx hb dX9_piece_74 rfl (lv_at hl 1 rfl) ?_
      refine va_iald hx hb hK hP 3 2 rgL6_a3d2007 rgT5_57d5a88 (vinI (by omega) (by omega)) dX9_piece_75 ?_
      refine lv_topi (fun x6 e_x6 => ?_)
      have q_x6 := congrArg Int32.toInt e_x6
      have b_x6 := i32b x6
      have qc0 : (0 : Int32).toInt = 0 := by decide
      refine W.widen (k := 0) (n := 0) (Nat.le_of_ble_eq_true rfl) (Nat.le_of_ble_eq_true rfl) ?_
      have hP9 := hP
      have hD9 := hD
      have hK9 := (rgK5_6e78cbf hK)
      exact W.iret (v := x6) hx hb hr (fun t ht hW => ⟨⟨x6, x6, rfl, rfl, 0, atB ht hP9, va_K.moved hW.alike hK9, hD9⟩, hS.F ht⟩) hS.2.2 dX9_piece_76
    · refine lv_tableIn (off := 60) (tgt := 77) hx hb dX9_piece_17 (by omega) (by omega) (by rw [hq3]; rfl) (by decide) ?_
      refine lv_aload_n hx hb dX9_piece_77 rfl (lv_at hl 0 rfl) ?_
      refine va_get (D := (dC, dI)) (ci := 8) (v := .ref a0_31) (C := RX9) (T := TX9) (N := 44) hx hb hts inlX9 hown hK hP 0 rgL6_3f800dd rfl 31 (by decide) (hts (.fieldLink RX9 54 "ClosedUntilModel" "ofDeposit" "[I") qw_509) (fun _ h9 => h9) rfl dX9_piece_78 ?_
      refine lv_iload_n hx hb dX9_piece_81 rfl (lv_at hl 1 rfl) ?_
      refine va_iald hx hb hK hP 4 3 rgL6_fb60be2 rgT5_5f7a9a6 (vinI (by omega) (by omega)) dX9_piece_82 ?_
      refine lv_topi (fun x7 e_x7 => ?_)
      have q_x7 := congrArg Int32.toInt e_x7
      have b_x7 := i32b x7
      have qc0 : (0 : Int32).toInt = 0 := by decide
      refine W.widen (k := 0) (n := 0) (Nat.le_of_ble_eq_true rfl) (Nat.le_of_ble_eq_true rfl) ?_
      have hP9 := hP
      have hD9 := hD
      have hK9 := (rgK5_6e78cbf hK)
      exact W.iret (v := x7) hx hb hr (fun t ht hW => ⟨⟨x7, x7, rfl, rfl, 0, atB ht hP9, va_K.moved hW.alike hK9, hD9⟩, hS.F ht⟩) hS.2.2 dX9_piece_83
    · refine lv_tableIn (off := 67) (tgt := 84) hx hb dX9_piece_17 (by omega) (by omega) (by rw [hq3]; rfl) (by decide) ?_
      refine lv_aload_n hx hb dX9_piece_84 rfl (lv_at hl 0 rfl) ?_
      refine lv_iload_n hx hb dX9_piece_85 rfl (lv_at hl 1 rfl) ?_
      have qc0 : (0 : Int32).toInt = 0 := by decide
      have hPc := (rgP6_fc0c881 hP)
      have hKc := (rgK5_146deb6 hK)
      refine vp_callSi ((va_runV (As := [.int a1]) (rest := []) ⟨hx, hb, hml, hown, hts⟩ (k_X9_under l dC dI g (a0) (a1) (0) (a0_1) (a0_2) (a0_3) (a0_4) (a0_5) (a0_6) (a0_7) (a0_8) (a0_9) (a0_10) (a0_11) (a0_12) (a0_13) (a0_14) (a0_15) (a0_16) (a0_17) (a0_18) (a0_19) (a0_20) (a0_21) (a0_22) (a0_23) (a0_24) (a0_25) (a0_26) (a0_27) (a0_28) (a0_29) (a0_30) (a0_31) (a0_32) (a0_33) (a0_34) (a0_35) (a0_36) (a0_37) (a0_38) (a0_39) (a0_40) (a0_41) (a0_42) (a0_43) (a0_20_c) (a0_20_f) (a0_38_c) (a0_38_f) (by omega) (by omega) (by omega) (by omega) (by omega) (by omega) (by omega) h_a0_20_f (by assumption) (by omega)) (cwV 1 hts (gwV qw_606 qw_607 qw_608 qw_386 qw_605) rfl rfl rfl (by decide +kernel) ⟨Nat.le_of_ble_eq_true rfl, Nat.le_of_ble_eq_true rfl⟩) ⟨fun a U g9 mk q => ⟨q.1, q.2.1, va_K.moved (u := U) (U := U.calling g9 mk a) (Vm.Alike.refl U.vm) q.2.2.1, Ev.bl q.2.2.2⟩, va_recv hK hP (ci := 8) (q0 := 0) rfl rgL6_3f800dd, fun U hU hW => ⟨rfl, atB hU hPc, va_K.moved hW.alike hKc, hE.go hS (fun _ h => h.elim) hU hW⟩⟩ rfl rfl hl.1 rfl (lv_room (Nat.le_of_ble_eq_true rfl)) dX9_piece_86 ⟨Nat.le_of_ble_eq_true rfl, Nat.le_of_ble_eq_true rfl⟩)).run (fun r8 h_r8 => ?_)
      have b_r8 := i32b r8
      have qc0 : (0 : Int32).toInt = 0 := by decide
      refine W.widen (k := 0) (n := 0) (Nat.le_of_ble_eq_true rfl) (Nat.le_of_ble_eq_true rfl) ?_
      have hP9 := hP
      have hD9 := hD
      have hK9 := (rgK5_6e78cbf hK)
      exact W.iret (v := r8) hx hb hr (fun t ht hW => ⟨⟨r8, r8, rfl, rfl, 0, atB ht hP9, va_K.moved hW.alike hK9, hD9⟩, hS.F ht⟩) hS.2.2 dX9_piece_89
    · refine lv_tableIn (off := 73) (tgt := 90) hx hb dX9_piece_17 (by omega) (by omega) (by rw [hq3]; rfl) (by decide) ?_
      refine lv_aload_n hx hb dX9_piece_90 rfl (lv_at hl 0 rfl) ?_
      refine lv_iload_n hx hb dX9_piece_91 rfl (lv_at hl 1 rfl) ?_
      have qc0 : (0 : Int32).toInt = 0 := by decide
      have hPc := (rgP6_038e098 hP)
      have hKc := (rgK5_ad253ab hK)
      refine vp_callSi ((va_runV (As := [.int a1]) (rest := []) ⟨hx, hb, hml, hown, hts⟩ (k_X9_deep l dC dI g (a0) (a1) (0) (a0_1) (a0_2) (a0_3) (a0_4) (a0_5) (a0_6) (a0_7) (a0_8) (a0_9) (a0_10) (a0_11) (a0_12) (a0_13) (a0_14) (a0_15) (a0_16) (a0_17) (a0_18) (a0_19) (a0_20) (a0_21) (a0_22) (a0_23) (a0_24) (a0_25) (a0_26) (a0_27) (a0_28) (a0_29) (a0_30) (a0_31) (a0_32) (a0_33) (a0_34) (a0_35) (a0_36) (a0_37) (a0_38) (a0_39) (a0_40) (a0_41) (a0_42) (a0_43) (a0_38_c) (a0_38_f) ((a0_20_f 0).toInt) (by omega) (by omega) (by omega) (by omega) (by omega) (by omega) (by omega) (by omega) (by assumption) (by omega)) (cwV 1 hts (gwV qw_549 qw_550 qw_551 qw_386 qw_548) rfl rfl rfl (by decide +kernel) ⟨Nat.le_of_ble_eq_true rfl, Nat.le_of_ble_eq_true rfl⟩) ⟨fun a U g9 mk q => ⟨q.1, q.2.1, va_K.moved (u := U) (U := U.calling g9 mk a) (Vm.Alike.refl U.vm) q.2.2.1, Ev.bl q.2.2.2⟩, va_recv hK hP (ci := 8) (q0 := 0) rfl rgL6_3f800dd, fun U hU hW => ⟨rfl, atB hU hPc, va_K.moved hW.alike hKc, hE.go hS (fun _ h => h.elim) hU hW⟩⟩ rfl rfl hl.1 rfl (lv_room (Nat.le_of_ble_eq_true rfl)) dX9_piece_92 ⟨Nat.le_of_ble_eq_true rfl, Nat.le_of_ble_eq_true rfl⟩)).run (fun r9 h_r9 => ?_)
      have b_r9 := i32b r9
      have qc0 : (0 : Int32).toInt = 0 := by decide
      refine W.widen (k := 0) (n := 0) (Nat.le_of_ble_eq_true rfl) (Nat.le_of_ble_eq_true rfl) ?_
      have hP9 := hP
      have hD9 := hD
      have hK9 := (rgK5_6e78cbf hK)
      exact W.iret (v := r9) hx hb hr (fun t ht hW => ⟨⟨r9, r9, rfl, rfl, 0, atB ht hP9, va_K.moved hW.alike hK9, hD9⟩, hS.F ht⟩) hS.2.2 dX9_piece_95
    · refine lv_tableOut (tgt := 96) hx hb dX9_piece_17 hq3 (by decide) ?_
      refine lv_bipush (v := (-2)) hx hb dX9_piece_96 (by decide) ?_
      have qcm2 : ((-2) : Int32).toInt = (-2) := by decide
      have qc0 : (0 : Int32).toInt = 0 := by decide
      refine W.widen (k := 0) (n := 0) (Nat.le_of_ble_eq_true rfl) (Nat.le_of_ble_eq_true rfl) ?_
      have hP9 := hP
      have hD9 := hD
      have hK9 := (rgK5_6e78cbf hK)
      exact W.iret (v := (-2)) hx hb hr (fun t ht hW => ⟨⟨(-2), (-2), rfl, rfl, 0, atB ht hP9, va_K.moved hW.alike hK9, hD9⟩, hS.F ht⟩) hS.2.2 dX9_piece_98
  · have c10_2 : r1.toInt = 0 := (cv_eq rfl (by decide)).mp c10_2
    refine lv_bipush (v := (-2)) hx hb dX9_piece_13 (by decide) ?_
    have qcm2 : ((-2) : Int32).toInt = (-2) := by decide
    have qc0 : (0 : Int32).toInt = 0 := by decide
    refine W.widen (k := 0) (n := 0) (Nat.le_of_ble_eq_true rfl) (Nat.le_of_ble_eq_true rfl) ?_
    have hP9 := hP
    have hD9 := hD
    have hK9 := (rgK5_6e78cbf hK)
    exact W.iret (v := (-2)) hx hb hr (fun t ht hW => ⟨⟨(-2), (-2), rfl, rfl, 0, atB ht hP9, va_K.moved hW.alike hK9, hD9⟩, hS.F ht⟩) hS.2.2 dX9_piece_15
set_option maxHeartbeats 4000000 in
set_option maxRecDepth 100000 in
theorem k_X9_person (l : Launch) (dC : Nat → ClassId) (dI : Nat → Nat → Nat) (g : Gv) (sz : Nat) (a0 : Nat) (a1 : Int32) (a2 : Int32) (a0_0 : Int32) (a0_1 : Int32) (a0_2 : Int32) (a0_3 : Int32) (a0_4 : Nat) (a0_5 : Int32) (a0_6 : Int32) (a0_7 : Int32) (a0_8 : Int32) (a0_9 : Int32) (a0_10 : Int32) (a0_11 : Int64) (a0_12 : Int32) (a0_13 : Int32) (a0_14 : Int32) (a0_15 : Int32) (a0_16 : Int32) (a0_17 : Int32) (a0_18 : Nat) (a0_19 : Nat) (a0_20 : Nat) (a0_21 : Nat) (a0_22 : Nat) (a0_23 : Nat) (a0_24 : Nat) (a0_25 : Nat) (a0_26 : Nat) (a0_27 : Nat) (a0_28 : Nat) (a0_29 : Nat) (a0_30 : Nat) (a0_31 : Nat) (a0_32 : Nat) (a0_33 : Nat) (a0_34 : Nat) (a0_35 : Nat) (a0_36 : Int64) (a0_37 : Int32) (a0_38 : Nat) (a0_39 : Nat) (a0_40 : Int32) (a0_41 : Nat) (a0_42 : Nat) (a0_43 : Nat) (a0_18_c : ClassId) (a0_18_f : Nat → Int32) (a0_20_c : ClassId) (a0_20_f : Nat → Int32) (a0_23_c : ClassId) (a0_23_f : Nat → Int32) (a0_30_c : ClassId) (a0_30_f : Nat → Int32) (a0_38_c : ClassId) (a0_38_f : Nat → Int32) (h_a0_5 : 0 ≤ a0_5.toInt ∧ a0_5.toInt ≤ 1000) (h_a0_6 : 0 ≤ a0_6.toInt ∧ a0_6.toInt ≤ 1000) (h_a0_7 : 0 ≤ a0_7.toInt ∧ a0_7.toInt ≤ 1000) (h_a0_8 : 0 ≤ a0_8.toInt ∧ a0_8.toInt ≤ 1000) (h_a0_17 : 0 ≤ a0_17.toInt ∧ a0_17.toInt ≤ 1) (h_a0_37 : (-1) ≤ a0_37.toInt ∧ a0_37.toInt ≤ 23) (h_a0_40 : 0 ≤ a0_40.toInt ∧ a0_40.toInt ≤ 12) (h_a0_18_f : vr 0 8 a0_18_f) (h_a0_20_f : vr 0 24 a0_20_f) : Met l yX9_person (.code yX9_person cX9_person 3 (some .int) :: TBL) ({ frames := 2, cells := 0, slots := 0, locals := 46 }) (va_Pc [.ref a0, .int a1, .int a2] (fun U => U.heap.size = sz ∧ va_P (dC, dI) vwCl [(a0, .inr (8, [.int a0_0, .int a0_1, .int a0_2, .int a0_3, .ref a0_4, .int a0_5, .int a0_6, .int a0_7, .int a0_8, .int a0_9, .int a0_10, .long a0_11, .int a0_12, .int a0_13, .int a0_14, .int a0_15, .int a0_16, .int a0_17, .ref a0_18, .ref a0_19, .ref a0_20, .ref a0_21, .ref a0_22, .ref a0_23, .ref a0_24, .ref a0_25, .ref a0_26, .ref a0_27, .ref a0_28, .ref a0_29, .ref a0_30, .ref a0_31, .ref a0_32, .ref a0_33, .ref a0_34, .ref a0_35, .long a0_36, .int a0_37, .ref a0_38, .ref a0_39, .int a0_40, .ref a0_41, .ref a0_42, .ref a0_43])), (a0_18, .inl (a0_18_c, 2, .inl a0_18_f)), (a0_20, .inl (a0_20_c, 2, .inl a0_20_f)), (a0_23, .inl (a0_23_c, 16, .inl a0_23_f)), (a0_30, .inl (a0_30_c, 48, .inl a0_30_f)), (a0_38, .inl (a0_38_c, 176, .inl a0_38_f))] U.heap ∧ va_K (dC, dI) vwCl [(a0_18_c, .int), (a0_20_c, .int), (a0_23_c, .int), (a0_30_c, .int), (a0_38_c, .int)] U ∧ va_D (fun _ => True) [(a0, .inr (8, [.int a0_0, .int a0_1, .int a0_2, .int a0_3, .ref a0_4, .int a0_5, .int a0_6, .int a0_7, .int a0_8, .int a0_9, .int a0_10, .long a0_11, .int a0_12, .int a0_13, .int a0_14, .int a0_15, .int a0_16, .int a0_17, .ref a0_18, .ref a0_19, .ref a0_20, .ref a0_21, .ref a0_22, .ref a0_23, .ref a0_24, .ref a0_25, .ref a0_26, .ref a0_27, .ref a0_28, .ref a0_29, .ref a0_30, .ref a0_31, .ref a0_32, .ref a0_33, .ref a0_34, .ref a0_35, .long a0_36, .int a0_37, .ref a0_38, .ref a0_39, .int a0_40, .ref a0_41, .ref a0_42, .ref a0_43])), (a0_18, .inl (a0_18_c, 2, .inl a0_18_f)), (a0_20, .inl (a0_20_c, 2, .inl a0_20_f)), (a0_23, .inl (a0_23_c, 16, .inl a0_23_f)), (a0_30, .inl (a0_30_c, 48, .inl a0_30_f)), (a0_38, .inl (a0_38_c, 176, .inl a0_38_f))] ∧ Ev g (va_A [(a0, .inr (8, [.int a0_0, .int a0_1, .int a0_2, .int a0_3, .ref a0_4, .int a0_5, .int a0_6, .int a0_7, .int a0_8, .int a0_9, .int a0_10, .long a0_11, .int a0_12, .int a0_13, .int a0_14, .int a0_15, .int a0_16, .int a0_17, .ref a0_18, .ref a0_19, .ref a0_20, .ref a0_21, .ref a0_22, .ref a0_23, .ref a0_24, .ref a0_25, .ref a0_26, .ref a0_27, .ref a0_28, .ref a0_29, .ref a0_30, .ref a0_31, .ref a0_32, .ref a0_33, .ref a0_34, .ref a0_35, .long a0_36, .int a0_37, .ref a0_38, .ref a0_39, .int a0_40, .ref a0_41, .ref a0_42, .ref a0_43])), (a0_18, .inl (a0_18_c, 2, .inl a0_18_f)), (a0_20, .inl (a0_20_c, 2, .inl a0_20_f)), (a0_23, .inl (a0_23_c, 16, .inl a0_23_f)), (a0_30, .inl (a0_30_c, 48, .inl a0_30_f)), (a0_38, .inl (a0_38_c, 176, .inl a0_38_f))] sz) U)) (va_Qi (fun (r : Int32) (u : Int32) => u = r) (fun (u : Int32) (t : State) => ∃ (za0_0 : Int32), va_P (dC, dI) vwCl [(a0, .inr (8, [.int za0_0, .int a0_1, .int a0_2, .int a0_3, .ref a0_4, .int a0_5, .int a0_6, .int a0_7, .int a0_8, .int a0_9, .int a0_10, .long a0_11, .int a0_12, .int a0_13, .int a0_14, .int a0_15, .int a0_16, .int a0_17, .ref a0_18, .ref a0_19, .ref a0_20, .ref a0_21, .ref a0_22, .ref a0_23, .ref a0_24, .ref a0_25, .ref a0_26, .ref a0_27, .ref a0_28, .ref a0_29, .ref a0_30, .ref a0_31, .ref a0_32, .ref a0_33, .ref a0_34, .ref a0_35, .long a0_36, .int a0_37, .ref a0_38, .ref a0_39, .int a0_40, .ref a0_41, .ref a0_42, .ref a0_43])), (a0_18, .inl (a0_18_c, 2, .inl a0_18_f)), (a0_20, .inl (a0_20_c, 2, .inl a0_20_f)), (a0_23, .inl (a0_23_c, 16, .inl a0_23_f)), (a0_30, .inl (a0_30_c, 48, .inl a0_30_f)), (a0_38, .inl (a0_38_c, 176, .inl a0_38_f))] t.heap ∧ va_K (dC, dI) vwCl [] t ∧ va_D (va_A [(a0, .inr (8, [.int a0_0, .int a0_1, .int a0_2, .int a0_3, .ref a0_4, .int a0_5, .int a0_6, .int a0_7, .int a0_8, .int a0_9, .int a0_10, .long a0_11, .int a0_12, .int a0_13, .int a0_14, .int a0_15, .int a0_16, .int a0_17, .ref a0_18, .ref a0_19, .ref a0_20, .ref a0_21, .ref a0_22, .ref a0_23, .ref a0_24, .ref a0_25, .ref a0_26, .ref a0_27, .ref a0_28, .ref a0_29, .ref a0_30, .ref a0_31, .ref a0_32, .ref a0_33, .ref a0_34, .ref a0_35, .long a0_36, .int a0_37, .ref a0_38, .ref a0_39, .int a0_40, .ref a0_41, .ref a0_42, .ref a0_43])), (a0_18, .inl (a0_18_c, 2, .inl a0_18_f)), (a0_20, .inl (a0_20_c, 2, .inl a0_20_f)), (a0_23, .inl (a0_23_c, 16, .inl a0_23_f)), (a0_30, .inl (a0_30_c, 48, .inl a0_30_f)), (a0_38, .inl (a0_38_c, 176, .inl a0_38_f))] sz) [(a0, .inr (8, [.int za0_0, .int a0_1, .int a0_2, .int a0_3, .ref a0_4, .int a0_5, .int a0_6, .int a0_7, .int a0_8, .int a0_9, .int a0_10, .long a0_11, .int a0_12, .int a0_13, .int a0_14, .int a0_15, .int a0_16, .int a0_17, .ref a0_18, .ref a0_19, .ref a0_20, .ref a0_21, .ref a0_22, .ref a0_23, .ref a0_24, .ref a0_25, .ref a0_26, .ref a0_27, .ref a0_28, .ref a0_29, .ref a0_30, .ref a0_31, .ref a0_32, .ref a0_33, .ref a0_34, .ref a0_35, .long a0_36, .int a0_37, .ref a0_38, .ref a0_39, .int a0_40, .ref a0_41, .ref a0_42, .ref a0_43])), (a0_18, .inl (a0_18_c, 2, .inl a0_18_f)), (a0_20, .inl (a0_20_c, 2, .inl a0_20_f)), (a0_23, .inl (a0_23_c, 16, .inl a0_23_f)), (a0_30, .inl (a0_30_c, 48, .inl a0_30_f)), (a0_38, .inl (a0_38_c, 176, .inl a0_38_f))]) (va_A [(a0, .inr (8, [.int a0_0, .int a0_1, .int a0_2, .int a0_3, .ref a0_4, .int a0_5, .int a0_6, .int a0_7, .int a0_8, .int a0_9, .int a0_10, .long a0_11, .int a0_12, .int a0_13, .int a0_14, .int a0_15, .int a0_16, .int a0_17, .ref a0_18, .ref a0_19, .ref a0_20, .ref a0_21, .ref a0_22, .ref a0_23, .ref a0_24, .ref a0_25, .ref a0_26, .ref a0_27, .ref a0_28, .ref a0_29, .ref a0_30, .ref a0_31, .ref a0_32, .ref a0_33, .ref a0_34, .ref a0_35, .long a0_36, .int a0_37, .ref a0_38, .ref a0_39, .int a0_40, .ref a0_41, .ref a0_42, .ref a0_43])), (a0_18, .inl (a0_18_c, 2, .inl a0_18_f)), (a0_20, .inl (a0_20_c, 2, .inl a0_20_f)), (a0_23, .inl (a0_23_c, 16, .inl a0_23_f)), (a0_30, .inl (a0_30_c, 48, .inl a0_30_f)), (a0_38, .inl (a0_38_c, 176, .inl a0_38_f))] sz)) 0 0 (va_A [(a0, .inr (8, [.int a0_0, .int a0_1, .int a0_2, .int a0_3, .ref a0_4, .int a0_5, .int a0_6, .int a0_7, .int a0_8, .int a0_9, .int a0_10, .long a0_11, .int a0_12, .int a0_13, .int a0_14, .int a0_15, .int a0_16, .int a0_17, .ref a0_18, .ref a0_19, .ref a0_20, .ref a0_21, .ref a0_22, .ref a0_23, .ref a0_24, .ref a0_25, .ref a0_26, .ref a0_27, .ref a0_28, .ref a0_29, .ref a0_30, .ref a0_31, .ref a0_32, .ref a0_33, .ref a0_34, .ref a0_35, .long a0_36, .int a0_37, .ref a0_38, .ref a0_39, .int a0_40, .ref a0_41, .ref a0_42, .ref a0_43])), (a0_18, .inl (a0_18_c, 2, .inl a0_18_f)), (a0_20, .inl (a0_20_c, 2, .inl a0_20_f)), (a0_23, .inl (a0_23_c, 16, .inl a0_23_f)), (a0_30, .inl (a0_30_c, 48, .inl a0_30_f)), (a0_38, .inl (a0_38_c, 176, .inl a0_38_f))] sz) := by
  refine Met.ofW (cc := cX9_person) (maxL := 3) (ret := (some .int)) (by decide) rfl ?_
  intro p e s m args below meth c s₁ B hml hv
  obtain ⟨rfl, hsz, hP, hK, hD0, hE⟩ := hv
  have hx := B.exec
  have hb := B.bytes
  have hr := B.returns
  have hts0 := atoms_spec (ws := (.code yX9_person cX9_person 3 (some .int) :: TBL)) B.pre
  have hts := fun (w : Cond) (h : w ∈ TBL) => hts0 w (List.mem_cons_of_mem _ h)
  have hown : s.vm.findClass RX9 = some m.cls := findClass_of_methodNamed B.named
  have hlocks := B.notSynchronized
  have hN := hE.1
  subst hsz
  have hD := hD0.self (sz := s.heap.size)
  generalize hAe : va_A [(a0, .inr (8, [.int a0_0, .int a0_1, .int a0_2, .int a0_3, .ref a0_4, .int a0_5, .int a0_6, .int a0_7, .int a0_8, .int a0_9, .int a0_10, .long a0_11, .int a0_12, .int a0_13, .int a0_14, .int a0_15, .int a0_16, .int a0_17, .ref a0_18, .ref a0_19, .ref a0_20, .ref a0_21, .ref a0_22, .ref a0_23, .ref a0_24, .ref a0_25, .ref a0_26, .ref a0_27, .ref a0_28, .ref a0_29, .ref a0_30, .ref a0_31, .ref a0_32, .ref a0_33, .ref a0_34, .ref a0_35, .long a0_36, .int a0_37, .ref a0_38, .ref a0_39, .int a0_40, .ref a0_41, .ref a0_42, .ref a0_43])), (a0_18, .inl (a0_18_c, 2, .inl a0_18_f)), (a0_20, .inl (a0_20_c, 2, .inl a0_20_f)), (a0_23, .inl (a0_23_c, 16, .inl a0_23_f)), (a0_30, .inl (a0_30_c, 48, .inl a0_30_f)), (a0_38, .inl (a0_38_c, 176, .inl a0_38_f))] s.heap.size = A at hD hE ⊢
  have hA : ∀ q : Nat, s.heap.size ≤ q → A q := fun q h => by rw [← hAe]; exact Or.inr h
  have hS : va_S A s.heap s.heap [] := va_S.rf
  replace hP : va_P (dC, dI) vwCl [(a0, .inr (8, [.int a0_0, .int a0_1, .int a0_2, .int a0_3, .ref a0_4, .int a0_5, .int a0_6, .int a0_7, .int a0_8, .int a0_9, .int a0_10, .long a0_11, .int a0_12, .int a0_13, .int a0_14, .int a0_15, .int a0_16, .int a0_17, .ref a0_18, .ref a0_19, .ref a0_20, .ref a0_21, .ref a0_22, .ref a0_23, .ref a0_24, .ref a0_25, .ref a0_26, .ref a0_27, .ref a0_28, .ref a0_29, .ref a0_30, .ref a0_31, .ref a0_32, .ref a0_33, .ref a0_34, .ref a0_35, .long a0_36, .int a0_37, .ref a0_38, .ref a0_39, .int a0_40, .ref a0_41, .ref a0_42, .ref a0_43])), (a0_18, .inl (a0_18_c, 2, .inl a0_18_f)), (a0_20, .inl (a0_20_c, 2, .inl a0_20_f)), (a0_23, .inl (a0_23_c, 16, .inl a0_23_f)), (a0_30, .inl (a0_30_c, 48, .inl a0_30_f)), (a0_38, .inl (a0_38_c, 176, .inl a0_38_f))] s.heap := hP
  have hl := lv_entry ([.ref a0, .int a1, .int a2]) (n := 3) (Nat.le_of_ble_eq_true rfl)
  rw [lg_entry_eq]
  generalize (lg_sl ([.ref a0, .int a1, .int a2]) ++ List.replicate (3 - (lg_sl ([.ref a0, .int a1, .int a2])).length) Slot.unset).toArray = ls at hl ⊢
  have hl : lv_has ls 3 [(0, .ref a0), (1, .int a1), (2, .int a2)] := hl
  have b_a1 := i32b a1
  have b_a2 := i32b a2
  have b_a0_0 := i32b a0_0
  have b_a0_1 := i32b a0_1
  have b_a0_2 := i32b a0_2
  have b_a0_3 := i32b a0_3
  have b_a0_9 := i32b a0_9
  have b_a0_10 := i32b a0_10
  have b_a0_12 := i32b a0_12
  have b_a0_13 := i32b a0_13
  have b_a0_14 := i32b a0_14
  have b_a0_15 := i32b a0_15
  have b_a0_16 := i32b a0_16
  have hp18 := vr_at h_a0_18_f (k := 0) rfl
  refine lv_aload_n hx hb dX9_person_0 rfl (lv_at hl 0 rfl) ?_
  refine lv_iconst (v := 0) hx hb dX9_person_1 (by decide) ?_
  refine va_put (D := (dC, dI)) (ci := 8) (v := .int 0) (ty := .int) (C := RX9) (T := TX9) (N := 44) hx hb hts inlX9 tyX9 tyX9_ok nmX9 hown hK hP hD hS 0 rgL6_3f800dd rfl 0 (by decide) (hts (.fieldLink RX9 85 "ClosedUntilModel" "thrown" "I") qw_408) (fun _ h9 => h9) rfl (by decide +kernel) rfl rfl (Nat.le_of_ble_eq_true rfl) dX9_person_2 (fun H locs hP9 hD9 hS9 => ?_)
  clear hP hD hS
  obtain ⟨hP, hD⟩ := rgS6_fcbeb75 (e := (a0, .inr (8, [.int 0, .int a0_1, .int a0_2, .int a0_3, .ref a0_4, .int a0_5, .int a0_6, .int a0_7, .int a0_8, .int a0_9, .int a0_10, .long a0_11, .int a0_12, .int a0_13, .int a0_14, .int a0_15, .int a0_16, .int a0_17, .ref a0_18, .ref a0_19, .ref a0_20, .ref a0_21, .ref a0_22, .ref a0_23, .ref a0_24, .ref a0_25, .ref a0_26, .ref a0_27, .ref a0_28, .ref a0_29, .ref a0_30, .ref a0_31, .ref a0_32, .ref a0_33, .ref a0_34, .ref a0_35, .long a0_36, .int a0_37, .ref a0_38, .ref a0_39, .int a0_40, .ref a0_41, .ref a0_42, .ref a0_43]))) hP9 hD9 rfl
  have hS := hS9; clear hP9 hD9 hS9
  refine lv_aload_n hx hb dX9_person_5 rfl (lv_at hl 0 rfl) ?_
  refine lv_iload_n hx hb dX9_person_6 rfl (lv_at hl 1 rfl) ?_
  have qc0 : (0 : Int32).toInt = 0 := by decide
  have hPc := (rgP6_7bcecd8 hP)
  have hKc := (rgK5_92301ca hK)
  refine vp_callSi ((va_runV (As := [.int a1]) (rest := []) ⟨hx, hb, hml, hown, hts⟩ (k_X9_isPerson l dC dI g (a0) (a1) (0) (a0_1) (a0_2) (a0_3) (a0_4) (a0_5) (a0_6) (a0_7) (a0_8) (a0_9) (a0_10) (a0_11) (a0_12) (a0_13) (a0_14) (a0_15) (a0_16) (a0_17) (a0_18) (a0_19) (a0_20) (a0_21) (a0_22) (a0_23) (a0_24) (a0_25) (a0_26) (a0_27) (a0_28) (a0_29) (a0_30) (a0_31) (a0_32) (a0_33) (a0_34) (a0_35) (a0_36) (a0_37) (a0_38) (a0_39) (a0_40) (a0_41) (a0_42) (a0_43) (a0_18_c) (a0_18_f) (by omega) (by omega) (by omega) (by omega) (by omega) (by omega) (by omega) h_a0_18_f) (cwV 1 hts (gwV qw_610 qw_611 qw_612 qw_386 qw_609) rfl rfl rfl (by decide +kernel) ⟨Nat.le_of_ble_eq_true rfl, Nat.le_of_ble_eq_true rfl⟩) ⟨fun a U g9 mk q => ⟨q.1, q.2.1, va_K.moved (u := U) (U := U.calling g9 mk a) (Vm.Alike.refl U.vm) q.2.2.1, Ev.bl q.2.2.2⟩, va_recv hK hP (ci := 8) (q0 := 0) rfl rgL6_3f800dd, fun U hU hW => ⟨rfl, atB hU hPc, va_K.moved hW.alike hKc, hE.go hS (fun _ h => h.elim) hU hW⟩⟩ rfl rfl hl.1 rfl (lv_room (Nat.le_of_ble_eq_true rfl)) dX9_person_7 ⟨Nat.le_of_ble_eq_true rfl, Nat.le_of_ble_eq_true rfl⟩)).run (fun r1 h_r1 => ?_)
  have h_r1 : (r1 = 0 ∨ r1 = 1) ∧ ((r1.toInt = 1 ∧ 0 ≤ a1.toInt ∧ a1.toInt < (a0_18_f 0).toInt) ∨ r1.toInt = 0) := h_r1
  have b_r1 := z01 (show r1 = 0 ∨ r1 = 1 from h_r1.1)
  refine lv_if_ne (tgt := 16) hx hb dX9_person_10 (by decide) (fun c10_2 => ?_) (fun c10_2 => ?_)
  · have c10_2 : ¬ (r1.toInt = 0) := mt (cv_eq rfl (by decide)).mpr c10_2
    refine lv_iload_n hx hb dX9_person_16 rfl (lv_at hl 2 rfl) ?_
    refine lv_if_ne (tgt := 29) hx hb dX9_person_17 (by decide) (fun c17_3 => ?_) (fun c17_3 => ?_)
    · have c17_3 : ¬ (a2.toInt = 0) := mt (cv_eq rfl (by decide)).mpr c17_3
      refine lv_iload_n hx hb dX9_person_29 rfl (lv_at hl 2 rfl) ?_
      refine lv_iconst (v := 1) hx hb dX9_person_30 (by decide) ?_
      refine lv_icmp_ne (tgt := 46) hx hb dX9_person_31 (by decide) (fun c31_4 => ?_) (fun c31_4 => ?_)
      · have c31_4 : ¬ (a2.toInt = 1) := mt (cv_eq rfl (by decide)).mpr c31_4
        refine lv_iload_n hx hb dX9_person_46 rfl (lv_at hl 2 rfl) ?_
        refine lv_iconst (v := 2) hx hb dX9_person_47 (by decide) ?_
        refine lv_icmp_ne (tgt := 59) hx hb dX9_person_48 (by decide) (fun c48_5 => ?_) (fun c48_5 => ?_)
        · have c48_5 : ¬ (a2.toInt = 2) := mt (cv_eq rfl (by decide)).mpr c48_5
          refine lv_bipush (v := (-2)) hx hb dX9_person_59 (by decide) ?_
          have qcm2 : ((-2) : Int32).toInt = (-2) := by decide
          have qc0 : (0 : Int32).toInt = 0 := by decide
          refine W.widen (k := 0) (n := 0) (Nat.le_of_ble_eq_true rfl) (Nat.le_of_ble_eq_true rfl) ?_
          have hP9 := hP
          have hD9 := hD
          have hK9 := (rgK5_6e78cbf hK)
          exact W.iret (v := (-2)) hx hb hr (fun t ht hW => ⟨⟨(-2), (-2), rfl, rfl, 0, atB ht hP9, va_K.moved hW.alike hK9, hD9⟩, hS.F ht⟩) hS.2.2 dX9_person_61
        · have c48_5 : a2.toInt = 2 := (cv_eq rfl (by decide)).mp c48_5
          refine lv_aload_n hx hb dX9_person_51 rfl (lv_at hl 0 rfl) ?_
          refine lv_iload_n hx hb dX9_person_52 rfl (lv_at hl 1 rfl) ?_
          have qc0 : (0 : Int32).toInt = 0 := by decide
          have hPc := (rgP6_0b09e1e hP)
          have hKc := (rgK5_ca6d75c hK)
          refine vp_callSi ((va_runV (As := [.int a1]) (rest := []) ⟨hx, hb, hml, hown, hts⟩ (k_X9_havers l dC dI g (a0) (a1) (0) (a0_1) (a0_2) (a0_3) (a0_4) (a0_5) (a0_6) (a0_7) (a0_8) (a0_9) (a0_10) (a0_11) (a0_12) (a0_13) (a0_14) (a0_15) (a0_16) (a0_17) (a0_18) (a0_19) (a0_20) (a0_21) (a0_22) (a0_23) (a0_24) (a0_25) (a0_26) (a0_27) (a0_28) (a0_29) (a0_30) (a0_31) (a0_32) (a0_33) (a0_34) (a0_35) (a0_36) (a0_37) (a0_38) (a0_39) (a0_40) (a0_41) (a0_42) (a0_43) (a0_20_c) (a0_20_f) (a0_30_c) (a0_30_f) (by omega) (by omega) (by omega) (by omega) (by omega) (by omega) (by omega) h_a0_20_f) (cwV 1 hts (gwV qw_614 qw_615 qw_616 qw_386 qw_613) rfl rfl rfl (by decide +kernel) ⟨Nat.le_of_ble_eq_true rfl, Nat.le_of_ble_eq_true rfl⟩) ⟨fun a U g9 mk q => ⟨q.1, q.2.1, va_K.moved (u := U) (U := U.calling g9 mk a) (Vm.Alike.refl U.vm) q.2.2.1, Ev.bl q.2.2.2⟩, va_recv hK hP (ci := 8) (q0 := 0) rfl rgL6_3f800dd, fun U hU hW => ⟨rfl, atB hU hPc, va_K.moved hW.alike hKc, hE.go hS (fun _ h => h.elim) hU hW⟩⟩ rfl rfl hl.1 rfl (lv_room (Nat.le_of_ble_eq_true rfl)) dX9_person_53 ⟨Nat.le_of_ble_eq_true rfl, Nat.le_of_ble_eq_true rfl⟩)).run (fun r6 h_r6 => ?_)
          have b_r6 := i32b r6
          refine lv_goto (tgt := 61) hx hb dX9_person_56 (by decide) ?_
          have qc0 : (0 : Int32).toInt = 0 := by decide
          refine W.widen (k := 0) (n := 0) (Nat.le_of_ble_eq_true rfl) (Nat.le_of_ble_eq_true rfl) ?_
          have hP9 := hP
          have hD9 := hD
          have hK9 := (rgK5_6e78cbf hK)
          exact W.iret (v := r6) hx hb hr (fun t ht hW => ⟨⟨r6, r6, rfl, rfl, 0, atB ht hP9, va_K.moved hW.alike hK9, hD9⟩, hS.F ht⟩) hS.2.2 dX9_person_61
      · have c31_4 : a2.toInt = 1 := (cv_eq rfl (by decide)).mp c31_4
        refine lv_aload_n hx hb dX9_person_34 rfl (lv_at hl 0 rfl) ?_
        refine va_get (D := (dC, dI)) (ci := 8) (v := .ref a0_38) (C := RX9) (T := TX9) (N := 44) hx hb hts inlX9 hown hK hP 0 rgL6_3f800dd rfl 38 (by decide) (hts (.fieldLink RX9 70 "ClosedUntilModel" "s" "[I") qw_502) (fun _ h9 => h9) rfl dX9_person_35 ?_
        refine lv_bipush (v := 24) hx hb dX9_person_38 (by decide) ?_
        refine lv_iload_n hx hb dX9_person_40 rfl (lv_at hl 1 rfl) ?_
        refine lv_iadd hx hb dX9_person_41 ?_
        refine lv_topi (fun x7 e_x7 => ?_)
        try have e_x7 := ti_add e_x7 (show (24 : Int32).toInt = 24 by decide) rfl (by omega)
        refine va_iald hx hb hK hP 5 4 rgL6_bd8047c rgT5_860c1f5 (vinI (by omega) (by omega)) dX9_person_42 ?_
        refine lv_topi (fun x8 e_x8 => ?_)
        have q_x8 := congrArg Int32.toInt e_x8
        have b_x8 := i32b x8
        refine lv_goto (tgt := 61) hx hb dX9_person_43 (by decide) ?_
        have qc0 : (0 : Int32).toInt = 0 := by decide
        refine W.widen (k := 0) (n := 0) (Nat.le_of_ble_eq_true rfl) (Nat.le_of_ble_eq_true rfl) ?_
        have hP9 := hP
        have hD9 := hD
        have hK9 := (rgK5_6e78cbf hK)
        exact W.iret (v := x8) hx hb hr (fun t ht hW => ⟨⟨x8, x8, rfl, rfl, 0, atB ht hP9, va_K.moved hW.alike hK9, hD9⟩, hS.F ht⟩) hS.2.2 dX9_person_61
    · have c17_3 : a2.toInt = 0 := (cv_eq rfl (by decide)).mp c17_3
      refine lv_aload_n hx hb dX9_person_20 rfl (lv_at hl 0 rfl) ?_
      refine va_get (D := (dC, dI)) (ci := 8) (v := .ref a0_23) (C := RX9) (T := TX9) (N := 44) hx hb hts inlX9 hown hK hP 0 rgL6_3f800dd rfl 23 (by decide) (hts (.fieldLink RX9 30 "ClosedUntilModel" "birth" "[I") qw_514) (fun _ h9 => h9) rfl dX9_person_21 ?_
      refine lv_iload_n hx hb dX9_person_24 rfl (lv_at hl 1 rfl) ?_
      refine va_iald hx hb hK hP 3 2 rgL6_a3d2007 rgT5_57d5a88 (vinI (by omega) (by omega)) dX9_person_25 ?_
      refine lv_topi (fun x9 e_x9 => ?_)
      have q_x9 := congrArg Int32.toInt e_x9
      have b_x9 := i32b x9
      refine lv_goto (tgt := 61) hx hb dX9_person_26 (by decide) ?_
      have qc0 : (0 : Int32).toInt = 0 := by decide
      refine W.widen (k := 0) (n := 0) (Nat.le_of_ble_eq_true rfl) (Nat.le_of_ble_eq_true rfl) ?_
      have hP9 := hP
      have hD9 := hD
      have hK9 := (rgK5_6e78cbf hK)
      exact W.iret (v := x9) hx hb hr (fun t ht hW => ⟨⟨x9, x9, rfl, rfl, 0, atB ht hP9, va_K.moved hW.alike hK9, hD9⟩, hS.F ht⟩) hS.2.2 dX9_person_61
  · have c10_2 : r1.toInt = 0 := (cv_eq rfl (by decide)).mp c10_2
    refine lv_bipush (v := (-2)) hx hb dX9_person_13 (by decide) ?_
    have qcm2 : ((-2) : Int32).toInt = (-2) := by decide
    have qc0 : (0 : Int32).toInt = 0 := by decide
    refine W.widen (k := 0) (n := 0) (Nat.le_of_ble_eq_true rfl) (Nat.le_of_ble_eq_true rfl) ?_
    have hP9 := hP
    have hD9 := hD
    have hK9 := (rgK5_6e78cbf hK)
    exact W.iret (v := (-2)) hx hb hr (fun t ht hW => ⟨⟨(-2), (-2), rfl, rfl, 0, atB ht hP9, va_K.moved hW.alike hK9, hD9⟩, hS.F ht⟩) hS.2.2 dX9_person_15
set_option maxHeartbeats 4000000 in
set_option maxRecDepth 100000 in
theorem k_X9_closure (l : Launch) (dC : Nat → ClassId) (dI : Nat → Nat → Nat) (g : Gv) (sz : Nat) (a0 : Nat) (a1 : Int32) (a2 : Int32) (a0_0 : Int32) (a0_1 : Int32) (a0_2 : Int32) (a0_3 : Int32) (a0_4 : Nat) (a0_5 : Int32) (a0_6 : Int32) (a0_7 : Int32) (a0_8 : Int32) (a0_9 : Int32) (a0_10 : Int32) (a0_11 : Int64) (a0_12 : Int32) (a0_13 : Int32) (a0_14 : Int32) (a0_15 : Int32) (a0_16 : Int32) (a0_17 : Int32) (a0_18 : Nat) (a0_19 : Nat) (a0_20 : Nat) (a0_21 : Nat) (a0_22 : Nat) (a0_23 : Nat) (a0_24 : Nat) (a0_25 : Nat) (a0_26 : Nat) (a0_27 : Nat) (a0_28 : Nat) (a0_29 : Nat) (a0_30 : Nat) (a0_31 : Nat) (a0_32 : Nat) (a0_33 : Nat) (a0_34 : Nat) (a0_35 : Nat) (a0_36 : Int64) (a0_37 : Int32) (a0_38 : Nat) (a0_39 : Nat) (a0_40 : Int32) (a0_41 : Nat) (a0_42 : Nat) (a0_43 : Nat) (a0_20_c : ClassId) (a0_20_f : Nat → Int32) (a0_21_c : ClassId) (a0_21_f : Nat → Int32) (a0_23_c : ClassId) (a0_23_f : Nat → Int32) (a0_26_c : ClassId) (a0_26_f : Nat → Int32) (a0_29_c : ClassId) (a0_29_f : Nat → Int32) (a0_30_c : ClassId) (a0_30_f : Nat → Int32) (a0_31_c : ClassId) (a0_31_f : Nat → Int32) (a0_32_c : ClassId) (a0_32_f : Nat → Int32) (a0_33_c : ClassId) (a0_33_f : Nat → Int32) (a0_34_c : ClassId) (a0_34_f : Nat → Int32) (a0_35_c : ClassId) (a0_35_f : Nat → Int32) (a0_38_c : ClassId) (a0_38_f : Nat → Int32) (h_a0_5 : 0 ≤ a0_5.toInt ∧ a0_5.toInt ≤ 1000) (h_a0_6 : 0 ≤ a0_6.toInt ∧ a0_6.toInt ≤ 1000) (h_a0_7 : 0 ≤ a0_7.toInt ∧ a0_7.toInt ≤ 1000) (h_a0_8 : 0 ≤ a0_8.toInt ∧ a0_8.toInt ≤ 1000) (h_a0_17 : 0 ≤ a0_17.toInt ∧ a0_17.toInt ≤ 1) (h_a0_37 : (-1) ≤ a0_37.toInt ∧ a0_37.toInt ≤ 23) (h_a0_40 : 0 ≤ a0_40.toInt ∧ a0_40.toInt ≤ 12) (h_a0_20_f : vr 0 24 a0_20_f) (h_a0_21_f : vr 0 12 a0_21_f) (hms : RowOk (a0_20_f 0).toInt a0_38_f 0) (hmw : WOk a0_32_f a0_33_f 0 (a0_21_f 0).toInt) : Met l yX9_closure (.code yX9_closure cX9_closure 3 (some .int) :: TBL) ({ frames := 8, cells := 0, slots := 0, locals := 187 }) (va_Pc [.ref a0, .int a1, .int a2] (fun U => U.heap.size = sz ∧ va_P (dC, dI) vwCl [(a0, .inr (8, [.int a0_0, .int a0_1, .int a0_2, .int a0_3, .ref a0_4, .int a0_5, .int a0_6, .int a0_7, .int a0_8, .int a0_9, .int a0_10, .long a0_11, .int a0_12, .int a0_13, .int a0_14, .int a0_15, .int a0_16, .int a0_17, .ref a0_18, .ref a0_19, .ref a0_20, .ref a0_21, .ref a0_22, .ref a0_23, .ref a0_24, .ref a0_25, .ref a0_26, .ref a0_27, .ref a0_28, .ref a0_29, .ref a0_30, .ref a0_31, .ref a0_32, .ref a0_33, .ref a0_34, .ref a0_35, .long a0_36, .int a0_37, .ref a0_38, .ref a0_39, .int a0_40, .ref a0_41, .ref a0_42, .ref a0_43])), (a0_20, .inl (a0_20_c, 2, .inl a0_20_f)), (a0_21, .inl (a0_21_c, 2, .inl a0_21_f)), (a0_23, .inl (a0_23_c, 16, .inl a0_23_f)), (a0_26, .inl (a0_26_c, 8, .inl a0_26_f)), (a0_29, .inl (a0_29_c, 48, .inl a0_29_f)), (a0_30, .inl (a0_30_c, 48, .inl a0_30_f)), (a0_31, .inl (a0_31_c, 48, .inl a0_31_f)), (a0_32, .inl (a0_32_c, 24, .inl a0_32_f)), (a0_33, .inl (a0_33_c, 24, .inl a0_33_f)), (a0_34, .inl (a0_34_c, 72, .inl a0_34_f)), (a0_35, .inl (a0_35_c, 24, .inl a0_35_f)), (a0_38, .inl (a0_38_c, 176, .inl a0_38_f))] U.heap ∧ va_K (dC, dI) vwCl [(a0_20_c, .int), (a0_21_c, .int), (a0_23_c, .int), (a0_26_c, .int), (a0_29_c, .int), (a0_30_c, .int), (a0_31_c, .int), (a0_32_c, .int), (a0_33_c, .int), (a0_34_c, .int), (a0_35_c, .boolean), (a0_38_c, .int)] U ∧ va_D (fun _ => True) [(a0, .inr (8, [.int a0_0, .int a0_1, .int a0_2, .int a0_3, .ref a0_4, .int a0_5, .int a0_6, .int a0_7, .int a0_8, .int a0_9, .int a0_10, .long a0_11, .int a0_12, .int a0_13, .int a0_14, .int a0_15, .int a0_16, .int a0_17, .ref a0_18, .ref a0_19, .ref a0_20, .ref a0_21, .ref a0_22, .ref a0_23, .ref a0_24, .ref a0_25, .ref a0_26, .ref a0_27, .ref a0_28, .ref a0_29, .ref a0_30, .ref a0_31, .ref a0_32, .ref a0_33, .ref a0_34, .ref a0_35, .long a0_36, .int a0_37, .ref a0_38, .ref a0_39, .int a0_40, .ref a0_41, .ref a0_42, .ref a0_43])), (a0_20, .inl (a0_20_c, 2, .inl a0_20_f)), (a0_21, .inl (a0_21_c, 2, .inl a0_21_f)), (a0_23, .inl (a0_23_c, 16, .inl a0_23_f)), (a0_26, .inl (a0_26_c, 8, .inl a0_26_f)), (a0_29, .inl (a0_29_c, 48, .inl a0_29_f)), (a0_30, .inl (a0_30_c, 48, .inl a0_30_f)), (a0_31, .inl (a0_31_c, 48, .inl a0_31_f)), (a0_32, .inl (a0_32_c, 24, .inl a0_32_f)), (a0_33, .inl (a0_33_c, 24, .inl a0_33_f)), (a0_34, .inl (a0_34_c, 72, .inl a0_34_f)), (a0_35, .inl (a0_35_c, 24, .inl a0_35_f)), (a0_38, .inl (a0_38_c, 176, .inl a0_38_f))] ∧ Ev g (va_A [(a0, .inr (8, [.int a0_0, .int a0_1, .int a0_2, .int a0_3, .ref a0_4, .int a0_5, .int a0_6, .int a0_7, .int a0_8, .int a0_9, .int a0_10, .long a0_11, .int a0_12, .int a0_13, .int a0_14, .int a0_15, .int a0_16, .int a0_17, .ref a0_18, .ref a0_19, .ref a0_20, .ref a0_21, .ref a0_22, .ref a0_23, .ref a0_24, .ref a0_25, .ref a0_26, .ref a0_27, .ref a0_28, .ref a0_29, .ref a0_30, .ref a0_31, .ref a0_32, .ref a0_33, .ref a0_34, .ref a0_35, .long a0_36, .int a0_37, .ref a0_38, .ref a0_39, .int a0_40, .ref a0_41, .ref a0_42, .ref a0_43])), (a0_20, .inl (a0_20_c, 2, .inl a0_20_f)), (a0_21, .inl (a0_21_c, 2, .inl a0_21_f)), (a0_23, .inl (a0_23_c, 16, .inl a0_23_f)), (a0_26, .inl (a0_26_c, 8, .inl a0_26_f)), (a0_29, .inl (a0_29_c, 48, .inl a0_29_f)), (a0_30, .inl (a0_30_c, 48, .inl a0_30_f)), (a0_31, .inl (a0_31_c, 48, .inl a0_31_f)), (a0_32, .inl (a0_32_c, 24, .inl a0_32_f)), (a0_33, .inl (a0_33_c, 24, .inl a0_33_f)), (a0_34, .inl (a0_34_c, 72, .inl a0_34_f)), (a0_35, .inl (a0_35_c, 24, .inl a0_35_f)), (a0_38, .inl (a0_38_c, 176, .inl a0_38_f))] sz) U)) (va_Qi (fun (r : Int32) (u : Int32) => u = r) (fun (u : Int32) (t : State) => ∃ (za0_0 : Int32) (za0_1 : Int32) (za0_2 : Int32) (za0_3 : Int32), va_P (dC, dI) vwCl [(a0, .inr (8, [.int za0_0, .int za0_1, .int za0_2, .int za0_3, .ref a0_4, .int a0_5, .int a0_6, .int a0_7, .int a0_8, .int a0_9, .int a0_10, .long a0_11, .int a0_12, .int a0_13, .int a0_14, .int a0_15, .int a0_16, .int a0_17, .ref a0_18, .ref a0_19, .ref a0_20, .ref a0_21, .ref a0_22, .ref a0_23, .ref a0_24, .ref a0_25, .ref a0_26, .ref a0_27, .ref a0_28, .ref a0_29, .ref a0_30, .ref a0_31, .ref a0_32, .ref a0_33, .ref a0_34, .ref a0_35, .long a0_36, .int a0_37, .ref a0_38, .ref a0_39, .int a0_40, .ref a0_41, .ref a0_42, .ref a0_43])), (a0_20, .inl (a0_20_c, 2, .inl a0_20_f)), (a0_21, .inl (a0_21_c, 2, .inl a0_21_f)), (a0_23, .inl (a0_23_c, 16, .inl a0_23_f)), (a0_26, .inl (a0_26_c, 8, .inl a0_26_f)), (a0_29, .inl (a0_29_c, 48, .inl a0_29_f)), (a0_30, .inl (a0_30_c, 48, .inl a0_30_f)), (a0_31, .inl (a0_31_c, 48, .inl a0_31_f)), (a0_32, .inl (a0_32_c, 24, .inl a0_32_f)), (a0_33, .inl (a0_33_c, 24, .inl a0_33_f)), (a0_34, .inl (a0_34_c, 72, .inl a0_34_f)), (a0_35, .inl (a0_35_c, 24, .inl a0_35_f)), (a0_38, .inl (a0_38_c, 176, .inl a0_38_f))] t.heap ∧ va_K (dC, dI) vwCl [] t ∧ va_D (va_A [(a0, .inr (8, [.int a0_0, .int a0_1, .int a0_2, .int a0_3, .ref a0_4, .int a0_5, .int a0_6, .int a0_7, .int a0_8, .int a0_9, .int a0_10, .long a0_11, .int a0_12, .int a0_13, .int a0_14, .int a0_15, .int a0_16, .int a0_17, .ref a0_18, .ref a0_19, .ref a0_20, .ref a0_21, .ref a0_22, .ref a0_23, .ref a0_24, .ref a0_25, .ref a0_26, .ref a0_27, .ref a0_28, .ref a0_29, .ref a0_30, .ref a0_31, .ref a0_32, .ref a0_33, .ref a0_34, .ref a0_35, .long a0_36, .int a0_37, .ref a0_38, .ref a0_39, .int a0_40, .ref a0_41, .ref a0_42, .ref a0_43])), (a0_20, .inl (a0_20_c, 2, .inl a0_20_f)), (a0_21, .inl (a0_21_c, 2, .inl a0_21_f)), (a0_23, .inl (a0_23_c, 16, .inl a0_23_f)), (a0_26, .inl (a0_26_c, 8, .inl a0_26_f)), (a0_29, .inl (a0_29_c, 48, .inl a0_29_f)), (a0_30, .inl (a0_30_c, 48, .inl a0_30_f)), (a0_31, .inl (a0_31_c, 48, .inl a0_31_f)), (a0_32, .inl (a0_32_c, 24, .inl a0_32_f)), (a0_33, .inl (a0_33_c, 24, .inl a0_33_f)), (a0_34, .inl (a0_34_c, 72, .inl a0_34_f)), (a0_35, .inl (a0_35_c, 24, .inl a0_35_f)), (a0_38, .inl (a0_38_c, 176, .inl a0_38_f))] sz) [(a0, .inr (8, [.int za0_0, .int za0_1, .int za0_2, .int za0_3, .ref a0_4, .int a0_5, .int a0_6, .int a0_7, .int a0_8, .int a0_9, .int a0_10, .long a0_11, .int a0_12, .int a0_13, .int a0_14, .int a0_15, .int a0_16, .int a0_17, .ref a0_18, .ref a0_19, .ref a0_20, .ref a0_21, .ref a0_22, .ref a0_23, .ref a0_24, .ref a0_25, .ref a0_26, .ref a0_27, .ref a0_28, .ref a0_29, .ref a0_30, .ref a0_31, .ref a0_32, .ref a0_33, .ref a0_34, .ref a0_35, .long a0_36, .int a0_37, .ref a0_38, .ref a0_39, .int a0_40, .ref a0_41, .ref a0_42, .ref a0_43])), (a0_20, .inl (a0_20_c, 2, .inl a0_20_f)), (a0_21, .inl (a0_21_c, 2, .inl a0_21_f)), (a0_23, .inl (a0_23_c, 16, .inl a0_23_f)), (a0_26, .inl (a0_26_c, 8, .inl a0_26_f)), (a0_29, .inl (a0_29_c, 48, .inl a0_29_f)), (a0_30, .inl (a0_30_c, 48, .inl a0_30_f)), (a0_31, .inl (a0_31_c, 48, .inl a0_31_f)), (a0_32, .inl (a0_32_c, 24, .inl a0_32_f)), (a0_33, .inl (a0_33_c, 24, .inl a0_33_f)), (a0_34, .inl (a0_34_c, 72, .inl a0_34_f)), (a0_35, .inl (a0_35_c, 24, .inl a0_35_f)), (a0_38, .inl (a0_38_c, 176, .inl a0_38_f))]) (va_A [(a0, .inr (8, [.int a0_0, .int a0_1, .int a0_2, .int a0_3, .ref a0_4, .int a0_5, .int a0_6, .int a0_7, .int a0_8, .int a0_9, .int a0_10, .long a0_11, .int a0_12, .int a0_13, .int a0_14, .int a0_15, .int a0_16, .int a0_17, .ref a0_18, .ref a0_19, .ref a0_20, .ref a0_21, .ref a0_22, .ref a0_23, .ref a0_24, .ref a0_25, .ref a0_26, .ref a0_27, .ref a0_28, .ref a0_29, .ref a0_30, .ref a0_31, .ref a0_32, .ref a0_33, .ref a0_34, .ref a0_35, .long a0_36, .int a0_37, .ref a0_38, .ref a0_39, .int a0_40, .ref a0_41, .ref a0_42, .ref a0_43])), (a0_20, .inl (a0_20_c, 2, .inl a0_20_f)), (a0_21, .inl (a0_21_c, 2, .inl a0_21_f)), (a0_23, .inl (a0_23_c, 16, .inl a0_23_f)), (a0_26, .inl (a0_26_c, 8, .inl a0_26_f)), (a0_29, .inl (a0_29_c, 48, .inl a0_29_f)), (a0_30, .inl (a0_30_c, 48, .inl a0_30_f)), (a0_31, .inl (a0_31_c, 48, .inl a0_31_f)), (a0_32, .inl (a0_32_c, 24, .inl a0_32_f)), (a0_33, .inl (a0_33_c, 24, .inl a0_33_f)), (a0_34, .inl (a0_34_c, 72, .inl a0_34_f)), (a0_35, .inl (a0_35_c, 24, .inl a0_35_f)), (a0_38, .inl (a0_38_c, 176, .inl a0_38_f))] sz)) 0 0 (va_A [(a0, .inr (8, [.int a0_0, .int a0_1, .int a0_2, .int a0_3, .ref a0_4, .int a0_5, .int a0_6, .int a0_7, .int a0_8, .int a0_9, .int a0_10, .long a0_11, .int a0_12, .int a0_13, .int a0_14, .int a0_15, .int a0_16, .int a0_17, .ref a0_18, .ref a0_19, .ref a0_20, .ref a0_21, .ref a0_22, .ref a0_23, .ref a0_24, .ref a0_25, .ref a0_26, .ref a0_27, .ref a0_28, .ref a0_29, .ref a0_30, .ref a0_31, .ref a0_32, .ref a0_33, .ref a0_34, .ref a0_35, .long a0_36, .int a0_37, .ref a0_38, .ref a0_39, .int a0_40, .ref a0_41, .ref a0_42, .ref a0_43])), (a0_20, .inl (a0_20_c, 2, .inl a0_20_f)), (a0_21, .inl (a0_21_c, 2, .inl a0_21_f)), (a0_23, .inl (a0_23_c, 16, .inl a0_23_f)), (a0_26, .inl (a0_26_c, 8, .inl a0_26_f)), (a0_29, .inl (a0_29_c, 48, .inl a0_29_f)), (a0_30, .inl (a0_30_c, 48, .inl a0_30_f)), (a0_31, .inl (a0_31_c, 48, .inl a0_31_f)), (a0_32, .inl (a0_32_c, 24, .inl a0_32_f)), (a0_33, .inl (a0_33_c, 24, .inl a0_33_f)), (a0_34, .inl (a0_34_c, 72, .inl a0_34_f)), (a0_35, .inl (a0_35_c, 24, .inl a0_35_f)), (a0_38, .inl (a0_38_c, 176, .inl a0_38_f))] sz) := by
  refine Met.ofW (cc := cX9_closure) (maxL := 3) (ret := (some .int)) (by decide) rfl ?_
  intro p e s m args below meth c s₁ B hml hv
  obtain ⟨rfl, hsz, hP, hK, hD0, hE⟩ := hv
  have hx := B.exec
  have hb := B.bytes
  have hr := B.returns
  have hts0 := atoms_spec (ws := (.code yX9_closure cX9_closure 3 (some .int) :: TBL)) B.pre
  have hts := fun (w : Cond) (h : w ∈ TBL) => hts0 w (List.mem_cons_of_mem _ h)
  have hown : s.vm.findClass RX9 = some m.cls := findClass_of_methodNamed B.named
  have hlocks := B.notSynchronized
  have hN := hE.1
  subst hsz
  have hD := hD0.self (sz := s.heap.size)
  generalize hAe : va_A [(a0, .inr (8, [.int a0_0, .int a0_1, .int a0_2, .int a0_3, .ref a0_4, .int a0_5, .int a0_6, .int a0_7, .int a0_8, .int a0_9, .int a0_10, .long a0_11, .int a0_12, .int a0_13, .int a0_14, .int a0_15, .int a0_16, .int a0_17, .ref a0_18, .ref a0_19, .ref a0_20, .ref a0_21, .ref a0_22, .ref a0_23, .ref a0_24, .ref a0_25, .ref a0_26, .ref a0_27, .ref a0_28, .ref a0_29, .ref a0_30, .ref a0_31, .ref a0_32, .ref a0_33, .ref a0_34, .ref a0_35, .long a0_36, .int a0_37, .ref a0_38, .ref a0_39, .int a0_40, .ref a0_41, .ref a0_42, .ref a0_43])), (a0_20, .inl (a0_20_c, 2, .inl a0_20_f)), (a0_21, .inl (a0_21_c, 2, .inl a0_21_f)), (a0_23, .inl (a0_23_c, 16, .inl a0_23_f)), (a0_26, .inl (a0_26_c, 8, .inl a0_26_f)), (a0_29, .inl (a0_29_c, 48, .inl a0_29_f)), (a0_30, .inl (a0_30_c, 48, .inl a0_30_f)), (a0_31, .inl (a0_31_c, 48, .inl a0_31_f)), (a0_32, .inl (a0_32_c, 24, .inl a0_32_f)), (a0_33, .inl (a0_33_c, 24, .inl a0_33_f)), (a0_34, .inl (a0_34_c, 72, .inl a0_34_f)), (a0_35, .inl (a0_35_c, 24, .inl a0_35_f)), (a0_38, .inl (a0_38_c, 176, .inl a0_38_f))] s.heap.size = A at hD hE ⊢
  have hA : ∀ q : Nat, s.heap.size ≤ q → A q := fun q h => by rw [← hAe]; exact Or.inr h
  have hS : va_S A s.heap s.heap [] := va_S.rf
  replace hP : va_P (dC, dI) vwCl [(a0, .inr (8, [.int a0_0, .int a0_1, .int a0_2, .int a0_3, .ref a0_4, .int a0_5, .int a0_6, .int a0_7, .int a0_8, .int a0_9, .int a0_10, .long a0_11, .int a0_12, .int a0_13, .int a0_14, .int a0_15, .int a0_16, .int a0_17, .ref a0_18, .ref a0_19, .ref a0_20, .ref a0_21, .ref a0_22, .ref a0_23, .ref a0_24, .ref a0_25, .ref a0_26, .ref a0_27, .ref a0_28, .ref a0_29, .ref a0_30, .ref a0_31, .ref a0_32, .ref a0_33, .ref a0_34, .ref a0_35, .long a0_36, .int a0_37, .ref a0_38, .ref a0_39, .int a0_40, .ref a0_41, .ref a0_42, .ref a0_43])), (a0_20, .inl (a0_20_c, 2, .inl a0_20_f)), (a0_21, .inl (a0_21_c, 2, .inl a0_21_f)), (a0_23, .inl (a0_23_c, 16, .inl a0_23_f)), (a0_26, .inl (a0_26_c, 8, .inl a0_26_f)), (a0_29, .inl (a0_29_c, 48, .inl a0_29_f)), (a0_30, .inl (a0_30_c, 48, .inl a0_30_f)), (a0_31, .inl (a0_31_c, 48, .inl a0_31_f)), (a0_32, .inl (a0_32_c, 24, .inl a0_32_f)), (a0_33, .inl (a0_33_c, 24, .inl a0_33_f)), (a0_34, .inl (a0_34_c, 72, .inl a0_34_f)), (a0_35, .inl (a0_35_c, 24, .inl a0_35_f)), (a0_38, .inl (a0_38_c, 176, .inl a0_38_f))] s.heap := hP
  have hl := lv_entry ([.ref a0, .int a1, .int a2]) (n := 3) (Nat.le_of_ble_eq_true rfl)
  rw [lg_entry_eq]
  generalize (lg_sl ([.ref a0, .int a1, .int a2]) ++ List.replicate (3 - (lg_sl ([.ref a0, .int a1, .int a2])).length) Slot.unset).toArray = ls at hl ⊢
  have hl : lv_has ls 3 [(0, .ref a0), (1, .int a1), (2, .int a2)] := hl
  have b_a1 := i32b a1
  have b_a2 := i32b a2
  have b_a0_0 := i32b a0_0
  have b_a0_1 := i32b a0_1
  have b_a0_2 := i32b a0_2
  have b_a0_3 := i32b a0_3
  have b_a0_9 := i32b a0_9
  have b_a0_10 := i32b a0_10
  have b_a0_12 := i32b a0_12
  have b_a0_13 := i32b a0_13
  have b_a0_14 := i32b a0_14
  have b_a0_15 := i32b a0_15
  have b_a0_16 := i32b a0_16
  have hp20 := vr_at h_a0_20_f (k := 0) rfl
  have hp21 := vr_at h_a0_21_f (k := 0) rfl
  refine lv_aload_n hx hb dX9_closure_0 rfl (lv_at hl 0 rfl) ?_
  refine lv_iconst (v := 0) hx hb dX9_closure_1 (by decide) ?_
  refine va_put (D := (dC, dI)) (ci := 8) (v := .int 0) (ty := .int) (C := RX9) (T := TX9) (N := 44) hx hb hts inlX9 tyX9 tyX9_ok nmX9 hown hK hP hD hS 0 rgL13_890e5ad rfl 0 (by decide) (hts (.fieldLink RX9 85 "ClosedUntilModel" "thrown" "I") qw_408) (fun _ h9 => h9) rfl (by decide +kernel) rfl rfl (Nat.le_of_ble_eq_true rfl) dX9_closure_2 (fun H locs hP9 hD9 hS9 => ?_)
  clear hP hD hS
  obtain ⟨hP, hD⟩ := rgS13_d750318 (e := (a0, .inr (8, [.int 0, .int a0_1, .int a0_2, .int a0_3, .ref a0_4, .int a0_5, .int a0_6, .int a0_7, .int a0_8, .int a0_9, .int a0_10, .long a0_11, .int a0_12, .int a0_13, .int a0_14, .int a0_15, .int a0_16, .int a0_17, .ref a0_18, .ref a0_19, .ref a0_20, .ref a0_21, .ref a0_22, .ref a0_23, .ref a0_24, .ref a0_25, .ref a0_26, .ref a0_27, .ref a0_28, .ref a0_29, .ref a0_30, .ref a0_31, .ref a0_32, .ref a0_33, .ref a0_34, .ref a0_35, .long a0_36, .int a0_37, .ref a0_38, .ref a0_39, .int a0_40, .ref a0_41, .ref a0_42, .ref a0_43]))) hP9 hD9 rfl
  have hS := hS9; clear hP9 hD9 hS9
  refine lv_aload_n hx hb dX9_closure_5 rfl (lv_at hl 0 rfl) ?_
  refine lv_iload_n hx hb dX9_closure_6 rfl (lv_at hl 1 rfl) ?_
  have qc0 : (0 : Int32).toInt = 0 := by decide
  have hPc := (rgP13_4a0220d hP)
  have hKc := (rgK12_1b900a9 hK)
  refine vp_callSi ((va_runV (As := [.int a1]) (rest := []) ⟨hx, hb, hml, hown, hts⟩ (k_X9_isClosure l dC dI g (a0) (a1) (0) (a0_1) (a0_2) (a0_3) (a0_4) (a0_5) (a0_6) (a0_7) (a0_8) (a0_9) (a0_10) (a0_11) (a0_12) (a0_13) (a0_14) (a0_15) (a0_16) (a0_17) (a0_18) (a0_19) (a0_20) (a0_21) (a0_22) (a0_23) (a0_24) (a0_25) (a0_26) (a0_27) (a0_28) (a0_29) (a0_30) (a0_31) (a0_32) (a0_33) (a0_34) (a0_35) (a0_36) (a0_37) (a0_38) (a0_39) (a0_40) (a0_41) (a0_42) (a0_43) (a0_21_c) (a0_21_f) (by omega) (by omega) (by omega) (by omega) (by omega) (by omega) (by omega) h_a0_21_f) (cwV 1 hts (gwV qw_618 qw_619 qw_620 qw_386 qw_617) rfl rfl rfl (by decide +kernel) ⟨Nat.le_of_ble_eq_true rfl, Nat.le_of_ble_eq_true rfl⟩) ⟨fun a U g9 mk q => ⟨q.1, q.2.1, va_K.moved (u := U) (U := U.calling g9 mk a) (Vm.Alike.refl U.vm) q.2.2.1, Ev.bl q.2.2.2⟩, va_recv hK hP (ci := 8) (q0 := 0) rfl rgL13_890e5ad, fun U hU hW => ⟨rfl, atB hU hPc, va_K.moved hW.alike hKc, hE.go hS (fun _ h => h.elim) hU hW⟩⟩ rfl rfl hl.1 rfl (lv_room (Nat.le_of_ble_eq_true rfl)) dX9_closure_7 ⟨Nat.le_of_ble_eq_true rfl, Nat.le_of_ble_eq_true rfl⟩)).run (fun r1 h_r1 => ?_)
  have h_r1 : (r1 = 0 ∨ r1 = 1) ∧ ((r1.toInt = 1 ∧ 0 ≤ a1.toInt ∧ a1.toInt < (a0_21_f 0).toInt) ∨ r1.toInt = 0) := h_r1
  have b_r1 := z01 (show r1 = 0 ∨ r1 = 1 from h_r1.1)
  refine lv_if_ne (tgt := 16) hx hb dX9_closure_10 (by decide) (fun c10_2 => ?_) (fun c10_2 => ?_)
  · have c10_2 : ¬ (r1.toInt = 0) := mt (cv_eq rfl (by decide)).mpr c10_2
    refine lv_iload_n hx hb dX9_closure_16 rfl (lv_at hl 2 rfl) ?_
    rcases (show a2.toInt = 0 ∨ a2.toInt = 1 ∨ a2.toInt = 2 ∨ a2.toInt = 3 ∨ a2.toInt = 4 ∨ a2.toInt = 5 ∨ a2.toInt = 6 ∨ (a2.toInt < 0 ∨ 6 < a2.toInt) by omega) with hq3 | hq3 | hq3 | hq3 | hq3 | hq3 | hq3 | hq3
    · refine lv_tableIn (off := 43) (tgt := 60) hx hb dX9_closure_17 (by omega) (by omega) (by rw [hq3]; rfl) (by decide) ?_
      refine lv_aload_n hx hb dX9_closure_60 rfl (lv_at hl 0 rfl) ?_
      refine va_get (D := (dC, dI)) (ci := 8) (v := .ref a0_32) (C := RX9) (T := TX9) (N := 44) hx hb hts inlX9 hown hK hP 0 rgL13_890e5ad rfl 32 (by decide) (hts (.fieldLink RX9 57 "ClosedUntilModel" "sort" "[I") qw_507) (fun _ h9 => h9) rfl dX9_closure_61 ?_
      refine lv_iload_n hx hb dX9_closure_64 rfl (lv_at hl 1 rfl) ?_
      refine va_iald hx hb hK hP 8 7 rgL13_f102f36 rgT12_aed2869 (vinI (by omega) (by omega)) dX9_closure_65 ?_
      refine lv_topi (fun x4 e_x4 => ?_)
      have q_x4 := congrArg Int32.toInt e_x4
      have b_x4 := i32b x4
      have qc0 : (0 : Int32).toInt = 0 := by decide
      refine W.widen (k := 0) (n := 0) (Nat.le_of_ble_eq_true rfl) (Nat.le_of_ble_eq_true rfl) ?_
      have hP9 := hP
      have hD9 := hD
      have hK9 := (rgK12_8728a0f hK)
      exact W.iret (v := x4) hx hb hr (fun t ht hW => ⟨⟨x4, x4, rfl, rfl, 0, a0_1, a0_2, a0_3, atB ht hP9, va_K.moved hW.alike hK9, hD9⟩, hS.F ht⟩) hS.2.2 dX9_closure_66
    · refine lv_tableIn (off := 50) (tgt := 67) hx hb dX9_closure_17 (by omega) (by omega) (by rw [hq3]; rfl) (by decide) ?_
      refine lv_aload_n hx hb dX9_closure_67 rfl (lv_at hl 0 rfl) ?_
      refine va_get (D := (dC, dI)) (ci := 8) (v := .ref a0_33) (C := RX9) (T := TX9) (N := 44) hx hb hts inlX9 hown hK hP 0 rgL13_890e5ad rfl 33 (by decide) (hts (.fieldLink RX9 60 "ClosedUntilModel" "whom" "[I") qw_508) (fun _ h9 => h9) rfl dX9_closure_68 ?_
      refine lv_iload_n hx hb dX9_closure_71 rfl (lv_at hl 1 rfl) ?_
      refine va_iald hx hb hK hP 9 8 rgL13_1206a9c rgT12_51c22ba (vinI (by omega) (by omega)) dX9_closure_72 ?_
      refine lv_topi (fun x5 e_x5 => ?_)
      have q_x5 := congrArg Int32.toInt e_x5
      have b_x5 := i32b x5
      have qc0 : (0 : Int32).toInt = 0 := by decide
      refine W.widen (k := 0) (n := 0) (Nat.le_of_ble_eq_true rfl) (Nat.le_of_ble_eq_true rfl) ?_
      have hP9 := hP
      have hD9 := hD
      have hK9 := (rgK12_8728a0f hK)
      exact W.iret (v := x5) hx hb hr (fun t ht hW => ⟨⟨x5, x5, rfl, rfl, 0, a0_1, a0_2, a0_3, atB ht hP9, va_K.moved hW.alike hK9, hD9⟩, hS.F ht⟩) hS.2.2 dX9_closure_73
    · refine lv_tableIn (off := 57) (tgt := 74) hx hb dX9_closure_17 (by omega) (by omega) (by rw [hq3]; rfl) (by decide) ?_
      refine lv_aload_n hx hb dX9_closure_74 rfl (lv_at hl 0 rfl) ?_
      refine va_get (D := (dC, dI)) (ci := 8) (v := .ref a0_35) (C := RX9) (T := TX9) (N := 44) hx hb hts inlX9 hown hK hP 0 rgL13_890e5ad rfl 35 (by decide) (hts (.fieldLink RX9 66 "ClosedUntilModel" "isWhole" "[Z") qw_522) (fun _ h9 => h9) rfl dX9_closure_75 ?_
      refine lv_iload_n hx hb dX9_closure_78 rfl (lv_at hl 1 rfl) ?_
      refine va_zald hx hb hK hP 11 10 rgL13_cc99607 rgT12_1025113 (vinI (by omega) (by omega)) dX9_closure_79 ?_
      refine lv_topi (fun x6 e_x6 => ?_)
      have b_x6 := i32b x6
      refine lv_if_eq (tgt := 87) hx hb dX9_closure_80 (by decide) (fun c80_7 => ?_) (fun c80_7 => ?_)
      · have c80_7 : x6.toInt = 0 := (cv_eq rfl (by decide)).mp c80_7
        refine lv_iconst (v := 0) hx hb dX9_closure_87 (by decide) ?_
        have qc0 : (0 : Int32).toInt = 0 := by decide
        refine W.widen (k := 0) (n := 0) (Nat.le_of_ble_eq_true rfl) (Nat.le_of_ble_eq_true rfl) ?_
        have hP9 := hP
        have hD9 := hD
        have hK9 := (rgK12_8728a0f hK)
        exact W.iret (v := 0) hx hb hr (fun t ht hW => ⟨⟨0, 0, rfl, rfl, 0, a0_1, a0_2, a0_3, atB ht hP9, va_K.moved hW.alike hK9, hD9⟩, hS.F ht⟩) hS.2.2 dX9_closure_88
      · have c80_7 : ¬ (x6.toInt = 0) := mt (cv_eq rfl (by decide)).mpr c80_7
        refine lv_iconst (v := 1) hx hb dX9_closure_83 (by decide) ?_
        refine lv_goto (tgt := 88) hx hb dX9_closure_84 (by decide) ?_
        have qc0 : (0 : Int32).toInt = 0 := by decide
        have qc1 : (1 : Int32).toInt = 1 := by decide
        refine W.widen (k := 0) (n := 0) (Nat.le_of_ble_eq_true rfl) (Nat.le_of_ble_eq_true rfl) ?_
        have hP9 := hP
        have hD9 := hD
        have hK9 := (rgK12_8728a0f hK)
        exact W.iret (v := 1) hx hb hr (fun t ht hW => ⟨⟨1, 1, rfl, rfl, 0, a0_1, a0_2, a0_3, atB ht hP9, va_K.moved hW.alike hK9, hD9⟩, hS.F ht⟩) hS.2.2 dX9_closure_88
    · refine lv_tableIn (off := 72) (tgt := 89) hx hb dX9_closure_17 (by omega) (by omega) (by rw [hq3]; rfl) (by decide) ?_
      refine lv_aload_n hx hb dX9_closure_89 rfl (lv_at hl 0 rfl) ?_
      refine va_get (D := (dC, dI)) (ci := 8) (v := .ref a0_38) (C := RX9) (T := TX9) (N := 44) hx hb hts inlX9 hown hK hP 0 rgL13_890e5ad rfl 38 (by decide) (hts (.fieldLink RX9 70 "ClosedUntilModel" "s" "[I") qw_502) (fun _ h9 => h9) rfl dX9_closure_90 ?_
      refine lv_bipush (v := 44) hx hb dX9_closure_93 (by decide) ?_
      refine lv_iload_n hx hb dX9_closure_95 rfl (lv_at hl 1 rfl) ?_
      refine lv_iadd hx hb dX9_closure_96 ?_
      refine lv_topi (fun x8 e_x8 => ?_)
      try have e_x8 := ti_add e_x8 (show (44 : Int32).toInt = 44 by decide) rfl (by omega)
      refine va_iald hx hb hK hP 12 11 rgL13_551ea76 rgT12_e4ce31b (vinI (by omega) (by omega)) dX9_closure_97 ?_
      refine lv_topi (fun x9 e_x9 => ?_)
      have q_x9 := congrArg Int32.toInt e_x9
      have b_x9 := i32b x9
      have qc0 : (0 : Int32).toInt = 0 := by decide
      refine W.widen (k := 0) (n := 0) (Nat.le_of_ble_eq_true rfl) (Nat.le_of_ble_eq_true rfl) ?_
      have hP9 := hP
      have hD9 := hD
      have hK9 := (rgK12_8728a0f hK)
      exact W.iret (v := x9) hx hb hr (fun t ht hW => ⟨⟨x9, x9, rfl, rfl, 0, a0_1, a0_2, a0_3, atB ht hP9, va_K.moved hW.alike hK9, hD9⟩, hS.F ht⟩) hS.2.2 dX9_closure_98
    · refine lv_tableIn (off := 82) (tgt := 99) hx hb dX9_closure_17 (by omega) (by omega) (by rw [hq3]; rfl) (by decide) ?_
      refine lv_aload_n hx hb dX9_closure_99 rfl (lv_at hl 0 rfl) ?_
      refine va_get (D := (dC, dI)) (ci := 8) (v := .ref a0_38) (C := RX9) (T := TX9) (N := 44) hx hb hts inlX9 hown hK hP 0 rgL13_890e5ad rfl 38 (by decide) (hts (.fieldLink RX9 70 "ClosedUntilModel" "s" "[I") qw_502) (fun _ h9 => h9) rfl dX9_closure_100 ?_
      refine lv_bipush (v := 32) hx hb dX9_closure_103 (by decide) ?_
      refine lv_iload_n hx hb dX9_closure_105 rfl (lv_at hl 1 rfl) ?_
      refine lv_iadd hx hb dX9_closure_106 ?_
      refine lv_topi (fun x10 e_x10 => ?_)
      try have e_x10 := ti_add e_x10 (show (32 : Int32).toInt = 32 by decide) rfl (by omega)
      refine va_iald hx hb hK hP 12 11 rgL13_551ea76 rgT12_e4ce31b (vinI (by omega) (by omega)) dX9_closure_107 ?_
      refine lv_topi (fun x11 e_x11 => ?_)
      have q_x11 := congrArg Int32.toInt e_x11
      have b_x11 := i32b x11
      have qc0 : (0 : Int32).toInt = 0 := by decide
      refine W.widen (k := 0) (n := 0) (Nat.le_of_ble_eq_true rfl) (Nat.le_of_ble_eq_true rfl) ?_
      have hP9 := hP
      have hD9 := hD
      have hK9 := (rgK12_8728a0f hK)
      exact W.iret (v := x11) hx hb hr (fun t ht hW => ⟨⟨x11, x11, rfl, rfl, 0, a0_1, a0_2, a0_3, atB ht hP9, va_K.moved hW.alike hK9, hD9⟩, hS.F ht⟩) hS.2.2 dX9_closure_108
    · refine lv_tableIn (off := 92) (tgt := 109) hx hb dX9_closure_17 (by omega) (by omega) (by rw [hq3]; rfl) (by decide) ?_
      refine lv_aload_n hx hb dX9_closure_109 rfl (lv_at hl 0 rfl) ?_
      refine lv_iload_n hx hb dX9_closure_110 rfl (lv_at hl 1 rfl) ?_
      have qc0 : (0 : Int32).toInt = 0 := by decide
      have hPc := (rgP13_6112b67 hP)
      have hKc := (rgK12_c6e6ecd hK)
      refine vp_callSi ((va_runV (As := [.int a1]) (rest := []) ⟨hx, hb, hml, hown, hts⟩ (k_X9_targets l dC dI g (a0) (a1) (0) (a0_1) (a0_2) (a0_3) (a0_4) (a0_5) (a0_6) (a0_7) (a0_8) (a0_9) (a0_10) (a0_11) (a0_12) (a0_13) (a0_14) (a0_15) (a0_16) (a0_17) (a0_18) (a0_19) (a0_20) (a0_21) (a0_22) (a0_23) (a0_24) (a0_25) (a0_26) (a0_27) (a0_28) (a0_29) (a0_30) (a0_31) (a0_32) (a0_33) (a0_34) (a0_35) (a0_36) (a0_37) (a0_38) (a0_39) (a0_40) (a0_41) (a0_42) (a0_43) (a0_20_c) (a0_20_f) (a0_30_c) (a0_30_f) (a0_31_c) (a0_31_f) (a0_32_c) (a0_32_f) (a0_33_c) (a0_33_f) (by omega) (by omega) (by omega) (by omega) (by omega) (by omega) (by omega) h_a0_20_f (by omega)) (cwV 1 hts (gwV qw_622 qw_623 qw_624 qw_386 qw_621) rfl rfl rfl (by decide +kernel) ⟨Nat.le_of_ble_eq_true rfl, Nat.le_of_ble_eq_true rfl⟩) ⟨fun a U g9 mk q => ⟨q.1, q.2.1, va_K.moved (u := U) (U := U.calling g9 mk a) (Vm.Alike.refl U.vm) q.2.2.1, Ev.bl q.2.2.2⟩, va_recv hK hP (ci := 8) (q0 := 0) rfl rgL13_890e5ad, fun U hU hW => ⟨rfl, atB hU hPc, va_K.moved hW.alike hKc, hE.go hS (fun _ h => h.elim) hU hW⟩⟩ rfl rfl hl.1 rfl (lv_room (Nat.le_of_ble_eq_true rfl)) dX9_closure_111 ⟨Nat.le_of_ble_eq_true rfl, Nat.le_of_ble_eq_true rfl⟩)).run (fun r12 h_r12 => ?_)
      have b_r12 := i32b r12
      have qc0 : (0 : Int32).toInt = 0 := by decide
      refine W.widen (k := 0) (n := 0) (Nat.le_of_ble_eq_true rfl) (Nat.le_of_ble_eq_true rfl) ?_
      have hP9 := hP
      have hD9 := hD
      have hK9 := (rgK12_8728a0f hK)
      exact W.iret (v := r12) hx hb hr (fun t ht hW => ⟨⟨r12, r12, rfl, rfl, 0, a0_1, a0_2, a0_3, atB ht hP9, va_K.moved hW.alike hK9, hD9⟩, hS.F ht⟩) hS.2.2 dX9_closure_114
    · refine lv_tableIn (off := 98) (tgt := 115) hx hb dX9_closure_17 (by omega) (by omega) (by rw [hq3]; rfl) (by decide) ?_
      refine lv_aload_n hx hb dX9_closure_115 rfl (lv_at hl 0 rfl) ?_
      refine lv_iload_n hx hb dX9_closure_116 rfl (lv_at hl 1 rfl) ?_
      have qc0 : (0 : Int32).toInt = 0 := by decide
      have hPc := hP
      have hKc := hK
      have hDc := hD
      have hFc := freeW hDc hS hA
      refine va_calli (va_runV (As := [.int a1]) (rest := []) ⟨hx, hb, hml, hown, hts⟩ (k_X9_closes l dC dI g H.size (a0) (a1) (0) (a0_1) (a0_2) (a0_3) (a0_4) (a0_5) (a0_6) (a0_7) (a0_8) (a0_9) (a0_10) (a0_11) (a0_12) (a0_13) (a0_14) (a0_15) (a0_16) (a0_17) (a0_18) (a0_19) (a0_20) (a0_21) (a0_22) (a0_23) (a0_24) (a0_25) (a0_26) (a0_27) (a0_28) (a0_29) (a0_30) (a0_31) (a0_32) (a0_33) (a0_34) (a0_35) (a0_36) (a0_37) (a0_38) (a0_39) (a0_40) (a0_41) (a0_42) (a0_43) (a0_20_c) (a0_20_f) (a0_21_c) (a0_21_f) (a0_23_c) (a0_23_f) (a0_26_c) (a0_26_f) (a0_29_c) (a0_29_f) (a0_30_c) (a0_30_f) (a0_31_c) (a0_31_f) (a0_32_c) (a0_32_f) (a0_33_c) (a0_33_f) (a0_34_c) (a0_34_f) (a0_35_c) (a0_35_f) (a0_38_c) (a0_38_f) (by omega) (by omega) (by omega) (by omega) (by omega) (by omega) (by omega) h_a0_20_f h_a0_21_f (by assumption) (by assumption) (by omega)) (cwV 1 hts (gwV qw_626 qw_627 qw_628 qw_386 qw_625) rfl rfl rfl (by decide +kernel) ⟨Nat.le_of_ble_eq_true rfl, Nat.le_of_ble_eq_true rfl⟩) ⟨fun a U g9 mk q => ⟨q.1, q.2.1, q.2.2.1, va_K.moved (u := U) (U := U.calling g9 mk a) (Vm.Alike.refl U.vm) q.2.2.2.1, q.2.2.2.2.1, Ev.bl q.2.2.2.2.2⟩, va_recv hK hP (ci := 8) (q0 := 0) rfl rgL13_890e5ad, fun U hU hW => ⟨rfl, by rw [hU], atB hU hPc, va_K.moved hW.alike hKc, hDc.weaken (fun _ _ _ _ => trivial), hE.go hS hFc hU hW⟩⟩ rfl rfl hl.1 rfl (lv_room (Nat.le_of_ble_eq_true rfl)) dX9_closure_117 ⟨Nat.le_of_ble_eq_true rfl, Nat.le_of_ble_eq_true rfl⟩) hS (fun q _ h => hFc q h) hFc (fun r14 u13 t H1 locs ht hvm h_u13 hB hz1 hk1 hS => ?_)
      obtain ⟨za0_1_15, za0_2_16, za0_3_17, hP1, hK1, hD1⟩ := hB
      have hK1 := va_K.moved hvm.symm hK1
      have hJ9 := rgJ13_b0e94ea hP hD hk1 hFc (atH ht hP1) hD1
      clear hP hD hPc hKc hDc hFc hP1 hD1 hk1 hz1
      obtain ⟨hP, hD⟩ := hJ9
      clear hK1
      generalize H1 = H at hP hS ⊢
      refine W.widen (k := 0) (n := 0) (Nat.le_of_ble_eq_true rfl) (Nat.le_of_ble_eq_true rfl) ?_
      have h_r14 := congrArg Int32.toInt h_u13
      have b_r14 := i32b r14
      have qc0 : (0 : Int32).toInt = 0 := by decide
      refine W.widen (k := 0) (n := 0) (Nat.le_of_ble_eq_true rfl) (Nat.le_of_ble_eq_true rfl) ?_
      have hP9 := hP
      have hD9 := hD
      have hK9 := (rgK12_8728a0f hK)
      exact W.iret (v := r14) hx hb hr (fun t ht hW => ⟨⟨r14, r14, rfl, rfl, 0, za0_1_15, za0_2_16, za0_3_17, atB ht hP9, va_K.moved hW.alike hK9, hD9⟩, hS.F ht⟩) hS.2.2 dX9_closure_120
    · refine lv_tableOut (tgt := 121) hx hb dX9_closure_17 hq3 (by decide) ?_
      refine lv_bipush (v := (-2)) hx hb dX9_closure_121 (by decide) ?_
      have qcm2 : ((-2) : Int32).toInt = (-2) := by decide
      have qc0 : (0 : Int32).toInt = 0 := by decide
      refine W.widen (k := 0) (n := 0) (Nat.le_of_ble_eq_true rfl) (Nat.le_of_ble_eq_true rfl) ?_
      have hP9 := hP
      have hD9 := hD
      have hK9 := (rgK12_8728a0f hK)
      exact W.iret (v := (-2)) hx hb hr (fun t ht hW => ⟨⟨(-2), (-2), rfl, rfl, 0, a0_1, a0_2, a0_3, atB ht hP9, va_K.moved hW.alike hK9, hD9⟩, hS.F ht⟩) hS.2.2 dX9_closure_123
  · have c10_2 : r1.toInt = 0 := (cv_eq rfl (by decide)).mp c10_2
    refine lv_bipush (v := (-2)) hx hb dX9_closure_13 (by decide) ?_
    have qcm2 : ((-2) : Int32).toInt = (-2) := by decide
    have qc0 : (0 : Int32).toInt = 0 := by decide
    refine W.widen (k := 0) (n := 0) (Nat.le_of_ble_eq_true rfl) (Nat.le_of_ble_eq_true rfl) ?_
    have hP9 := hP
    have hD9 := hD
    have hK9 := (rgK12_8728a0f hK)
    exact W.iret (v := (-2)) hx hb hr (fun t ht hW => ⟨⟨(-2), (-2), rfl, rfl, 0, a0_1, a0_2, a0_3, atB ht hP9, va_K.moved hW.alike hK9, hD9⟩, hS.F ht⟩) hS.2.2 dX9_closure_15
set_option maxHeartbeats 4000000 in
set_option maxRecDepth 100000 in
theorem k_X9_term (l : Launch) (dC : Nat → ClassId) (dI : Nat → Nat → Nat) (g : Gv) (sz : Nat) (a0 : Nat) (a1 : Int32) (a2 : Int32) (a0_0 : Int32) (a0_1 : Int32) (a0_2 : Int32) (a0_3 : Int32) (a0_4 : Nat) (a0_5 : Int32) (a0_6 : Int32) (a0_7 : Int32) (a0_8 : Int32) (a0_9 : Int32) (a0_10 : Int32) (a0_11 : Int64) (a0_12 : Int32) (a0_13 : Int32) (a0_14 : Int32) (a0_15 : Int32) (a0_16 : Int32) (a0_17 : Int32) (a0_18 : Nat) (a0_19 : Nat) (a0_20 : Nat) (a0_21 : Nat) (a0_22 : Nat) (a0_23 : Nat) (a0_24 : Nat) (a0_25 : Nat) (a0_26 : Nat) (a0_27 : Nat) (a0_28 : Nat) (a0_29 : Nat) (a0_30 : Nat) (a0_31 : Nat) (a0_32 : Nat) (a0_33 : Nat) (a0_34 : Nat) (a0_35 : Nat) (a0_36 : Int64) (a0_37 : Int32) (a0_38 : Nat) (a0_39 : Nat) (a0_40 : Int32) (a0_41 : Nat) (a0_42 : Nat) (a0_43 : Nat) (a0_20_c : ClassId) (a0_20_f : Nat → Int32) (a0_21_c : ClassId) (a0_21_f : Nat → Int32) (a0_23_c : ClassId) (a0_23_f : Nat → Int32) (a0_26_c : ClassId) (a0_26_f : Nat → Int32) (a0_29_c : ClassId) (a0_29_f : Nat → Int32) (a0_30_c : ClassId) (a0_30_f : Nat → Int32) (a0_31_c : ClassId) (a0_31_f : Nat → Int32) (a0_32_c : ClassId) (a0_32_f : Nat → Int32) (a0_33_c : ClassId) (a0_33_f : Nat → Int32) (a0_34_c : ClassId) (a0_34_f : Nat → Int32) (a0_35_c : ClassId) (a0_35_f : Nat → Int32) (a0_38_c : ClassId) (a0_38_f : Nat → Int32) (h_a0_5 : 0 ≤ a0_5.toInt ∧ a0_5.toInt ≤ 1000) (h_a0_6 : 0 ≤ a0_6.toInt ∧ a0_6.toInt ≤ 1000) (h_a0_7 : 0 ≤ a0_7.toInt ∧ a0_7.toInt ≤ 1000) (h_a0_8 : 0 ≤ a0_8.toInt ∧ a0_8.toInt ≤ 1000) (h_a0_17 : 0 ≤ a0_17.toInt ∧ a0_17.toInt ≤ 1) (h_a0_37 : (-1) ≤ a0_37.toInt ∧ a0_37.toInt ≤ 23) (h_a0_40 : 0 ≤ a0_40.toInt ∧ a0_40.toInt ≤ 12) (h_a0_20_f : vr 0 24 a0_20_f) (h_a0_21_f : vr 0 12 a0_21_f) (hms : RowOk (a0_20_f 0).toInt a0_38_f 0) (hmw : WOk a0_32_f a0_33_f 0 (a0_21_f 0).toInt) : Met l yX9_term (.code yX9_term cX9_term 3 (some .int) :: TBL) ({ frames := 6, cells := 0, slots := 0, locals := 139 }) (va_Pc [.ref a0, .int a1, .int a2] (fun U => U.heap.size = sz ∧ va_P (dC, dI) vwCl [(a0, .inr (8, [.int a0_0, .int a0_1, .int a0_2, .int a0_3, .ref a0_4, .int a0_5, .int a0_6, .int a0_7, .int a0_8, .int a0_9, .int a0_10, .long a0_11, .int a0_12, .int a0_13, .int a0_14, .int a0_15, .int a0_16, .int a0_17, .ref a0_18, .ref a0_19, .ref a0_20, .ref a0_21, .ref a0_22, .ref a0_23, .ref a0_24, .ref a0_25, .ref a0_26, .ref a0_27, .ref a0_28, .ref a0_29, .ref a0_30, .ref a0_31, .ref a0_32, .ref a0_33, .ref a0_34, .ref a0_35, .long a0_36, .int a0_37, .ref a0_38, .ref a0_39, .int a0_40, .ref a0_41, .ref a0_42, .ref a0_43])), (a0_20, .inl (a0_20_c, 2, .inl a0_20_f)), (a0_21, .inl (a0_21_c, 2, .inl a0_21_f)), (a0_23, .inl (a0_23_c, 16, .inl a0_23_f)), (a0_26, .inl (a0_26_c, 8, .inl a0_26_f)), (a0_29, .inl (a0_29_c, 48, .inl a0_29_f)), (a0_30, .inl (a0_30_c, 48, .inl a0_30_f)), (a0_31, .inl (a0_31_c, 48, .inl a0_31_f)), (a0_32, .inl (a0_32_c, 24, .inl a0_32_f)), (a0_33, .inl (a0_33_c, 24, .inl a0_33_f)), (a0_34, .inl (a0_34_c, 72, .inl a0_34_f)), (a0_35, .inl (a0_35_c, 24, .inl a0_35_f)), (a0_38, .inl (a0_38_c, 176, .inl a0_38_f))] U.heap ∧ va_K (dC, dI) vwCl [(a0_20_c, .int), (a0_21_c, .int), (a0_23_c, .int), (a0_26_c, .int), (a0_29_c, .int), (a0_30_c, .int), (a0_31_c, .int), (a0_32_c, .int), (a0_33_c, .int), (a0_34_c, .int), (a0_35_c, .boolean), (a0_38_c, .int)] U ∧ va_D (fun _ => True) [(a0, .inr (8, [.int a0_0, .int a0_1, .int a0_2, .int a0_3, .ref a0_4, .int a0_5, .int a0_6, .int a0_7, .int a0_8, .int a0_9, .int a0_10, .long a0_11, .int a0_12, .int a0_13, .int a0_14, .int a0_15, .int a0_16, .int a0_17, .ref a0_18, .ref a0_19, .ref a0_20, .ref a0_21, .ref a0_22, .ref a0_23, .ref a0_24, .ref a0_25, .ref a0_26, .ref a0_27, .ref a0_28, .ref a0_29, .ref a0_30, .ref a0_31, .ref a0_32, .ref a0_33, .ref a0_34, .ref a0_35, .long a0_36, .int a0_37, .ref a0_38, .ref a0_39, .int a0_40, .ref a0_41, .ref a0_42, .ref a0_43])), (a0_20, .inl (a0_20_c, 2, .inl a0_20_f)), (a0_21, .inl (a0_21_c, 2, .inl a0_21_f)), (a0_23, .inl (a0_23_c, 16, .inl a0_23_f)), (a0_26, .inl (a0_26_c, 8, .inl a0_26_f)), (a0_29, .inl (a0_29_c, 48, .inl a0_29_f)), (a0_30, .inl (a0_30_c, 48, .inl a0_30_f)), (a0_31, .inl (a0_31_c, 48, .inl a0_31_f)), (a0_32, .inl (a0_32_c, 24, .inl a0_32_f)), (a0_33, .inl (a0_33_c, 24, .inl a0_33_f)), (a0_34, .inl (a0_34_c, 72, .inl a0_34_f)), (a0_35, .inl (a0_35_c, 24, .inl a0_35_f)), (a0_38, .inl (a0_38_c, 176, .inl a0_38_f))] ∧ Ev g (va_A [(a0, .inr (8, [.int a0_0, .int a0_1, .int a0_2, .int a0_3, .ref a0_4, .int a0_5, .int a0_6, .int a0_7, .int a0_8, .int a0_9, .int a0_10, .long a0_11, .int a0_12, .int a0_13, .int a0_14, .int a0_15, .int a0_16, .int a0_17, .ref a0_18, .ref a0_19, .ref a0_20, .ref a0_21, .ref a0_22, .ref a0_23, .ref a0_24, .ref a0_25, .ref a0_26, .ref a0_27, .ref a0_28, .ref a0_29, .ref a0_30, .ref a0_31, .ref a0_32, .ref a0_33, .ref a0_34, .ref a0_35, .long a0_36, .int a0_37, .ref a0_38, .ref a0_39, .int a0_40, .ref a0_41, .ref a0_42, .ref a0_43])), (a0_20, .inl (a0_20_c, 2, .inl a0_20_f)), (a0_21, .inl (a0_21_c, 2, .inl a0_21_f)), (a0_23, .inl (a0_23_c, 16, .inl a0_23_f)), (a0_26, .inl (a0_26_c, 8, .inl a0_26_f)), (a0_29, .inl (a0_29_c, 48, .inl a0_29_f)), (a0_30, .inl (a0_30_c, 48, .inl a0_30_f)), (a0_31, .inl (a0_31_c, 48, .inl a0_31_f)), (a0_32, .inl (a0_32_c, 24, .inl a0_32_f)), (a0_33, .inl (a0_33_c, 24, .inl a0_33_f)), (a0_34, .inl (a0_34_c, 72, .inl a0_34_f)), (a0_35, .inl (a0_35_c, 24, .inl a0_35_f)), (a0_38, .inl (a0_38_c, 176, .inl a0_38_f))] sz) U)) (va_Qi (fun (r : Int32) (u : Int32) => u = r) (fun (u : Int32) (t : State) => ∃ (za0_0 : Int32) (za0_1 : Int32) (za0_2 : Int32) (za0_3 : Int32), va_P (dC, dI) vwCl [(a0, .inr (8, [.int za0_0, .int za0_1, .int za0_2, .int za0_3, .ref a0_4, .int a0_5, .int a0_6, .int a0_7, .int a0_8, .int a0_9, .int a0_10, .long a0_11, .int a0_12, .int a0_13, .int a0_14, .int a0_15, .int a0_16, .int a0_17, .ref a0_18, .ref a0_19, .ref a0_20, .ref a0_21, .ref a0_22, .ref a0_23, .ref a0_24, .ref a0_25, .ref a0_26, .ref a0_27, .ref a0_28, .ref a0_29, .ref a0_30, .ref a0_31, .ref a0_32, .ref a0_33, .ref a0_34, .ref a0_35, .long a0_36, .int a0_37, .ref a0_38, .ref a0_39, .int a0_40, .ref a0_41, .ref a0_42, .ref a0_43])), (a0_20, .inl (a0_20_c, 2, .inl a0_20_f)), (a0_21, .inl (a0_21_c, 2, .inl a0_21_f)), (a0_23, .inl (a0_23_c, 16, .inl a0_23_f)), (a0_26, .inl (a0_26_c, 8, .inl a0_26_f)), (a0_29, .inl (a0_29_c, 48, .inl a0_29_f)), (a0_30, .inl (a0_30_c, 48, .inl a0_30_f)), (a0_31, .inl (a0_31_c, 48, .inl a0_31_f)), (a0_32, .inl (a0_32_c, 24, .inl a0_32_f)), (a0_33, .inl (a0_33_c, 24, .inl a0_33_f)), (a0_34, .inl (a0_34_c, 72, .inl a0_34_f)), (a0_35, .inl (a0_35_c, 24, .inl a0_35_f)), (a0_38, .inl (a0_38_c, 176, .inl a0_38_f))] t.heap ∧ va_K (dC, dI) vwCl [] t ∧ va_D (va_A [(a0, .inr (8, [.int a0_0, .int a0_1, .int a0_2, .int a0_3, .ref a0_4, .int a0_5, .int a0_6, .int a0_7, .int a0_8, .int a0_9, .int a0_10, .long a0_11, .int a0_12, .int a0_13, .int a0_14, .int a0_15, .int a0_16, .int a0_17, .ref a0_18, .ref a0_19, .ref a0_20, .ref a0_21, .ref a0_22, .ref a0_23, .ref a0_24, .ref a0_25, .ref a0_26, .ref a0_27, .ref a0_28, .ref a0_29, .ref a0_30, .ref a0_31, .ref a0_32, .ref a0_33, .ref a0_34, .ref a0_35, .long a0_36, .int a0_37, .ref a0_38, .ref a0_39, .int a0_40, .ref a0_41, .ref a0_42, .ref a0_43])), (a0_20, .inl (a0_20_c, 2, .inl a0_20_f)), (a0_21, .inl (a0_21_c, 2, .inl a0_21_f)), (a0_23, .inl (a0_23_c, 16, .inl a0_23_f)), (a0_26, .inl (a0_26_c, 8, .inl a0_26_f)), (a0_29, .inl (a0_29_c, 48, .inl a0_29_f)), (a0_30, .inl (a0_30_c, 48, .inl a0_30_f)), (a0_31, .inl (a0_31_c, 48, .inl a0_31_f)), (a0_32, .inl (a0_32_c, 24, .inl a0_32_f)), (a0_33, .inl (a0_33_c, 24, .inl a0_33_f)), (a0_34, .inl (a0_34_c, 72, .inl a0_34_f)), (a0_35, .inl (a0_35_c, 24, .inl a0_35_f)), (a0_38, .inl (a0_38_c, 176, .inl a0_38_f))] sz) [(a0, .inr (8, [.int za0_0, .int za0_1, .int za0_2, .int za0_3, .ref a0_4, .int a0_5, .int a0_6, .int a0_7, .int a0_8, .int a0_9, .int a0_10, .long a0_11, .int a0_12, .int a0_13, .int a0_14, .int a0_15, .int a0_16, .int a0_17, .ref a0_18, .ref a0_19, .ref a0_20, .ref a0_21, .ref a0_22, .ref a0_23, .ref a0_24, .ref a0_25, .ref a0_26, .ref a0_27, .ref a0_28, .ref a0_29, .ref a0_30, .ref a0_31, .ref a0_32, .ref a0_33, .ref a0_34, .ref a0_35, .long a0_36, .int a0_37, .ref a0_38, .ref a0_39, .int a0_40, .ref a0_41, .ref a0_42, .ref a0_43])), (a0_20, .inl (a0_20_c, 2, .inl a0_20_f)), (a0_21, .inl (a0_21_c, 2, .inl a0_21_f)), (a0_23, .inl (a0_23_c, 16, .inl a0_23_f)), (a0_26, .inl (a0_26_c, 8, .inl a0_26_f)), (a0_29, .inl (a0_29_c, 48, .inl a0_29_f)), (a0_30, .inl (a0_30_c, 48, .inl a0_30_f)), (a0_31, .inl (a0_31_c, 48, .inl a0_31_f)), (a0_32, .inl (a0_32_c, 24, .inl a0_32_f)), (a0_33, .inl (a0_33_c, 24, .inl a0_33_f)), (a0_34, .inl (a0_34_c, 72, .inl a0_34_f)), (a0_35, .inl (a0_35_c, 24, .inl a0_35_f)), (a0_38, .inl (a0_38_c, 176, .inl a0_38_f))]) (va_A [(a0, .inr (8, [.int a0_0, .int a0_1, .int a0_2, .int a0_3, .ref a0_4, .int a0_5, .int a0_6, .int a0_7, .int a0_8, .int a0_9, .int a0_10, .long a0_11, .int a0_12, .int a0_13, .int a0_14, .int a0_15, .int a0_16, .int a0_17, .ref a0_18, .ref a0_19, .ref a0_20, .ref a0_21, .ref a0_22, .ref a0_23, .ref a0_24, .ref a0_25, .ref a0_26, .ref a0_27, .ref a0_28, .ref a0_29, .ref a0_30, .ref a0_31, .ref a0_32, .ref a0_33, .ref a0_34, .ref a0_35, .long a0_36, .int a0_37, .ref a0_38, .ref a0_39, .int a0_40, .ref a0_41, .ref a0_42, .ref a0_43])), (a0_20, .inl (a0_20_c, 2, .inl a0_20_f)), (a0_21, .inl (a0_21_c, 2, .inl a0_21_f)), (a0_23, .inl (a0_23_c, 16, .inl a0_23_f)), (a0_26, .inl (a0_26_c, 8, .inl a0_26_f)), (a0_29, .inl (a0_29_c, 48, .inl a0_29_f)), (a0_30, .inl (a0_30_c, 48, .inl a0_30_f)), (a0_31, .inl (a0_31_c, 48, .inl a0_31_f)), (a0_32, .inl (a0_32_c, 24, .inl a0_32_f)), (a0_33, .inl (a0_33_c, 24, .inl a0_33_f)), (a0_34, .inl (a0_34_c, 72, .inl a0_34_f)), (a0_35, .inl (a0_35_c, 24, .inl a0_35_f)), (a0_38, .inl (a0_38_c, 176, .inl a0_38_f))] sz)) 0 0 (va_A [(a0, .inr (8, [.int a0_0, .int a0_1, .int a0_2, .int a0_3, .ref a0_4, .int a0_5, .int a0_6, .int a0_7, .int a0_8, .int a0_9, .int a0_10, .long a0_11, .int a0_12, .int a0_13, .int a0_14, .int a0_15, .int a0_16, .int a0_17, .ref a0_18, .ref a0_19, .ref a0_20, .ref a0_21, .ref a0_22, .ref a0_23, .ref a0_24, .ref a0_25, .ref a0_26, .ref a0_27, .ref a0_28, .ref a0_29, .ref a0_30, .ref a0_31, .ref a0_32, .ref a0_33, .ref a0_34, .ref a0_35, .long a0_36, .int a0_37, .ref a0_38, .ref a0_39, .int a0_40, .ref a0_41, .ref a0_42, .ref a0_43])), (a0_20, .inl (a0_20_c, 2, .inl a0_20_f)), (a0_21, .inl (a0_21_c, 2, .inl a0_21_f)), (a0_23, .inl (a0_23_c, 16, .inl a0_23_f)), (a0_26, .inl (a0_26_c, 8, .inl a0_26_f)), (a0_29, .inl (a0_29_c, 48, .inl a0_29_f)), (a0_30, .inl (a0_30_c, 48, .inl a0_30_f)), (a0_31, .inl (a0_31_c, 48, .inl a0_31_f)), (a0_32, .inl (a0_32_c, 24, .inl a0_32_f)), (a0_33, .inl (a0_33_c, 24, .inl a0_33_f)), (a0_34, .inl (a0_34_c, 72, .inl a0_34_f)), (a0_35, .inl (a0_35_c, 24, .inl a0_35_f)), (a0_38, .inl (a0_38_c, 176, .inl a0_38_f))] sz) := by
  refine Met.ofW (cc := cX9_term) (maxL := 3) (ret := (some .int)) (by decide) rfl ?_
  intro p e s m args below meth c s₁ B hml hv
  obtain ⟨rfl, hsz, hP, hK, hD0, hE⟩ := hv
  have hx := B.exec
  have hb := B.bytes
  have hr := B.returns
  have hts0 := atoms_spec (ws := (.code yX9_term cX9_term 3 (some .int) :: TBL)) B.pre
  have hts := fun (w : Cond) (h : w ∈ TBL) => hts0 w (List.mem_cons_of_mem _ h)
  have hown : s.vm.findClass RX9 = some m.cls := findClass_of_methodNamed B.named
  have hlocks := B.notSynchronized
  have hN := hE.1
  subst hsz
  have hD := hD0.self (sz := s.heap.size)
  generalize hAe : va_A [(a0, .inr (8, [.int a0_0, .int a0_1, .int a0_2, .int a0_3, .ref a0_4, .int a0_5, .int a0_6, .int a0_7, .int a0_8, .int a0_9, .int a0_10, .long a0_11, .int a0_12, .int a0_13, .int a0_14, .int a0_15, .int a0_16, .int a0_17, .ref a0_18, .ref a0_19, .ref a0_20, .ref a0_21, .ref a0_22, .ref a0_23, .ref a0_24, .ref a0_25, .ref a0_26, .ref a0_27, .ref a0_28, .ref a0_29, .ref a0_30, .ref a0_31, .ref a0_32, .ref a0_33, .ref a0_34, .ref a0_35, .long a0_36, .int a0_37, .ref a0_38, .ref a0_39, .int a0_40, .ref a0_41, .ref a0_42, .ref a0_43])), (a0_20, .inl (a0_20_c, 2, .inl a0_20_f)), (a0_21, .inl (a0_21_c, 2, .inl a0_21_f)), (a0_23, .inl (a0_23_c, 16, .inl a0_23_f)), (a0_26, .inl (a0_26_c, 8, .inl a0_26_f)), (a0_29, .inl (a0_29_c, 48, .inl a0_29_f)), (a0_30, .inl (a0_30_c, 48, .inl a0_30_f)), (a0_31, .inl (a0_31_c, 48, .inl a0_31_f)), (a0_32, .inl (a0_32_c, 24, .inl a0_32_f)), (a0_33, .inl (a0_33_c, 24, .inl a0_33_f)), (a0_34, .inl (a0_34_c, 72, .inl a0_34_f)), (a0_35, .inl (a0_35_c, 24, .inl a0_35_f)), (a0_38, .inl (a0_38_c, 176, .inl a0_38_f))] s.heap.size = A at hD hE ⊢
  have hA : ∀ q : Nat, s.heap.size ≤ q → A q := fun q h => by rw [← hAe]; exact Or.inr h
  have hS : va_S A s.heap s.heap [] := va_S.rf
  replace hP : va_P (dC, dI) vwCl [(a0, .inr (8, [.int a0_0, .int a0_1, .int a0_2, .int a0_3, .ref a0_4, .int a0_5, .int a0_6, .int a0_7, .int a0_8, .int a0_9, .int a0_10, .long a0_11, .int a0_12, .int a0_13, .int a0_14, .int a0_15, .int a0_16, .int a0_17, .ref a0_18, .ref a0_19, .ref a0_20, .ref a0_21, .ref a0_22, .ref a0_23, .ref a0_24, .ref a0_25, .ref a0_26, .ref a0_27, .ref a0_28, .ref a0_29, .ref a0_30, .ref a0_31, .ref a0_32, .ref a0_33, .ref a0_34, .ref a0_35, .long a0_36, .int a0_37, .ref a0_38, .ref a0_39, .int a0_40, .ref a0_41, .ref a0_42, .ref a0_43])), (a0_20, .inl (a0_20_c, 2, .inl a0_20_f)), (a0_21, .inl (a0_21_c, 2, .inl a0_21_f)), (a0_23, .inl (a0_23_c, 16, .inl a0_23_f)), (a0_26, .inl (a0_26_c, 8, .inl a0_26_f)), (a0_29, .inl (a0_29_c, 48, .inl a0_29_f)), (a0_30, .inl (a0_30_c, 48, .inl a0_30_f)), (a0_31, .inl (a0_31_c, 48, .inl a0_31_f)), (a0_32, .inl (a0_32_c, 24, .inl a0_32_f)), (a0_33, .inl (a0_33_c, 24, .inl a0_33_f)), (a0_34, .inl (a0_34_c, 72, .inl a0_34_f)), (a0_35, .inl (a0_35_c, 24, .inl a0_35_f)), (a0_38, .inl (a0_38_c, 176, .inl a0_38_f))] s.heap := hP
  have hl := lv_entry ([.ref a0, .int a1, .int a2]) (n := 3) (Nat.le_of_ble_eq_true rfl)
  rw [lg_entry_eq]
  generalize (lg_sl ([.ref a0, .int a1, .int a2]) ++ List.replicate (3 - (lg_sl ([.ref a0, .int a1, .int a2])).length) Slot.unset).toArray = ls at hl ⊢
  have hl : lv_has ls 3 [(0, .ref a0), (1, .int a1), (2, .int a2)] := hl
  have b_a1 := i32b a1
  have b_a2 := i32b a2
  have b_a0_0 := i32b a0_0
  have b_a0_1 := i32b a0_1
  have b_a0_2 := i32b a0_2
  have b_a0_3 := i32b a0_3
  have b_a0_9 := i32b a0_9
  have b_a0_10 := i32b a0_10
  have b_a0_12 := i32b a0_12
  have b_a0_13 := i32b a0_13
  have b_a0_14 := i32b a0_14
  have b_a0_15 := i32b a0_15
  have b_a0_16 := i32b a0_16
  have hp20 := vr_at h_a0_20_f (k := 0) rfl
  have hp21 := vr_at h_a0_21_f (k := 0) rfl
  refine lv_aload_n hx hb dX9_term_0 rfl (lv_at hl 0 rfl) ?_
  refine lv_iconst (v := 0) hx hb dX9_term_1 (by decide) ?_
  refine va_put (D := (dC, dI)) (ci := 8) (v := .int 0) (ty := .int) (C := RX9) (T := TX9) (N := 44) hx hb hts inlX9 tyX9 tyX9_ok nmX9 hown hK hP hD hS 0 rgL13_890e5ad rfl 0 (by decide) (hts (.fieldLink RX9 85 "ClosedUntilModel" "thrown" "I") qw_408) (fun _ h9 => h9) rfl (by decide +kernel) rfl rfl (Nat.le_of_ble_eq_true rfl) dX9_term_2 (fun H locs hP9 hD9 hS9 => ?_)
  clear hP hD hS
  obtain ⟨hP, hD⟩ := rgS13_d750318 (e := (a0, .inr (8, [.int 0, .int a0_1, .int a0_2, .int a0_3, .ref a0_4, .int a0_5, .int a0_6, .int a0_7, .int a0_8, .int a0_9, .int a0_10, .long a0_11, .int a0_12, .int a0_13, .int a0_14, .int a0_15, .int a0_16, .int a0_17, .ref a0_18, .ref a0_19, .ref a0_20, .ref a0_21, .ref a0_22, .ref a0_23, .ref a0_24, .ref a0_25, .ref a0_26, .ref a0_27, .ref a0_28, .ref a0_29, .ref a0_30, .ref a0_31, .ref a0_32, .ref a0_33, .ref a0_34, .ref a0_35, .long a0_36, .int a0_37, .ref a0_38, .ref a0_39, .int a0_40, .ref a0_41, .ref a0_42, .ref a0_43]))) hP9 hD9 rfl
  have hS := hS9; clear hP9 hD9 hS9
  refine lv_aload_n hx hb dX9_term_5 rfl (lv_at hl 0 rfl) ?_
  refine lv_iload_n hx hb dX9_term_6 rfl (lv_at hl 1 rfl) ?_
  have qc0 : (0 : Int32).toInt = 0 := by decide
  have hPc := (rgP13_4a0220d hP)
  have hKc := (rgK12_1b900a9 hK)
  refine vp_callSi ((va_runV (As := [.int a1]) (rest := []) ⟨hx, hb, hml, hown, hts⟩ (k_X9_isClosure l dC dI g (a0) (a1) (0) (a0_1) (a0_2) (a0_3) (a0_4) (a0_5) (a0_6) (a0_7) (a0_8) (a0_9) (a0_10) (a0_11) (a0_12) (a0_13) (a0_14) (a0_15) (a0_16) (a0_17) (a0_18) (a0_19) (a0_20) (a0_21) (a0_22) (a0_23) (a0_24) (a0_25) (a0_26) (a0_27) (a0_28) (a0_29) (a0_30) (a0_31) (a0_32) (a0_33) (a0_34) (a0_35) (a0_36) (a0_37) (a0_38) (a0_39) (a0_40) (a0_41) (a0_42) (a0_43) (a0_21_c) (a0_21_f) (by omega) (by omega) (by omega) (by omega) (by omega) (by omega) (by omega) h_a0_21_f) (cwV 1 hts (gwV qw_618 qw_619 qw_620 qw_386 qw_617) rfl rfl rfl (by decide +kernel) ⟨Nat.le_of_ble_eq_true rfl, Nat.le_of_ble_eq_true rfl⟩) ⟨fun a U g9 mk q => ⟨q.1, q.2.1, va_K.moved (u := U) (U := U.calling g9 mk a) (Vm.Alike.refl U.vm) q.2.2.1, Ev.bl q.2.2.2⟩, va_recv hK hP (ci := 8) (q0 := 0) rfl rgL13_890e5ad, fun U hU hW => ⟨rfl, atB hU hPc, va_K.moved hW.alike hKc, hE.go hS (fun _ h => h.elim) hU hW⟩⟩ rfl rfl hl.1 rfl (lv_room (Nat.le_of_ble_eq_true rfl)) dX9_term_7 ⟨Nat.le_of_ble_eq_true rfl, Nat.le_of_ble_eq_true rfl⟩)).run (fun r1 h_r1 => ?_)
  have h_r1 : (r1 = 0 ∨ r1 = 1) ∧ ((r1.toInt = 1 ∧ 0 ≤ a1.toInt ∧ a1.toInt < (a0_21_f 0).toInt) ∨ r1.toInt = 0) := h_r1
  have b_r1 := z01 (show r1 = 0 ∨ r1 = 1 from h_r1.1)
  refine lv_if_eq (tgt := 39) hx hb dX9_term_10 (by decide) (fun c10_2 => ?_) (fun c10_2 => ?_)
  · have c10_2 : r1.toInt = 0 := (cv_eq rfl (by decide)).mp c10_2
    refine lv_iconst (v := (-1)) hx hb dX9_term_39 (by decide) ?_
    have qcm1 : ((-1) : Int32).toInt = (-1) := by decide
    have qc0 : (0 : Int32).toInt = 0 := by decide
    refine W.widen (k := 0) (n := 0) (Nat.le_of_ble_eq_true rfl) (Nat.le_of_ble_eq_true rfl) ?_
    have hP9 := hP
    have hD9 := hD
    have hK9 := (rgK12_8728a0f hK)
    exact W.iret (v := (-1)) hx hb hr (fun t ht hW => ⟨⟨(-1), (-1), rfl, rfl, 0, a0_1, a0_2, a0_3, atB ht hP9, va_K.moved hW.alike hK9, hD9⟩, hS.F ht⟩) hS.2.2 dX9_term_40
  · have c10_2 : ¬ (r1.toInt = 0) := mt (cv_eq rfl (by decide)).mpr c10_2
    refine lv_aload_n hx hb dX9_term_13 rfl (lv_at hl 0 rfl) ?_
    refine lv_iload_n hx hb dX9_term_14 rfl (lv_at hl 2 rfl) ?_
    have qc0 : (0 : Int32).toInt = 0 := by decide
    have hPc := (rgP13_e9f0d34 hP)
    have hKc := (rgK12_2fc2b8d hK)
    refine vp_callSi ((va_runV (As := [.int a2]) (rest := []) ⟨hx, hb, hml, hown, hts⟩ (k_X9_isPiece l dC dI g (a0) (a2) (0) (a0_1) (a0_2) (a0_3) (a0_4) (a0_5) (a0_6) (a0_7) (a0_8) (a0_9) (a0_10) (a0_11) (a0_12) (a0_13) (a0_14) (a0_15) (a0_16) (a0_17) (a0_18) (a0_19) (a0_20) (a0_21) (a0_22) (a0_23) (a0_24) (a0_25) (a0_26) (a0_27) (a0_28) (a0_29) (a0_30) (a0_31) (a0_32) (a0_33) (a0_34) (a0_35) (a0_36) (a0_37) (a0_38) (a0_39) (a0_40) (a0_41) (a0_42) (a0_43) (a0_20_c) (a0_20_f) (by omega) (by omega) (by omega) (by omega) (by omega) (by omega) (by omega) h_a0_20_f) (cwV 1 hts (gwV qw_602 qw_603 qw_604 qw_386 qw_601) rfl rfl rfl (by decide +kernel) ⟨Nat.le_of_ble_eq_true rfl, Nat.le_of_ble_eq_true rfl⟩) ⟨fun a U g9 mk q => ⟨q.1, q.2.1, va_K.moved (u := U) (U := U.calling g9 mk a) (Vm.Alike.refl U.vm) q.2.2.1, Ev.bl q.2.2.2⟩, va_recv hK hP (ci := 8) (q0 := 0) rfl rgL13_890e5ad, fun U hU hW => ⟨rfl, atB hU hPc, va_K.moved hW.alike hKc, hE.go hS (fun _ h => h.elim) hU hW⟩⟩ rfl rfl hl.1 rfl (lv_room (Nat.le_of_ble_eq_true rfl)) dX9_term_15 ⟨Nat.le_of_ble_eq_true rfl, Nat.le_of_ble_eq_true rfl⟩)).run (fun r3 h_r3 => ?_)
    have h_r3 : (r3 = 0 ∨ r3 = 1) ∧ ((r3.toInt = 1 ∧ 0 ≤ a2.toInt ∧ a2.toInt < (a0_20_f 0).toInt) ∨ r3.toInt = 0) := h_r3
    have b_r3 := z01 (show r3 = 0 ∨ r3 = 1 from h_r3.1)
    refine lv_if_eq (tgt := 39) hx hb dX9_term_18 (by decide) (fun c18_4 => ?_) (fun c18_4 => ?_)
    · have c18_4 : r3.toInt = 0 := (cv_eq rfl (by decide)).mp c18_4
      refine lv_iconst (v := (-1)) hx hb dX9_term_39 (by decide) ?_
      have qcm1 : ((-1) : Int32).toInt = (-1) := by decide
      have qc0 : (0 : Int32).toInt = 0 := by decide
      refine W.widen (k := 0) (n := 0) (Nat.le_of_ble_eq_true rfl) (Nat.le_of_ble_eq_true rfl) ?_
      have hP9 := hP
      have hD9 := hD
      have hK9 := (rgK12_8728a0f hK)
      exact W.iret (v := (-1)) hx hb hr (fun t ht hW => ⟨⟨(-1), (-1), rfl, rfl, 0, a0_1, a0_2, a0_3, atB ht hP9, va_K.moved hW.alike hK9, hD9⟩, hS.F ht⟩) hS.2.2 dX9_term_40
    · have c18_4 : ¬ (r3.toInt = 0) := mt (cv_eq rfl (by decide)).mpr c18_4
      refine lv_aload_n hx hb dX9_term_21 rfl (lv_at hl 0 rfl) ?_
      refine lv_iload_n hx hb dX9_term_22 rfl (lv_at hl 1 rfl) ?_
      refine lv_iload_n hx hb dX9_term_23 rfl (lv_at hl 2 rfl) ?_
      have qc0 : (0 : Int32).toInt = 0 := by decide
      have hPc := (rgP13_64d05c0 hP)
      have hKc := (rgK12_c9eba68 hK)
      refine vp_callSi ((va_runV (As := [.int a1, .int a2]) (rest := []) ⟨hx, hb, hml, hown, hts⟩ (k_X9_isTarget l dC dI g (a0) (a1) (a2) (0) (a0_1) (a0_2) (a0_3) (a0_4) (a0_5) (a0_6) (a0_7) (a0_8) (a0_9) (a0_10) (a0_11) (a0_12) (a0_13) (a0_14) (a0_15) (a0_16) (a0_17) (a0_18) (a0_19) (a0_20) (a0_21) (a0_22) (a0_23) (a0_24) (a0_25) (a0_26) (a0_27) (a0_28) (a0_29) (a0_30) (a0_31) (a0_32) (a0_33) (a0_34) (a0_35) (a0_36) (a0_37) (a0_38) (a0_39) (a0_40) (a0_41) (a0_42) (a0_43) (a0_30_c) (a0_30_f) (a0_31_c) (a0_31_f) (a0_32_c) (a0_32_f) (a0_33_c) (a0_33_f) (by omega) (by omega) (by omega) (by omega) (by omega) (by omega) (by omega) (by omega) (by omega)) (cwV 2 hts (gwV qw_511 qw_512 qw_513 qw_386 qw_510) rfl rfl rfl (by decide +kernel) ⟨Nat.le_of_ble_eq_true rfl, Nat.le_of_ble_eq_true rfl⟩) ⟨fun a U g9 mk q => ⟨q.1, q.2.1, va_K.moved (u := U) (U := U.calling g9 mk a) (Vm.Alike.refl U.vm) q.2.2.1, Ev.bl q.2.2.2⟩, va_recv hK hP (ci := 8) (q0 := 0) rfl rgL13_890e5ad, fun U hU hW => ⟨rfl, atB hU hPc, va_K.moved hW.alike hKc, hE.go hS (fun _ h => h.elim) hU hW⟩⟩ rfl rfl hl.1 rfl (lv_room (Nat.le_of_ble_eq_true rfl)) dX9_term_24 ⟨Nat.le_of_ble_eq_true rfl, Nat.le_of_ble_eq_true rfl⟩)).run (fun r5 h_r5 => ?_)
      have h_r5 : (r5 = 0 ∨ r5 = 1) := h_r5
      have b_r5 := z01 (show r5 = 0 ∨ r5 = 1 from h_r5)
      refine lv_if_eq (tgt := 39) hx hb dX9_term_27 (by decide) (fun c27_6 => ?_) (fun c27_6 => ?_)
      · have c27_6 : r5.toInt = 0 := (cv_eq rfl (by decide)).mp c27_6
        refine lv_iconst (v := (-1)) hx hb dX9_term_39 (by decide) ?_
        have qcm1 : ((-1) : Int32).toInt = (-1) := by decide
        have qc0 : (0 : Int32).toInt = 0 := by decide
        refine W.widen (k := 0) (n := 0) (Nat.le_of_ble_eq_true rfl) (Nat.le_of_ble_eq_true rfl) ?_
        have hP9 := hP
        have hD9 := hD
        have hK9 := (rgK12_8728a0f hK)
        exact W.iret (v := (-1)) hx hb hr (fun t ht hW => ⟨⟨(-1), (-1), rfl, rfl, 0, a0_1, a0_2, a0_3, atB ht hP9, va_K.moved hW.alike hK9, hD9⟩, hS.F ht⟩) hS.2.2 dX9_term_40
      · have c27_6 : ¬ (r5.toInt = 0) := mt (cv_eq rfl (by decide)).mpr c27_6
        refine lv_aload_n hx hb dX9_term_30 rfl (lv_at hl 0 rfl) ?_
        refine lv_iload_n hx hb dX9_term_31 rfl (lv_at hl 1 rfl) ?_
        refine lv_iload_n hx hb dX9_term_32 rfl (lv_at hl 2 rfl) ?_
        have qc0 : (0 : Int32).toInt = 0 := by decide
        have hPc := (rgP13_38a12b7 hP)
        have hKc := (rgK12_c22815d hK)
        have hDc := (rgD13_9a4027d hD)
        have hFc := freeW hDc hS hA
        refine va_calli (va_runV (As := [.int a1, .int a2]) (rest := []) ⟨hx, hb, hml, hown, hts⟩ (k_X9_termOf l dC dI g H.size (a0) (a1) (a2) (0) (a0_1) (a0_2) (a0_3) (a0_4) (a0_5) (a0_6) (a0_7) (a0_8) (a0_9) (a0_10) (a0_11) (a0_12) (a0_13) (a0_14) (a0_15) (a0_16) (a0_17) (a0_18) (a0_19) (a0_20) (a0_21) (a0_22) (a0_23) (a0_24) (a0_25) (a0_26) (a0_27) (a0_28) (a0_29) (a0_30) (a0_31) (a0_32) (a0_33) (a0_34) (a0_35) (a0_36) (a0_37) (a0_38) (a0_39) (a0_40) (a0_41) (a0_42) (a0_43) (a0_23_c) (a0_23_f) (a0_26_c) (a0_26_f) (a0_29_c) (a0_29_f) (a0_32_c) (a0_32_f) (a0_33_c) (a0_33_f) (a0_34_c) (a0_34_f) (a0_35_c) (a0_35_f) (a0_38_c) (a0_38_f) ((a0_21_f 0).toInt) (by omega) (by omega) (by omega) (by omega) (by omega) (by omega) (by omega) (by omega) (by assumption) (by omega) (by omega) (by first | assumption | exact hms.2)) (cwV 2 hts (gwV qw_528 qw_529 qw_530 qw_386 qw_527) rfl rfl rfl (by decide +kernel) ⟨Nat.le_of_ble_eq_true rfl, Nat.le_of_ble_eq_true rfl⟩) ⟨fun a U g9 mk q => ⟨q.1, q.2.1, q.2.2.1, va_K.moved (u := U) (U := U.calling g9 mk a) (Vm.Alike.refl U.vm) q.2.2.2.1, q.2.2.2.2.1, Ev.bl q.2.2.2.2.2⟩, va_recv hK hP (ci := 8) (q0 := 0) rfl rgL13_890e5ad, fun U hU hW => ⟨rfl, by rw [hU], atB hU hPc, va_K.moved hW.alike hKc, hDc.weaken (fun _ _ _ _ => trivial), hE.go hS hFc hU hW⟩⟩ rfl rfl hl.1 rfl (lv_room (Nat.le_of_ble_eq_true rfl)) dX9_term_33 ⟨Nat.le_of_ble_eq_true rfl, Nat.le_of_ble_eq_true rfl⟩) hS (fun q _ h => hFc q h) hFc (fun r8 u7 t H1 locs ht hvm h_u7 hB hz1 hk1 hS => ?_)
        obtain ⟨za0_1_9, za0_2_10, za0_3_11, hP1, hK1, hD1⟩ := hB
        have hK1 := va_K.moved hvm.symm hK1
        have hJ9 := rgJ13_3153061 hP hD hk1 hFc (atH ht hP1) hD1
        clear hP hD hPc hKc hDc hFc hP1 hD1 hk1 hz1
        obtain ⟨hP, hD⟩ := hJ9
        clear hK1
        generalize H1 = H at hP hS ⊢
        refine W.widen (k := 0) (n := 0) (Nat.le_of_ble_eq_true rfl) (Nat.le_of_ble_eq_true rfl) ?_
        have h_r8 := congrArg Int32.toInt h_u7
        have b_r8 := i32b r8
        refine lv_goto (tgt := 40) hx hb dX9_term_36 (by decide) ?_
        have qc0 : (0 : Int32).toInt = 0 := by decide
        refine W.widen (k := 0) (n := 0) (Nat.le_of_ble_eq_true rfl) (Nat.le_of_ble_eq_true rfl) ?_
        have hP9 := hP
        have hD9 := hD
        have hK9 := (rgK12_8728a0f hK)
        exact W.iret (v := r8) hx hb hr (fun t ht hW => ⟨⟨r8, r8, rfl, rfl, 0, za0_1_9, za0_2_10, za0_3_11, atB ht hP9, va_K.moved hW.alike hK9, hD9⟩, hS.F ht⟩) hS.2.2 dX9_term_40
set_option maxHeartbeats 4000000 in
set_option maxRecDepth 100000 in
theorem k_X9_ends (l : Launch) (dC : Nat → ClassId) (dI : Nat → Nat → Nat) (g : Gv) (sz : Nat) (a0 : Nat) (a1 : Int32) (a2 : Int32) (a0_0 : Int32) (a0_1 : Int32) (a0_2 : Int32) (a0_3 : Int32) (a0_4 : Nat) (a0_5 : Int32) (a0_6 : Int32) (a0_7 : Int32) (a0_8 : Int32) (a0_9 : Int32) (a0_10 : Int32) (a0_11 : Int64) (a0_12 : Int32) (a0_13 : Int32) (a0_14 : Int32) (a0_15 : Int32) (a0_16 : Int32) (a0_17 : Int32) (a0_18 : Nat) (a0_19 : Nat) (a0_20 : Nat) (a0_21 : Nat) (a0_22 : Nat) (a0_23 : Nat) (a0_24 : Nat) (a0_25 : Nat) (a0_26 : Nat) (a0_27 : Nat) (a0_28 : Nat) (a0_29 : Nat) (a0_30 : Nat) (a0_31 : Nat) (a0_32 : Nat) (a0_33 : Nat) (a0_34 : Nat) (a0_35 : Nat) (a0_36 : Int64) (a0_37 : Int32) (a0_38 : Nat) (a0_39 : Nat) (a0_40 : Int32) (a0_41 : Nat) (a0_42 : Nat) (a0_43 : Nat) (a0_20_c : ClassId) (a0_20_f : Nat → Int32) (a0_21_c : ClassId) (a0_21_f : Nat → Int32) (a0_23_c : ClassId) (a0_23_f : Nat → Int32) (a0_26_c : ClassId) (a0_26_f : Nat → Int32) (a0_29_c : ClassId) (a0_29_f : Nat → Int32) (a0_30_c : ClassId) (a0_30_f : Nat → Int32) (a0_31_c : ClassId) (a0_31_f : Nat → Int32) (a0_32_c : ClassId) (a0_32_f : Nat → Int32) (a0_33_c : ClassId) (a0_33_f : Nat → Int32) (a0_34_c : ClassId) (a0_34_f : Nat → Int32) (a0_35_c : ClassId) (a0_35_f : Nat → Int32) (a0_38_c : ClassId) (a0_38_f : Nat → Int32) (h_a0_5 : 0 ≤ a0_5.toInt ∧ a0_5.toInt ≤ 1000) (h_a0_6 : 0 ≤ a0_6.toInt ∧ a0_6.toInt ≤ 1000) (h_a0_7 : 0 ≤ a0_7.toInt ∧ a0_7.toInt ≤ 1000) (h_a0_8 : 0 ≤ a0_8.toInt ∧ a0_8.toInt ≤ 1000) (h_a0_17 : 0 ≤ a0_17.toInt ∧ a0_17.toInt ≤ 1) (h_a0_37 : (-1) ≤ a0_37.toInt ∧ a0_37.toInt ≤ 23) (h_a0_40 : 0 ≤ a0_40.toInt ∧ a0_40.toInt ≤ 12) (h_a0_20_f : vr 0 24 a0_20_f) (h_a0_21_f : vr 0 12 a0_21_f) (hms : RowOk (a0_20_f 0).toInt a0_38_f 0) (hmw : WOk a0_32_f a0_33_f 0 (a0_21_f 0).toInt) : Met l yX9_ends (.code yX9_ends cX9_ends 3 (some .int) :: TBL) ({ frames := 7, cells := 0, slots := 0, locals := 164 }) (va_Pc [.ref a0, .int a1, .int a2] (fun U => U.heap.size = sz ∧ va_P (dC, dI) vwCl [(a0, .inr (8, [.int a0_0, .int a0_1, .int a0_2, .int a0_3, .ref a0_4, .int a0_5, .int a0_6, .int a0_7, .int a0_8, .int a0_9, .int a0_10, .long a0_11, .int a0_12, .int a0_13, .int a0_14, .int a0_15, .int a0_16, .int a0_17, .ref a0_18, .ref a0_19, .ref a0_20, .ref a0_21, .ref a0_22, .ref a0_23, .ref a0_24, .ref a0_25, .ref a0_26, .ref a0_27, .ref a0_28, .ref a0_29, .ref a0_30, .ref a0_31, .ref a0_32, .ref a0_33, .ref a0_34, .ref a0_35, .long a0_36, .int a0_37, .ref a0_38, .ref a0_39, .int a0_40, .ref a0_41, .ref a0_42, .ref a0_43])), (a0_20, .inl (a0_20_c, 2, .inl a0_20_f)), (a0_21, .inl (a0_21_c, 2, .inl a0_21_f)), (a0_23, .inl (a0_23_c, 16, .inl a0_23_f)), (a0_26, .inl (a0_26_c, 8, .inl a0_26_f)), (a0_29, .inl (a0_29_c, 48, .inl a0_29_f)), (a0_30, .inl (a0_30_c, 48, .inl a0_30_f)), (a0_31, .inl (a0_31_c, 48, .inl a0_31_f)), (a0_32, .inl (a0_32_c, 24, .inl a0_32_f)), (a0_33, .inl (a0_33_c, 24, .inl a0_33_f)), (a0_34, .inl (a0_34_c, 72, .inl a0_34_f)), (a0_35, .inl (a0_35_c, 24, .inl a0_35_f)), (a0_38, .inl (a0_38_c, 176, .inl a0_38_f))] U.heap ∧ va_K (dC, dI) vwCl [(a0_20_c, .int), (a0_21_c, .int), (a0_23_c, .int), (a0_26_c, .int), (a0_29_c, .int), (a0_30_c, .int), (a0_31_c, .int), (a0_32_c, .int), (a0_33_c, .int), (a0_34_c, .int), (a0_35_c, .boolean), (a0_38_c, .int)] U ∧ va_D (fun _ => True) [(a0, .inr (8, [.int a0_0, .int a0_1, .int a0_2, .int a0_3, .ref a0_4, .int a0_5, .int a0_6, .int a0_7, .int a0_8, .int a0_9, .int a0_10, .long a0_11, .int a0_12, .int a0_13, .int a0_14, .int a0_15, .int a0_16, .int a0_17, .ref a0_18, .ref a0_19, .ref a0_20, .ref a0_21, .ref a0_22, .ref a0_23, .ref a0_24, .ref a0_25, .ref a0_26, .ref a0_27, .ref a0_28, .ref a0_29, .ref a0_30, .ref a0_31, .ref a0_32, .ref a0_33, .ref a0_34, .ref a0_35, .long a0_36, .int a0_37, .ref a0_38, .ref a0_39, .int a0_40, .ref a0_41, .ref a0_42, .ref a0_43])), (a0_20, .inl (a0_20_c, 2, .inl a0_20_f)), (a0_21, .inl (a0_21_c, 2, .inl a0_21_f)), (a0_23, .inl (a0_23_c, 16, .inl a0_23_f)), (a0_26, .inl (a0_26_c, 8, .inl a0_26_f)), (a0_29, .inl (a0_29_c, 48, .inl a0_29_f)), (a0_30, .inl (a0_30_c, 48, .inl a0_30_f)), (a0_31, .inl (a0_31_c, 48, .inl a0_31_f)), (a0_32, .inl (a0_32_c, 24, .inl a0_32_f)), (a0_33, .inl (a0_33_c, 24, .inl a0_33_f)), (a0_34, .inl (a0_34_c, 72, .inl a0_34_f)), (a0_35, .inl (a0_35_c, 24, .inl a0_35_f)), (a0_38, .inl (a0_38_c, 176, .inl a0_38_f))] ∧ Ev g (va_A [(a0, .inr (8, [.int a0_0, .int a0_1, .int a0_2, .int a0_3, .ref a0_4, .int a0_5, .int a0_6, .int a0_7, .int a0_8, .int a0_9, .int a0_10, .long a0_11, .int a0_12, .int a0_13, .int a0_14, .int a0_15, .int a0_16, .int a0_17, .ref a0_18, .ref a0_19, .ref a0_20, .ref a0_21, .ref a0_22, .ref a0_23, .ref a0_24, .ref a0_25, .ref a0_26, .ref a0_27, .ref a0_28, .ref a0_29, .ref a0_30, .ref a0_31, .ref a0_32, .ref a0_33, .ref a0_34, .ref a0_35, .long a0_36, .int a0_37, .ref a0_38, .ref a0_39, .int a0_40, .ref a0_41, .ref a0_42, .ref a0_43])), (a0_20, .inl (a0_20_c, 2, .inl a0_20_f)), (a0_21, .inl (a0_21_c, 2, .inl a0_21_f)), (a0_23, .inl (a0_23_c, 16, .inl a0_23_f)), (a0_26, .inl (a0_26_c, 8, .inl a0_26_f)), (a0_29, .inl (a0_29_c, 48, .inl a0_29_f)), (a0_30, .inl (a0_30_c, 48, .inl a0_30_f)), (a0_31, .inl (a0_31_c, 48, .inl a0_31_f)), (a0_32, .inl (a0_32_c, 24, .inl a0_32_f)), (a0_33, .inl (a0_33_c, 24, .inl a0_33_f)), (a0_34, .inl (a0_34_c, 72, .inl a0_34_f)), (a0_35, .inl (a0_35_c, 24, .inl a0_35_f)), (a0_38, .inl (a0_38_c, 176, .inl a0_38_f))] sz) U)) (va_Qi (fun (r : Int32) (u : Int32) => u = r) (fun (u : Int32) (t : State) => ∃ (za0_0 : Int32) (za0_1 : Int32) (za0_2 : Int32) (za0_3 : Int32), va_P (dC, dI) vwCl [(a0, .inr (8, [.int za0_0, .int za0_1, .int za0_2, .int za0_3, .ref a0_4, .int a0_5, .int a0_6, .int a0_7, .int a0_8, .int a0_9, .int a0_10, .long a0_11, .int a0_12, .int a0_13, .int a0_14, .int a0_15, .int a0_16, .int a0_17, .ref a0_18, .ref a0_19, .ref a0_20, .ref a0_21, .ref a0_22, .ref a0_23, .ref a0_24, .ref a0_25, .ref a0_26, .ref a0_27, .ref a0_28, .ref a0_29, .ref a0_30, .ref a0_31, .ref a0_32, .ref a0_33, .ref a0_34, .ref a0_35, .long a0_36, .int a0_37, .ref a0_38, .ref a0_39, .int a0_40, .ref a0_41, .ref a0_42, .ref a0_43])), (a0_20, .inl (a0_20_c, 2, .inl a0_20_f)), (a0_21, .inl (a0_21_c, 2, .inl a0_21_f)), (a0_23, .inl (a0_23_c, 16, .inl a0_23_f)), (a0_26, .inl (a0_26_c, 8, .inl a0_26_f)), (a0_29, .inl (a0_29_c, 48, .inl a0_29_f)), (a0_30, .inl (a0_30_c, 48, .inl a0_30_f)), (a0_31, .inl (a0_31_c, 48, .inl a0_31_f)), (a0_32, .inl (a0_32_c, 24, .inl a0_32_f)), (a0_33, .inl (a0_33_c, 24, .inl a0_33_f)), (a0_34, .inl (a0_34_c, 72, .inl a0_34_f)), (a0_35, .inl (a0_35_c, 24, .inl a0_35_f)), (a0_38, .inl (a0_38_c, 176, .inl a0_38_f))] t.heap ∧ va_K (dC, dI) vwCl [] t ∧ va_D (va_A [(a0, .inr (8, [.int a0_0, .int a0_1, .int a0_2, .int a0_3, .ref a0_4, .int a0_5, .int a0_6, .int a0_7, .int a0_8, .int a0_9, .int a0_10, .long a0_11, .int a0_12, .int a0_13, .int a0_14, .int a0_15, .int a0_16, .int a0_17, .ref a0_18, .ref a0_19, .ref a0_20, .ref a0_21, .ref a0_22, .ref a0_23, .ref a0_24, .ref a0_25, .ref a0_26, .ref a0_27, .ref a0_28, .ref a0_29, .ref a0_30, .ref a0_31, .ref a0_32, .ref a0_33, .ref a0_34, .ref a0_35, .long a0_36, .int a0_37, .ref a0_38, .ref a0_39, .int a0_40, .ref a0_41, .ref a0_42, .ref a0_43])), (a0_20, .inl (a0_20_c, 2, .inl a0_20_f)), (a0_21, .inl (a0_21_c, 2, .inl a0_21_f)), (a0_23, .inl (a0_23_c, 16, .inl a0_23_f)), (a0_26, .inl (a0_26_c, 8, .inl a0_26_f)), (a0_29, .inl (a0_29_c, 48, .inl a0_29_f)), (a0_30, .inl (a0_30_c, 48, .inl a0_30_f)), (a0_31, .inl (a0_31_c, 48, .inl a0_31_f)), (a0_32, .inl (a0_32_c, 24, .inl a0_32_f)), (a0_33, .inl (a0_33_c, 24, .inl a0_33_f)), (a0_34, .inl (a0_34_c, 72, .inl a0_34_f)), (a0_35, .inl (a0_35_c, 24, .inl a0_35_f)), (a0_38, .inl (a0_38_c, 176, .inl a0_38_f))] sz) [(a0, .inr (8, [.int za0_0, .int za0_1, .int za0_2, .int za0_3, .ref a0_4, .int a0_5, .int a0_6, .int a0_7, .int a0_8, .int a0_9, .int a0_10, .long a0_11, .int a0_12, .int a0_13, .int a0_14, .int a0_15, .int a0_16, .int a0_17, .ref a0_18, .ref a0_19, .ref a0_20, .ref a0_21, .ref a0_22, .ref a0_23, .ref a0_24, .ref a0_25, .ref a0_26, .ref a0_27, .ref a0_28, .ref a0_29, .ref a0_30, .ref a0_31, .ref a0_32, .ref a0_33, .ref a0_34, .ref a0_35, .long a0_36, .int a0_37, .ref a0_38, .ref a0_39, .int a0_40, .ref a0_41, .ref a0_42, .ref a0_43])), (a0_20, .inl (a0_20_c, 2, .inl a0_20_f)), (a0_21, .inl (a0_21_c, 2, .inl a0_21_f)), (a0_23, .inl (a0_23_c, 16, .inl a0_23_f)), (a0_26, .inl (a0_26_c, 8, .inl a0_26_f)), (a0_29, .inl (a0_29_c, 48, .inl a0_29_f)), (a0_30, .inl (a0_30_c, 48, .inl a0_30_f)), (a0_31, .inl (a0_31_c, 48, .inl a0_31_f)), (a0_32, .inl (a0_32_c, 24, .inl a0_32_f)), (a0_33, .inl (a0_33_c, 24, .inl a0_33_f)), (a0_34, .inl (a0_34_c, 72, .inl a0_34_f)), (a0_35, .inl (a0_35_c, 24, .inl a0_35_f)), (a0_38, .inl (a0_38_c, 176, .inl a0_38_f))]) (va_A [(a0, .inr (8, [.int a0_0, .int a0_1, .int a0_2, .int a0_3, .ref a0_4, .int a0_5, .int a0_6, .int a0_7, .int a0_8, .int a0_9, .int a0_10, .long a0_11, .int a0_12, .int a0_13, .int a0_14, .int a0_15, .int a0_16, .int a0_17, .ref a0_18, .ref a0_19, .ref a0_20, .ref a0_21, .ref a0_22, .ref a0_23, .ref a0_24, .ref a0_25, .ref a0_26, .ref a0_27, .ref a0_28, .ref a0_29, .ref a0_30, .ref a0_31, .ref a0_32, .ref a0_33, .ref a0_34, .ref a0_35, .long a0_36, .int a0_37, .ref a0_38, .ref a0_39, .int a0_40, .ref a0_41, .ref a0_42, .ref a0_43])), (a0_20, .inl (a0_20_c, 2, .inl a0_20_f)), (a0_21, .inl (a0_21_c, 2, .inl a0_21_f)), (a0_23, .inl (a0_23_c, 16, .inl a0_23_f)), (a0_26, .inl (a0_26_c, 8, .inl a0_26_f)), (a0_29, .inl (a0_29_c, 48, .inl a0_29_f)), (a0_30, .inl (a0_30_c, 48, .inl a0_30_f)), (a0_31, .inl (a0_31_c, 48, .inl a0_31_f)), (a0_32, .inl (a0_32_c, 24, .inl a0_32_f)), (a0_33, .inl (a0_33_c, 24, .inl a0_33_f)), (a0_34, .inl (a0_34_c, 72, .inl a0_34_f)), (a0_35, .inl (a0_35_c, 24, .inl a0_35_f)), (a0_38, .inl (a0_38_c, 176, .inl a0_38_f))] sz)) 0 0 (va_A [(a0, .inr (8, [.int a0_0, .int a0_1, .int a0_2, .int a0_3, .ref a0_4, .int a0_5, .int a0_6, .int a0_7, .int a0_8, .int a0_9, .int a0_10, .long a0_11, .int a0_12, .int a0_13, .int a0_14, .int a0_15, .int a0_16, .int a0_17, .ref a0_18, .ref a0_19, .ref a0_20, .ref a0_21, .ref a0_22, .ref a0_23, .ref a0_24, .ref a0_25, .ref a0_26, .ref a0_27, .ref a0_28, .ref a0_29, .ref a0_30, .ref a0_31, .ref a0_32, .ref a0_33, .ref a0_34, .ref a0_35, .long a0_36, .int a0_37, .ref a0_38, .ref a0_39, .int a0_40, .ref a0_41, .ref a0_42, .ref a0_43])), (a0_20, .inl (a0_20_c, 2, .inl a0_20_f)), (a0_21, .inl (a0_21_c, 2, .inl a0_21_f)), (a0_23, .inl (a0_23_c, 16, .inl a0_23_f)), (a0_26, .inl (a0_26_c, 8, .inl a0_26_f)), (a0_29, .inl (a0_29_c, 48, .inl a0_29_f)), (a0_30, .inl (a0_30_c, 48, .inl a0_30_f)), (a0_31, .inl (a0_31_c, 48, .inl a0_31_f)), (a0_32, .inl (a0_32_c, 24, .inl a0_32_f)), (a0_33, .inl (a0_33_c, 24, .inl a0_33_f)), (a0_34, .inl (a0_34_c, 72, .inl a0_34_f)), (a0_35, .inl (a0_35_c, 24, .inl a0_35_f)), (a0_38, .inl (a0_38_c, 176, .inl a0_38_f))] sz) := by
  refine Met.ofW (cc := cX9_ends) (maxL := 3) (ret := (some .int)) (by decide) rfl ?_
  intro p e s m args below meth c s₁ B hml hv
  obtain ⟨rfl, hsz, hP, hK, hD0, hE⟩ := hv
  have hx := B.exec
  have hb := B.bytes
  have hr := B.returns
  have hts0 := atoms_spec (ws := (.code yX9_ends cX9_ends 3 (some .int) :: TBL)) B.pre
  have hts := fun (w : Cond) (h : w ∈ TBL) => hts0 w (List.mem_cons_of_mem _ h)
  have hown : s.vm.findClass RX9 = some m.cls := findClass_of_methodNamed B.named
  have hlocks := B.notSynchronized
  have hN := hE.1
  subst hsz
  have hD := hD0.self (sz := s.heap.size)
  generalize hAe : va_A [(a0, .inr (8, [.int a0_0, .int a0_1, .int a0_2, .int a0_3, .ref a0_4, .int a0_5, .int a0_6, .int a0_7, .int a0_8, .int a0_9, .int a0_10, .long a0_11, .int a0_12, .int a0_13, .int a0_14, .int a0_15, .int a0_16, .int a0_17, .ref a0_18, .ref a0_19, .ref a0_20, .ref a0_21, .ref a0_22, .ref a0_23, .ref a0_24, .ref a0_25, .ref a0_26, .ref a0_27, .ref a0_28, .ref a0_29, .ref a0_30, .ref a0_31, .ref a0_32, .ref a0_33, .ref a0_34, .ref a0_35, .long a0_36, .int a0_37, .ref a0_38, .ref a0_39, .int a0_40, .ref a0_41, .ref a0_42, .ref a0_43])), (a0_20, .inl (a0_20_c, 2, .inl a0_20_f)), (a0_21, .inl (a0_21_c, 2, .inl a0_21_f)), (a0_23, .inl (a0_23_c, 16, .inl a0_23_f)), (a0_26, .inl (a0_26_c, 8, .inl a0_26_f)), (a0_29, .inl (a0_29_c, 48, .inl a0_29_f)), (a0_30, .inl (a0_30_c, 48, .inl a0_30_f)), (a0_31, .inl (a0_31_c, 48, .inl a0_31_f)), (a0_32, .inl (a0_32_c, 24, .inl a0_32_f)), (a0_33, .inl (a0_33_c, 24, .inl a0_33_f)), (a0_34, .inl (a0_34_c, 72, .inl a0_34_f)), (a0_35, .inl (a0_35_c, 24, .inl a0_35_f)), (a0_38, .inl (a0_38_c, 176, .inl a0_38_f))] s.heap.size = A at hD hE ⊢
  have hA : ∀ q : Nat, s.heap.size ≤ q → A q := fun q h => by rw [← hAe]; exact Or.inr h
  have hS : va_S A s.heap s.heap [] := va_S.rf
  replace hP : va_P (dC, dI) vwCl [(a0, .inr (8, [.int a0_0, .int a0_1, .int a0_2, .int a0_3, .ref a0_4, .int a0_5, .int a0_6, .int a0_7, .int a0_8, .int a0_9, .int a0_10, .long a0_11, .int a0_12, .int a0_13, .int a0_14, .int a0_15, .int a0_16, .int a0_17, .ref a0_18, .ref a0_19, .ref a0_20, .ref a0_21, .ref a0_22, .ref a0_23, .ref a0_24, .ref a0_25, .ref a0_26, .ref a0_27, .ref a0_28, .ref a0_29, .ref a0_30, .ref a0_31, .ref a0_32, .ref a0_33, .ref a0_34, .ref a0_35, .long a0_36, .int a0_37, .ref a0_38, .ref a0_39, .int a0_40, .ref a0_41, .ref a0_42, .ref a0_43])), (a0_20, .inl (a0_20_c, 2, .inl a0_20_f)), (a0_21, .inl (a0_21_c, 2, .inl a0_21_f)), (a0_23, .inl (a0_23_c, 16, .inl a0_23_f)), (a0_26, .inl (a0_26_c, 8, .inl a0_26_f)), (a0_29, .inl (a0_29_c, 48, .inl a0_29_f)), (a0_30, .inl (a0_30_c, 48, .inl a0_30_f)), (a0_31, .inl (a0_31_c, 48, .inl a0_31_f)), (a0_32, .inl (a0_32_c, 24, .inl a0_32_f)), (a0_33, .inl (a0_33_c, 24, .inl a0_33_f)), (a0_34, .inl (a0_34_c, 72, .inl a0_34_f)), (a0_35, .inl (a0_35_c, 24, .inl a0_35_f)), (a0_38, .inl (a0_38_c, 176, .inl a0_38_f))] s.heap := hP
  have hl := lv_entry ([.ref a0, .int a1, .int a2]) (n := 3) (Nat.le_of_ble_eq_true rfl)
  rw [lg_entry_eq]
  generalize (lg_sl ([.ref a0, .int a1, .int a2]) ++ List.replicate (3 - (lg_sl ([.ref a0, .int a1, .int a2])).length) Slot.unset).toArray = ls at hl ⊢
  have hl : lv_has ls 3 [(0, .ref a0), (1, .int a1), (2, .int a2)] := hl
  have b_a1 := i32b a1
  have b_a2 := i32b a2
  have b_a0_0 := i32b a0_0
  have b_a0_1 := i32b a0_1
  have b_a0_2 := i32b a0_2
  have b_a0_3 := i32b a0_3
  have b_a0_9 := i32b a0_9
  have b_a0_10 := i32b a0_10
  have b_a0_12 := i32b a0_12
  have b_a0_13 := i32b a0_13
  have b_a0_14 := i32b a0_14
  have b_a0_15 := i32b a0_15
  have b_a0_16 := i32b a0_16
  have hp20 := vr_at h_a0_20_f (k := 0) rfl
  have hp21 := vr_at h_a0_21_f (k := 0) rfl
  refine lv_aload_n hx hb dX9_ends_0 rfl (lv_at hl 0 rfl) ?_
  refine lv_iconst (v := 0) hx hb dX9_ends_1 (by decide) ?_
  refine va_put (D := (dC, dI)) (ci := 8) (v := .int 0) (ty := .int) (C := RX9) (T := TX9) (N := 44) hx hb hts inlX9 tyX9 tyX9_ok nmX9 hown hK hP hD hS 0 rgL13_890e5ad rfl 0 (by decide) (hts (.fieldLink RX9 85 "ClosedUntilModel" "thrown" "I") qw_408) (fun _ h9 => h9) rfl (by decide +kernel) rfl rfl (Nat.le_of_ble_eq_true rfl) dX9_ends_2 (fun H locs hP9 hD9 hS9 => ?_)
  clear hP hD hS
  obtain ⟨hP, hD⟩ := rgS13_d750318 (e := (a0, .inr (8, [.int 0, .int a0_1, .int a0_2, .int a0_3, .ref a0_4, .int a0_5, .int a0_6, .int a0_7, .int a0_8, .int a0_9, .int a0_10, .long a0_11, .int a0_12, .int a0_13, .int a0_14, .int a0_15, .int a0_16, .int a0_17, .ref a0_18, .ref a0_19, .ref a0_20, .ref a0_21, .ref a0_22, .ref a0_23, .ref a0_24, .ref a0_25, .ref a0_26, .ref a0_27, .ref a0_28, .ref a0_29, .ref a0_30, .ref a0_31, .ref a0_32, .ref a0_33, .ref a0_34, .ref a0_35, .long a0_36, .int a0_37, .ref a0_38, .ref a0_39, .int a0_40, .ref a0_41, .ref a0_42, .ref a0_43]))) hP9 hD9 rfl
  have hS := hS9; clear hP9 hD9 hS9
  refine lv_aload_n hx hb dX9_ends_5 rfl (lv_at hl 0 rfl) ?_
  refine lv_iload_n hx hb dX9_ends_6 rfl (lv_at hl 1 rfl) ?_
  have qc0 : (0 : Int32).toInt = 0 := by decide
  have hPc := (rgP13_4a0220d hP)
  have hKc := (rgK12_1b900a9 hK)
  refine vp_callSi ((va_runV (As := [.int a1]) (rest := []) ⟨hx, hb, hml, hown, hts⟩ (k_X9_isClosure l dC dI g (a0) (a1) (0) (a0_1) (a0_2) (a0_3) (a0_4) (a0_5) (a0_6) (a0_7) (a0_8) (a0_9) (a0_10) (a0_11) (a0_12) (a0_13) (a0_14) (a0_15) (a0_16) (a0_17) (a0_18) (a0_19) (a0_20) (a0_21) (a0_22) (a0_23) (a0_24) (a0_25) (a0_26) (a0_27) (a0_28) (a0_29) (a0_30) (a0_31) (a0_32) (a0_33) (a0_34) (a0_35) (a0_36) (a0_37) (a0_38) (a0_39) (a0_40) (a0_41) (a0_42) (a0_43) (a0_21_c) (a0_21_f) (by omega) (by omega) (by omega) (by omega) (by omega) (by omega) (by omega) h_a0_21_f) (cwV 1 hts (gwV qw_618 qw_619 qw_620 qw_386 qw_617) rfl rfl rfl (by decide +kernel) ⟨Nat.le_of_ble_eq_true rfl, Nat.le_of_ble_eq_true rfl⟩) ⟨fun a U g9 mk q => ⟨q.1, q.2.1, va_K.moved (u := U) (U := U.calling g9 mk a) (Vm.Alike.refl U.vm) q.2.2.1, Ev.bl q.2.2.2⟩, va_recv hK hP (ci := 8) (q0 := 0) rfl rgL13_890e5ad, fun U hU hW => ⟨rfl, atB hU hPc, va_K.moved hW.alike hKc, hE.go hS (fun _ h => h.elim) hU hW⟩⟩ rfl rfl hl.1 rfl (lv_room (Nat.le_of_ble_eq_true rfl)) dX9_ends_7 ⟨Nat.le_of_ble_eq_true rfl, Nat.le_of_ble_eq_true rfl⟩)).run (fun r1 h_r1 => ?_)
  have h_r1 : (r1 = 0 ∨ r1 = 1) ∧ ((r1.toInt = 1 ∧ 0 ≤ a1.toInt ∧ a1.toInt < (a0_21_f 0).toInt) ∨ r1.toInt = 0) := h_r1
  have b_r1 := z01 (show r1 = 0 ∨ r1 = 1 from h_r1.1)
  refine lv_if_eq (tgt := 30) hx hb dX9_ends_10 (by decide) (fun c10_2 => ?_) (fun c10_2 => ?_)
  · have c10_2 : r1.toInt = 0 := (cv_eq rfl (by decide)).mp c10_2
    refine lv_iconst (v := (-1)) hx hb dX9_ends_30 (by decide) ?_
    have qcm1 : ((-1) : Int32).toInt = (-1) := by decide
    have qc0 : (0 : Int32).toInt = 0 := by decide
    refine W.widen (k := 0) (n := 0) (Nat.le_of_ble_eq_true rfl) (Nat.le_of_ble_eq_true rfl) ?_
    have hP9 := hP
    have hD9 := hD
    have hK9 := (rgK12_8728a0f hK)
    exact W.iret (v := (-1)) hx hb hr (fun t ht hW => ⟨⟨(-1), (-1), rfl, rfl, 0, a0_1, a0_2, a0_3, atB ht hP9, va_K.moved hW.alike hK9, hD9⟩, hS.F ht⟩) hS.2.2 dX9_ends_31
  · have c10_2 : ¬ (r1.toInt = 0) := mt (cv_eq rfl (by decide)).mpr c10_2
    refine lv_aload_n hx hb dX9_ends_13 rfl (lv_at hl 0 rfl) ?_
    refine lv_iload_n hx hb dX9_ends_14 rfl (lv_at hl 2 rfl) ?_
    have qc0 : (0 : Int32).toInt = 0 := by decide
    have hPc := (rgP13_e9f0d34 hP)
    have hKc := (rgK12_2fc2b8d hK)
    refine vp_callSi ((va_runV (As := [.int a2]) (rest := []) ⟨hx, hb, hml, hown, hts⟩ (k_X9_isPiece l dC dI g (a0) (a2) (0) (a0_1) (a0_2) (a0_3) (a0_4) (a0_5) (a0_6) (a0_7) (a0_8) (a0_9) (a0_10) (a0_11) (a0_12) (a0_13) (a0_14) (a0_15) (a0_16) (a0_17) (a0_18) (a0_19) (a0_20) (a0_21) (a0_22) (a0_23) (a0_24) (a0_25) (a0_26) (a0_27) (a0_28) (a0_29) (a0_30) (a0_31) (a0_32) (a0_33) (a0_34) (a0_35) (a0_36) (a0_37) (a0_38) (a0_39) (a0_40) (a0_41) (a0_42) (a0_43) (a0_20_c) (a0_20_f) (by omega) (by omega) (by omega) (by omega) (by omega) (by omega) (by omega) h_a0_20_f) (cwV 1 hts (gwV qw_602 qw_603 qw_604 qw_386 qw_601) rfl rfl rfl (by decide +kernel) ⟨Nat.le_of_ble_eq_true rfl, Nat.le_of_ble_eq_true rfl⟩) ⟨fun a U g9 mk q => ⟨q.1, q.2.1, va_K.moved (u := U) (U := U.calling g9 mk a) (Vm.Alike.refl U.vm) q.2.2.1, Ev.bl q.2.2.2⟩, va_recv hK hP (ci := 8) (q0 := 0) rfl rgL13_890e5ad, fun U hU hW => ⟨rfl, atB hU hPc, va_K.moved hW.alike hKc, hE.go hS (fun _ h => h.elim) hU hW⟩⟩ rfl rfl hl.1 rfl (lv_room (Nat.le_of_ble_eq_true rfl)) dX9_ends_15 ⟨Nat.le_of_ble_eq_true rfl, Nat.le_of_ble_eq_true rfl⟩)).run (fun r3 h_r3 => ?_)
    have h_r3 : (r3 = 0 ∨ r3 = 1) ∧ ((r3.toInt = 1 ∧ 0 ≤ a2.toInt ∧ a2.toInt < (a0_20_f 0).toInt) ∨ r3.toInt = 0) := h_r3
    have b_r3 := z01 (show r3 = 0 ∨ r3 = 1 from h_r3.1)
    refine lv_if_eq (tgt := 30) hx hb dX9_ends_18 (by decide) (fun c18_4 => ?_) (fun c18_4 => ?_)
    · have c18_4 : r3.toInt = 0 := (cv_eq rfl (by decide)).mp c18_4
      refine lv_iconst (v := (-1)) hx hb dX9_ends_30 (by decide) ?_
      have qcm1 : ((-1) : Int32).toInt = (-1) := by decide
      have qc0 : (0 : Int32).toInt = 0 := by decide
      refine W.widen (k := 0) (n := 0) (Nat.le_of_ble_eq_true rfl) (Nat.le_of_ble_eq_true rfl) ?_
      have hP9 := hP
      have hD9 := hD
      have hK9 := (rgK12_8728a0f hK)
      exact W.iret (v := (-1)) hx hb hr (fun t ht hW => ⟨⟨(-1), (-1), rfl, rfl, 0, a0_1, a0_2, a0_3, atB ht hP9, va_K.moved hW.alike hK9, hD9⟩, hS.F ht⟩) hS.2.2 dX9_ends_31
    · have c18_4 : ¬ (r3.toInt = 0) := mt (cv_eq rfl (by decide)).mpr c18_4
      refine lv_aload_n hx hb dX9_ends_21 rfl (lv_at hl 0 rfl) ?_
      refine lv_iload_n hx hb dX9_ends_22 rfl (lv_at hl 1 rfl) ?_
      refine lv_iload_n hx hb dX9_ends_23 rfl (lv_at hl 2 rfl) ?_
      have qc0 : (0 : Int32).toInt = 0 := by decide
      have hPc := (rgP13_87d50a7 hP)
      have hKc := (rgK12_948a3ee hK)
      have hDc := (rgD13_53497a6 hD)
      have hFc := freeW hDc hS hA
      refine va_calli (va_runV (As := [.int a1, .int a2]) (rest := []) ⟨hx, hb, hml, hown, hts⟩ (k_X9_endsOf l dC dI g H.size (a0) (a1) (a2) (0) (a0_1) (a0_2) (a0_3) (a0_4) (a0_5) (a0_6) (a0_7) (a0_8) (a0_9) (a0_10) (a0_11) (a0_12) (a0_13) (a0_14) (a0_15) (a0_16) (a0_17) (a0_18) (a0_19) (a0_20) (a0_21) (a0_22) (a0_23) (a0_24) (a0_25) (a0_26) (a0_27) (a0_28) (a0_29) (a0_30) (a0_31) (a0_32) (a0_33) (a0_34) (a0_35) (a0_36) (a0_37) (a0_38) (a0_39) (a0_40) (a0_41) (a0_42) (a0_43) (a0_23_c) (a0_23_f) (a0_26_c) (a0_26_f) (a0_29_c) (a0_29_f) (a0_30_c) (a0_30_f) (a0_31_c) (a0_31_f) (a0_32_c) (a0_32_f) (a0_33_c) (a0_33_f) (a0_34_c) (a0_34_f) (a0_35_c) (a0_35_f) (a0_38_c) (a0_38_f) ((a0_20_f 0).toInt) ((a0_21_f 0).toInt) (by omega) (by omega) (by omega) (by omega) (by omega) (by omega) (by omega) (by omega) (by assumption) (by omega) (by assumption) (by omega) (by omega)) (cwV 2 hts (gwV qw_532 qw_533 qw_534 qw_386 qw_531) rfl rfl rfl (by decide +kernel) ⟨Nat.le_of_ble_eq_true rfl, Nat.le_of_ble_eq_true rfl⟩) ⟨fun a U g9 mk q => ⟨q.1, q.2.1, q.2.2.1, va_K.moved (u := U) (U := U.calling g9 mk a) (Vm.Alike.refl U.vm) q.2.2.2.1, q.2.2.2.2.1, Ev.bl q.2.2.2.2.2⟩, va_recv hK hP (ci := 8) (q0 := 0) rfl rgL13_890e5ad, fun U hU hW => ⟨rfl, by rw [hU], atB hU hPc, va_K.moved hW.alike hKc, hDc.weaken (fun _ _ _ _ => trivial), hE.go hS hFc hU hW⟩⟩ rfl rfl hl.1 rfl (lv_room (Nat.le_of_ble_eq_true rfl)) dX9_ends_24 ⟨Nat.le_of_ble_eq_true rfl, Nat.le_of_ble_eq_true rfl⟩) hS (fun q _ h => hFc q h) hFc (fun r6 u5 t H1 locs ht hvm h_u5 hB hz1 hk1 hS => ?_)
      obtain ⟨za0_1_7, za0_2_8, za0_3_9, hP1, hK1, hD1⟩ := hB
      have hK1 := va_K.moved hvm.symm hK1
      have hJ9 := rgJ13_1725318 hP hD hk1 hFc (atH ht hP1) hD1
      clear hP hD hPc hKc hDc hFc hP1 hD1 hk1 hz1
      obtain ⟨hP, hD⟩ := hJ9
      clear hK1
      generalize H1 = H at hP hS ⊢
      refine W.widen (k := 0) (n := 0) (Nat.le_of_ble_eq_true rfl) (Nat.le_of_ble_eq_true rfl) ?_
      have h_r6 := congrArg Int32.toInt h_u5
      have b_r6 := i32b r6
      refine lv_goto (tgt := 31) hx hb dX9_ends_27 (by decide) ?_
      have qc0 : (0 : Int32).toInt = 0 := by decide
      refine W.widen (k := 0) (n := 0) (Nat.le_of_ble_eq_true rfl) (Nat.le_of_ble_eq_true rfl) ?_
      have hP9 := hP
      have hD9 := hD
      have hK9 := (rgK12_8728a0f hK)
      exact W.iret (v := r6) hx hb hr (fun t ht hW => ⟨⟨r6, r6, rfl, rfl, 0, za0_1_7, za0_2_8, za0_3_9, atB ht hP9, va_K.moved hW.alike hK9, hD9⟩, hS.F ht⟩) hS.2.2 dX9_ends_31
set_option maxHeartbeats 4000000 in
set_option maxRecDepth 100000 in
theorem k_X9_opens (l : Launch) (dC : Nat → ClassId) (dI : Nat → Nat → Nat) (g : Gv) (sz : Nat) (a0 : Nat) (a1 : Int32) (a2 : Int32) (a0_0 : Int32) (a0_1 : Int32) (a0_2 : Int32) (a0_3 : Int32) (a0_4 : Nat) (a0_5 : Int32) (a0_6 : Int32) (a0_7 : Int32) (a0_8 : Int32) (a0_9 : Int32) (a0_10 : Int32) (a0_11 : Int64) (a0_12 : Int32) (a0_13 : Int32) (a0_14 : Int32) (a0_15 : Int32) (a0_16 : Int32) (a0_17 : Int32) (a0_18 : Nat) (a0_19 : Nat) (a0_20 : Nat) (a0_21 : Nat) (a0_22 : Nat) (a0_23 : Nat) (a0_24 : Nat) (a0_25 : Nat) (a0_26 : Nat) (a0_27 : Nat) (a0_28 : Nat) (a0_29 : Nat) (a0_30 : Nat) (a0_31 : Nat) (a0_32 : Nat) (a0_33 : Nat) (a0_34 : Nat) (a0_35 : Nat) (a0_36 : Int64) (a0_37 : Int32) (a0_38 : Nat) (a0_39 : Nat) (a0_40 : Int32) (a0_41 : Nat) (a0_42 : Nat) (a0_43 : Nat) (a0_20_c : ClassId) (a0_20_f : Nat → Int32) (a0_21_c : ClassId) (a0_21_f : Nat → Int32) (a0_23_c : ClassId) (a0_23_f : Nat → Int32) (a0_26_c : ClassId) (a0_26_f : Nat → Int32) (a0_29_c : ClassId) (a0_29_f : Nat → Int32) (a0_30_c : ClassId) (a0_30_f : Nat → Int32) (a0_31_c : ClassId) (a0_31_f : Nat → Int32) (a0_32_c : ClassId) (a0_32_f : Nat → Int32) (a0_33_c : ClassId) (a0_33_f : Nat → Int32) (a0_34_c : ClassId) (a0_34_f : Nat → Int32) (a0_35_c : ClassId) (a0_35_f : Nat → Int32) (a0_38_c : ClassId) (a0_38_f : Nat → Int32) (a0_43_c : ClassId) (a0_43_f : Nat → Int32) (h_a0_5 : 0 ≤ a0_5.toInt ∧ a0_5.toInt ≤ 1000) (h_a0_6 : 0 ≤ a0_6.toInt ∧ a0_6.toInt ≤ 1000) (h_a0_7 : 0 ≤ a0_7.toInt ∧ a0_7.toInt ≤ 1000) (h_a0_8 : 0 ≤ a0_8.toInt ∧ a0_8.toInt ≤ 1000) (h_a0_17 : 0 ≤ a0_17.toInt ∧ a0_17.toInt ≤ 1) (h_a0_37 : (-1) ≤ a0_37.toInt ∧ a0_37.toInt ≤ 23) (h_a0_40 : 0 ≤ a0_40.toInt ∧ a0_40.toInt ≤ 12) (h_a0_20_f : vr 0 24 a0_20_f) (h_a0_21_f : vr 0 12 a0_21_f) (hms : RowOk (a0_20_f 0).toInt a0_38_f 0) (hmw : WOk a0_32_f a0_33_f 0 (a0_21_f 0).toInt) : Met l yX9_opens (.code yX9_opens cX9_opens 3 (some .int) :: TBL) ({ frames := 8, cells := 0, slots := 0, locals := 186 }) (va_Pc [.ref a0, .int a1, .int a2] (fun U => U.heap.size = sz ∧ va_P (dC, dI) vwCl [(a0, .inr (8, [.int a0_0, .int a0_1, .int a0_2, .int a0_3, .ref a0_4, .int a0_5, .int a0_6, .int a0_7, .int a0_8, .int a0_9, .int a0_10, .long a0_11, .int a0_12, .int a0_13, .int a0_14, .int a0_15, .int a0_16, .int a0_17, .ref a0_18, .ref a0_19, .ref a0_20, .ref a0_21, .ref a0_22, .ref a0_23, .ref a0_24, .ref a0_25, .ref a0_26, .ref a0_27, .ref a0_28, .ref a0_29, .ref a0_30, .ref a0_31, .ref a0_32, .ref a0_33, .ref a0_34, .ref a0_35, .long a0_36, .int a0_37, .ref a0_38, .ref a0_39, .int a0_40, .ref a0_41, .ref a0_42, .ref a0_43])), (a0_20, .inl (a0_20_c, 2, .inl a0_20_f)), (a0_21, .inl (a0_21_c, 2, .inl a0_21_f)), (a0_23, .inl (a0_23_c, 16, .inl a0_23_f)), (a0_26, .inl (a0_26_c, 8, .inl a0_26_f)), (a0_29, .inl (a0_29_c, 48, .inl a0_29_f)), (a0_30, .inl (a0_30_c, 48, .inl a0_30_f)), (a0_31, .inl (a0_31_c, 48, .inl a0_31_f)), (a0_32, .inl (a0_32_c, 24, .inl a0_32_f)), (a0_33, .inl (a0_33_c, 24, .inl a0_33_f)), (a0_34, .inl (a0_34_c, 72, .inl a0_34_f)), (a0_35, .inl (a0_35_c, 24, .inl a0_35_f)), (a0_38, .inl (a0_38_c, 176, .inl a0_38_f)), (a0_43, .inl (a0_43_c, 288, .inl a0_43_f))] U.heap ∧ va_K (dC, dI) vwCl [(a0_20_c, .int), (a0_21_c, .int), (a0_23_c, .int), (a0_26_c, .int), (a0_29_c, .int), (a0_30_c, .int), (a0_31_c, .int), (a0_32_c, .int), (a0_33_c, .int), (a0_34_c, .int), (a0_35_c, .boolean), (a0_38_c, .int), (a0_43_c, .int)] U ∧ va_D (fun _ => True) [(a0, .inr (8, [.int a0_0, .int a0_1, .int a0_2, .int a0_3, .ref a0_4, .int a0_5, .int a0_6, .int a0_7, .int a0_8, .int a0_9, .int a0_10, .long a0_11, .int a0_12, .int a0_13, .int a0_14, .int a0_15, .int a0_16, .int a0_17, .ref a0_18, .ref a0_19, .ref a0_20, .ref a0_21, .ref a0_22, .ref a0_23, .ref a0_24, .ref a0_25, .ref a0_26, .ref a0_27, .ref a0_28, .ref a0_29, .ref a0_30, .ref a0_31, .ref a0_32, .ref a0_33, .ref a0_34, .ref a0_35, .long a0_36, .int a0_37, .ref a0_38, .ref a0_39, .int a0_40, .ref a0_41, .ref a0_42, .ref a0_43])), (a0_20, .inl (a0_20_c, 2, .inl a0_20_f)), (a0_21, .inl (a0_21_c, 2, .inl a0_21_f)), (a0_23, .inl (a0_23_c, 16, .inl a0_23_f)), (a0_26, .inl (a0_26_c, 8, .inl a0_26_f)), (a0_29, .inl (a0_29_c, 48, .inl a0_29_f)), (a0_30, .inl (a0_30_c, 48, .inl a0_30_f)), (a0_31, .inl (a0_31_c, 48, .inl a0_31_f)), (a0_32, .inl (a0_32_c, 24, .inl a0_32_f)), (a0_33, .inl (a0_33_c, 24, .inl a0_33_f)), (a0_34, .inl (a0_34_c, 72, .inl a0_34_f)), (a0_35, .inl (a0_35_c, 24, .inl a0_35_f)), (a0_38, .inl (a0_38_c, 176, .inl a0_38_f)), (a0_43, .inl (a0_43_c, 288, .inl a0_43_f))] ∧ Ev g (va_A [(a0, .inr (8, [.int a0_0, .int a0_1, .int a0_2, .int a0_3, .ref a0_4, .int a0_5, .int a0_6, .int a0_7, .int a0_8, .int a0_9, .int a0_10, .long a0_11, .int a0_12, .int a0_13, .int a0_14, .int a0_15, .int a0_16, .int a0_17, .ref a0_18, .ref a0_19, .ref a0_20, .ref a0_21, .ref a0_22, .ref a0_23, .ref a0_24, .ref a0_25, .ref a0_26, .ref a0_27, .ref a0_28, .ref a0_29, .ref a0_30, .ref a0_31, .ref a0_32, .ref a0_33, .ref a0_34, .ref a0_35, .long a0_36, .int a0_37, .ref a0_38, .ref a0_39, .int a0_40, .ref a0_41, .ref a0_42, .ref a0_43])), (a0_20, .inl (a0_20_c, 2, .inl a0_20_f)), (a0_21, .inl (a0_21_c, 2, .inl a0_21_f)), (a0_23, .inl (a0_23_c, 16, .inl a0_23_f)), (a0_26, .inl (a0_26_c, 8, .inl a0_26_f)), (a0_29, .inl (a0_29_c, 48, .inl a0_29_f)), (a0_30, .inl (a0_30_c, 48, .inl a0_30_f)), (a0_31, .inl (a0_31_c, 48, .inl a0_31_f)), (a0_32, .inl (a0_32_c, 24, .inl a0_32_f)), (a0_33, .inl (a0_33_c, 24, .inl a0_33_f)), (a0_34, .inl (a0_34_c, 72, .inl a0_34_f)), (a0_35, .inl (a0_35_c, 24, .inl a0_35_f)), (a0_38, .inl (a0_38_c, 176, .inl a0_38_f)), (a0_43, .inl (a0_43_c, 288, .inl a0_43_f))] sz) U)) (va_Qi (fun (r : Int32) (u : Int32) => u = r) (fun (u : Int32) (t : State) => ∃ (za0_0 : Int32) (za0_1 : Int32) (za0_2 : Int32) (za0_3 : Int32) (za0_43_f : Nat → Int32), va_P (dC, dI) vwCl [(a0, .inr (8, [.int za0_0, .int za0_1, .int za0_2, .int za0_3, .ref a0_4, .int a0_5, .int a0_6, .int a0_7, .int a0_8, .int a0_9, .int a0_10, .long a0_11, .int a0_12, .int a0_13, .int a0_14, .int a0_15, .int a0_16, .int a0_17, .ref a0_18, .ref a0_19, .ref a0_20, .ref a0_21, .ref a0_22, .ref a0_23, .ref a0_24, .ref a0_25, .ref a0_26, .ref a0_27, .ref a0_28, .ref a0_29, .ref a0_30, .ref a0_31, .ref a0_32, .ref a0_33, .ref a0_34, .ref a0_35, .long a0_36, .int a0_37, .ref a0_38, .ref a0_39, .int a0_40, .ref a0_41, .ref a0_42, .ref a0_43])), (a0_20, .inl (a0_20_c, 2, .inl a0_20_f)), (a0_21, .inl (a0_21_c, 2, .inl a0_21_f)), (a0_23, .inl (a0_23_c, 16, .inl a0_23_f)), (a0_26, .inl (a0_26_c, 8, .inl a0_26_f)), (a0_29, .inl (a0_29_c, 48, .inl a0_29_f)), (a0_30, .inl (a0_30_c, 48, .inl a0_30_f)), (a0_31, .inl (a0_31_c, 48, .inl a0_31_f)), (a0_32, .inl (a0_32_c, 24, .inl a0_32_f)), (a0_33, .inl (a0_33_c, 24, .inl a0_33_f)), (a0_34, .inl (a0_34_c, 72, .inl a0_34_f)), (a0_35, .inl (a0_35_c, 24, .inl a0_35_f)), (a0_38, .inl (a0_38_c, 176, .inl a0_38_f)), (a0_43, .inl (a0_43_c, 288, .inl za0_43_f))] t.heap ∧ va_K (dC, dI) vwCl [] t ∧ va_D (va_A [(a0, .inr (8, [.int a0_0, .int a0_1, .int a0_2, .int a0_3, .ref a0_4, .int a0_5, .int a0_6, .int a0_7, .int a0_8, .int a0_9, .int a0_10, .long a0_11, .int a0_12, .int a0_13, .int a0_14, .int a0_15, .int a0_16, .int a0_17, .ref a0_18, .ref a0_19, .ref a0_20, .ref a0_21, .ref a0_22, .ref a0_23, .ref a0_24, .ref a0_25, .ref a0_26, .ref a0_27, .ref a0_28, .ref a0_29, .ref a0_30, .ref a0_31, .ref a0_32, .ref a0_33, .ref a0_34, .ref a0_35, .long a0_36, .int a0_37, .ref a0_38, .ref a0_39, .int a0_40, .ref a0_41, .ref a0_42, .ref a0_43])), (a0_20, .inl (a0_20_c, 2, .inl a0_20_f)), (a0_21, .inl (a0_21_c, 2, .inl a0_21_f)), (a0_23, .inl (a0_23_c, 16, .inl a0_23_f)), (a0_26, .inl (a0_26_c, 8, .inl a0_26_f)), (a0_29, .inl (a0_29_c, 48, .inl a0_29_f)), (a0_30, .inl (a0_30_c, 48, .inl a0_30_f)), (a0_31, .inl (a0_31_c, 48, .inl a0_31_f)), (a0_32, .inl (a0_32_c, 24, .inl a0_32_f)), (a0_33, .inl (a0_33_c, 24, .inl a0_33_f)), (a0_34, .inl (a0_34_c, 72, .inl a0_34_f)), (a0_35, .inl (a0_35_c, 24, .inl a0_35_f)), (a0_38, .inl (a0_38_c, 176, .inl a0_38_f)), (a0_43, .inl (a0_43_c, 288, .inl a0_43_f))] sz) [(a0, .inr (8, [.int za0_0, .int za0_1, .int za0_2, .int za0_3, .ref a0_4, .int a0_5, .int a0_6, .int a0_7, .int a0_8, .int a0_9, .int a0_10, .long a0_11, .int a0_12, .int a0_13, .int a0_14, .int a0_15, .int a0_16, .int a0_17, .ref a0_18, .ref a0_19, .ref a0_20, .ref a0_21, .ref a0_22, .ref a0_23, .ref a0_24, .ref a0_25, .ref a0_26, .ref a0_27, .ref a0_28, .ref a0_29, .ref a0_30, .ref a0_31, .ref a0_32, .ref a0_33, .ref a0_34, .ref a0_35, .long a0_36, .int a0_37, .ref a0_38, .ref a0_39, .int a0_40, .ref a0_41, .ref a0_42, .ref a0_43])), (a0_20, .inl (a0_20_c, 2, .inl a0_20_f)), (a0_21, .inl (a0_21_c, 2, .inl a0_21_f)), (a0_23, .inl (a0_23_c, 16, .inl a0_23_f)), (a0_26, .inl (a0_26_c, 8, .inl a0_26_f)), (a0_29, .inl (a0_29_c, 48, .inl a0_29_f)), (a0_30, .inl (a0_30_c, 48, .inl a0_30_f)), (a0_31, .inl (a0_31_c, 48, .inl a0_31_f)), (a0_32, .inl (a0_32_c, 24, .inl a0_32_f)), (a0_33, .inl (a0_33_c, 24, .inl a0_33_f)), (a0_34, .inl (a0_34_c, 72, .inl a0_34_f)), (a0_35, .inl (a0_35_c, 24, .inl a0_35_f)), (a0_38, .inl (a0_38_c, 176, .inl a0_38_f)), (a0_43, .inl (a0_43_c, 288, .inl za0_43_f))]) (va_A [(a0, .inr (8, [.int a0_0, .int a0_1, .int a0_2, .int a0_3, .ref a0_4, .int a0_5, .int a0_6, .int a0_7, .int a0_8, .int a0_9, .int a0_10, .long a0_11, .int a0_12, .int a0_13, .int a0_14, .int a0_15, .int a0_16, .int a0_17, .ref a0_18, .ref a0_19, .ref a0_20, .ref a0_21, .ref a0_22, .ref a0_23, .ref a0_24, .ref a0_25, .ref a0_26, .ref a0_27, .ref a0_28, .ref a0_29, .ref a0_30, .ref a0_31, .ref a0_32, .ref a0_33, .ref a0_34, .ref a0_35, .long a0_36, .int a0_37, .ref a0_38, .ref a0_39, .int a0_40, .ref a0_41, .ref a0_42, .ref a0_43])), (a0_20, .inl (a0_20_c, 2, .inl a0_20_f)), (a0_21, .inl (a0_21_c, 2, .inl a0_21_f)), (a0_23, .inl (a0_23_c, 16, .inl a0_23_f)), (a0_26, .inl (a0_26_c, 8, .inl a0_26_f)), (a0_29, .inl (a0_29_c, 48, .inl a0_29_f)), (a0_30, .inl (a0_30_c, 48, .inl a0_30_f)), (a0_31, .inl (a0_31_c, 48, .inl a0_31_f)), (a0_32, .inl (a0_32_c, 24, .inl a0_32_f)), (a0_33, .inl (a0_33_c, 24, .inl a0_33_f)), (a0_34, .inl (a0_34_c, 72, .inl a0_34_f)), (a0_35, .inl (a0_35_c, 24, .inl a0_35_f)), (a0_38, .inl (a0_38_c, 176, .inl a0_38_f)), (a0_43, .inl (a0_43_c, 288, .inl a0_43_f))] sz)) 0 0 (va_A [(a0, .inr (8, [.int a0_0, .int a0_1, .int a0_2, .int a0_3, .ref a0_4, .int a0_5, .int a0_6, .int a0_7, .int a0_8, .int a0_9, .int a0_10, .long a0_11, .int a0_12, .int a0_13, .int a0_14, .int a0_15, .int a0_16, .int a0_17, .ref a0_18, .ref a0_19, .ref a0_20, .ref a0_21, .ref a0_22, .ref a0_23, .ref a0_24, .ref a0_25, .ref a0_26, .ref a0_27, .ref a0_28, .ref a0_29, .ref a0_30, .ref a0_31, .ref a0_32, .ref a0_33, .ref a0_34, .ref a0_35, .long a0_36, .int a0_37, .ref a0_38, .ref a0_39, .int a0_40, .ref a0_41, .ref a0_42, .ref a0_43])), (a0_20, .inl (a0_20_c, 2, .inl a0_20_f)), (a0_21, .inl (a0_21_c, 2, .inl a0_21_f)), (a0_23, .inl (a0_23_c, 16, .inl a0_23_f)), (a0_26, .inl (a0_26_c, 8, .inl a0_26_f)), (a0_29, .inl (a0_29_c, 48, .inl a0_29_f)), (a0_30, .inl (a0_30_c, 48, .inl a0_30_f)), (a0_31, .inl (a0_31_c, 48, .inl a0_31_f)), (a0_32, .inl (a0_32_c, 24, .inl a0_32_f)), (a0_33, .inl (a0_33_c, 24, .inl a0_33_f)), (a0_34, .inl (a0_34_c, 72, .inl a0_34_f)), (a0_35, .inl (a0_35_c, 24, .inl a0_35_f)), (a0_38, .inl (a0_38_c, 176, .inl a0_38_f)), (a0_43, .inl (a0_43_c, 288, .inl a0_43_f))] sz) := by
  refine Met.ofW (cc := cX9_opens) (maxL := 3) (ret := (some .int)) (by decide) rfl ?_
  intro p e s m args below meth c s₁ B hml hv
  obtain ⟨rfl, hsz, hP, hK, hD0, hE⟩ := hv
  have hx := B.exec
  have hb := B.bytes
  have hr := B.returns
  have hts0 := atoms_spec (ws := (.code yX9_opens cX9_opens 3 (some .int) :: TBL)) B.pre
  have hts := fun (w : Cond) (h : w ∈ TBL) => hts0 w (List.mem_cons_of_mem _ h)
  have hown : s.vm.findClass RX9 = some m.cls := findClass_of_methodNamed B.named
  have hlocks := B.notSynchronized
  have hN := hE.1
  subst hsz
  have hD := hD0.self (sz := s.heap.size)
  generalize hAe : va_A [(a0, .inr (8, [.int a0_0, .int a0_1, .int a0_2, .int a0_3, .ref a0_4, .int a0_5, .int a0_6, .int a0_7, .int a0_8, .int a0_9, .int a0_10, .long a0_11, .int a0_12, .int a0_13, .int a0_14, .int a0_15, .int a0_16, .int a0_17, .ref a0_18, .ref a0_19, .ref a0_20, .ref a0_21, .ref a0_22, .ref a0_23, .ref a0_24, .ref a0_25, .ref a0_26, .ref a0_27, .ref a0_28, .ref a0_29, .ref a0_30, .ref a0_31, .ref a0_32, .ref a0_33, .ref a0_34, .ref a0_35, .long a0_36, .int a0_37, .ref a0_38, .ref a0_39, .int a0_40, .ref a0_41, .ref a0_42, .ref a0_43])), (a0_20, .inl (a0_20_c, 2, .inl a0_20_f)), (a0_21, .inl (a0_21_c, 2, .inl a0_21_f)), (a0_23, .inl (a0_23_c, 16, .inl a0_23_f)), (a0_26, .inl (a0_26_c, 8, .inl a0_26_f)), (a0_29, .inl (a0_29_c, 48, .inl a0_29_f)), (a0_30, .inl (a0_30_c, 48, .inl a0_30_f)), (a0_31, .inl (a0_31_c, 48, .inl a0_31_f)), (a0_32, .inl (a0_32_c, 24, .inl a0_32_f)), (a0_33, .inl (a0_33_c, 24, .inl a0_33_f)), (a0_34, .inl (a0_34_c, 72, .inl a0_34_f)), (a0_35, .inl (a0_35_c, 24, .inl a0_35_f)), (a0_38, .inl (a0_38_c, 176, .inl a0_38_f)), (a0_43, .inl (a0_43_c, 288, .inl a0_43_f))] s.heap.size = A at hD hE ⊢
  have hA : ∀ q : Nat, s.heap.size ≤ q → A q := fun q h => by rw [← hAe]; exact Or.inr h
  have hS : va_S A s.heap s.heap [] := va_S.rf
  replace hP : va_P (dC, dI) vwCl [(a0, .inr (8, [.int a0_0, .int a0_1, .int a0_2, .int a0_3, .ref a0_4, .int a0_5, .int a0_6, .int a0_7, .int a0_8, .int a0_9, .int a0_10, .long a0_11, .int a0_12, .int a0_13, .int a0_14, .int a0_15, .int a0_16, .int a0_17, .ref a0_18, .ref a0_19, .ref a0_20, .ref a0_21, .ref a0_22, .ref a0_23, .ref a0_24, .ref a0_25, .ref a0_26, .ref a0_27, .ref a0_28, .ref a0_29, .ref a0_30, .ref a0_31, .ref a0_32, .ref a0_33, .ref a0_34, .ref a0_35, .long a0_36, .int a0_37, .ref a0_38, .ref a0_39, .int a0_40, .ref a0_41, .ref a0_42, .ref a0_43])), (a0_20, .inl (a0_20_c, 2, .inl a0_20_f)), (a0_21, .inl (a0_21_c, 2, .inl a0_21_f)), (a0_23, .inl (a0_23_c, 16, .inl a0_23_f)), (a0_26, .inl (a0_26_c, 8, .inl a0_26_f)), (a0_29, .inl (a0_29_c, 48, .inl a0_29_f)), (a0_30, .inl (a0_30_c, 48, .inl a0_30_f)), (a0_31, .inl (a0_31_c, 48, .inl a0_31_f)), (a0_32, .inl (a0_32_c, 24, .inl a0_32_f)), (a0_33, .inl (a0_33_c, 24, .inl a0_33_f)), (a0_34, .inl (a0_34_c, 72, .inl a0_34_f)), (a0_35, .inl (a0_35_c, 24, .inl a0_35_f)), (a0_38, .inl (a0_38_c, 176, .inl a0_38_f)), (a0_43, .inl (a0_43_c, 288, .inl a0_43_f))] s.heap := hP
  have hl := lv_entry ([.ref a0, .int a1, .int a2]) (n := 3) (Nat.le_of_ble_eq_true rfl)
  rw [lg_entry_eq]
  generalize (lg_sl ([.ref a0, .int a1, .int a2]) ++ List.replicate (3 - (lg_sl ([.ref a0, .int a1, .int a2])).length) Slot.unset).toArray = ls at hl ⊢
  have hl : lv_has ls 3 [(0, .ref a0), (1, .int a1), (2, .int a2)] := hl
  have b_a1 := i32b a1
  have b_a2 := i32b a2
  have b_a0_0 := i32b a0_0
  have b_a0_1 := i32b a0_1
  have b_a0_2 := i32b a0_2
  have b_a0_3 := i32b a0_3
  have b_a0_9 := i32b a0_9
  have b_a0_10 := i32b a0_10
  have b_a0_12 := i32b a0_12
  have b_a0_13 := i32b a0_13
  have b_a0_14 := i32b a0_14
  have b_a0_15 := i32b a0_15
  have b_a0_16 := i32b a0_16
  have hp20 := vr_at h_a0_20_f (k := 0) rfl
  have hp21 := vr_at h_a0_21_f (k := 0) rfl
  refine lv_aload_n hx hb dX9_opens_0 rfl (lv_at hl 0 rfl) ?_
  refine lv_iconst (v := 0) hx hb dX9_opens_1 (by decide) ?_
  refine va_put (D := (dC, dI)) (ci := 8) (v := .int 0) (ty := .int) (C := RX9) (T := TX9) (N := 44) hx hb hts inlX9 tyX9 tyX9_ok nmX9 hown hK hP hD hS 0 rgL14_6e084ec rfl 0 (by decide) (hts (.fieldLink RX9 85 "ClosedUntilModel" "thrown" "I") qw_408) (fun _ h9 => h9) rfl (by decide +kernel) rfl rfl (Nat.le_of_ble_eq_true rfl) dX9_opens_2 (fun H locs hP9 hD9 hS9 => ?_)
  clear hP hD hS
  obtain ⟨hP, hD⟩ := rgS14_947ddd8 (e := (a0, .inr (8, [.int 0, .int a0_1, .int a0_2, .int a0_3, .ref a0_4, .int a0_5, .int a0_6, .int a0_7, .int a0_8, .int a0_9, .int a0_10, .long a0_11, .int a0_12, .int a0_13, .int a0_14, .int a0_15, .int a0_16, .int a0_17, .ref a0_18, .ref a0_19, .ref a0_20, .ref a0_21, .ref a0_22, .ref a0_23, .ref a0_24, .ref a0_25, .ref a0_26, .ref a0_27, .ref a0_28, .ref a0_29, .ref a0_30, .ref a0_31, .ref a0_32, .ref a0_33, .ref a0_34, .ref a0_35, .long a0_36, .int a0_37, .ref a0_38, .ref a0_39, .int a0_40, .ref a0_41, .ref a0_42, .ref a0_43]))) hP9 hD9 rfl
  have hS := hS9; clear hP9 hD9 hS9
  refine lv_aload_n hx hb dX9_opens_5 rfl (lv_at hl 0 rfl) ?_
  have qc0 : (0 : Int32).toInt = 0 := by decide
  have hPc := hP
  have hKc := hK
  have hDc := hD
  have hFc := freeW hDc hS hA
  refine va_callv (va_runV (As := []) (rest := []) ⟨hx, hb, hml, hown, hts⟩ (k_X9_laysEnds l dC dI g H.size (a0) (0) (a0_1) (a0_2) (a0_3) (a0_4) (a0_5) (a0_6) (a0_7) (a0_8) (a0_9) (a0_10) (a0_11) (a0_12) (a0_13) (a0_14) (a0_15) (a0_16) (a0_17) (a0_18) (a0_19) (a0_20) (a0_21) (a0_22) (a0_23) (a0_24) (a0_25) (a0_26) (a0_27) (a0_28) (a0_29) (a0_30) (a0_31) (a0_32) (a0_33) (a0_34) (a0_35) (a0_36) (a0_37) (a0_38) (a0_39) (a0_40) (a0_41) (a0_42) (a0_43) (a0_20_c) (a0_20_f) (a0_21_c) (a0_21_f) (a0_23_c) (a0_23_f) (a0_26_c) (a0_26_f) (a0_29_c) (a0_29_f) (a0_30_c) (a0_30_f) (a0_31_c) (a0_31_f) (a0_32_c) (a0_32_f) (a0_33_c) (a0_33_f) (a0_34_c) (a0_34_f) (a0_35_c) (a0_35_f) (a0_38_c) (a0_38_f) (a0_43_c) (a0_43_f) (by omega) (by omega) (by omega) (by omega) (by omega) (by omega) (by omega) h_a0_20_f h_a0_21_f (by assumption) (by assumption)) (cwV 0 hts (gwV qw_630 qw_631 qw_632 qw_386 qw_629) rfl rfl rfl (by decide +kernel) ⟨Nat.le_of_ble_eq_true rfl, Nat.le_of_ble_eq_true rfl⟩) ⟨fun a U g9 mk q => ⟨q.1, q.2.1, q.2.2.1, va_K.moved (u := U) (U := U.calling g9 mk a) (Vm.Alike.refl U.vm) q.2.2.2.1, q.2.2.2.2.1, Ev.bl q.2.2.2.2.2⟩, va_recv hK hP (ci := 8) (q0 := 0) rfl rgL14_6e084ec, fun U hU hW => ⟨rfl, by rw [hU], atB hU hPc, va_K.moved hW.alike hKc, hDc.weaken (fun _ _ _ _ => trivial), hE.go hS hFc hU hW⟩⟩ rfl rfl hl.1 rfl (lv_room (Nat.le_of_ble_eq_true rfl)) dX9_opens_6 ⟨Nat.le_of_ble_eq_true rfl, Nat.le_of_ble_eq_true rfl⟩) hS (fun q _ h => hFc q h) hFc (fun u1 t H1 locs ht hvm h_u1 hB hz1 hk1 hS => ?_)
  obtain ⟨za0_1_3, za0_2_4, za0_3_5, za0_43_f_6, hP1, hK1, hD1⟩ := hB
  have hK1 := va_K.moved hvm.symm hK1
  have hJ9 := rgJ14_93bd4e1 hP hD hk1 hFc (atH ht hP1) hD1
  clear hP hD hPc hKc hDc hFc hP1 hD1 hk1 hz1
  obtain ⟨hP, hD⟩ := hJ9
  clear hK1
  generalize H1 = H at hP hS ⊢
  refine W.widen (k := 0) (n := 0) (Nat.le_of_ble_eq_true rfl) (Nat.le_of_ble_eq_true rfl) ?_
  refine lv_aload_n hx hb dX9_opens_9 rfl (lv_at hl 0 rfl) ?_
  refine lv_iload_n hx hb dX9_opens_10 rfl (lv_at hl 1 rfl) ?_
  have qc0 : (0 : Int32).toInt = 0 := by decide
  have hPc := (rgP14_dbed6f8 hP)
  have hKc := (rgK13_c419d91 hK)
  refine vp_callSi ((va_runV (As := [.int a1]) (rest := []) ⟨hx, hb, hml, hown, hts⟩ (k_X9_isPiece l dC dI g (a0) (a1) (0) (za0_1_3) (za0_2_4) (za0_3_5) (a0_4) (a0_5) (a0_6) (a0_7) (a0_8) (a0_9) (a0_10) (a0_11) (a0_12) (a0_13) (a0_14) (a0_15) (a0_16) (a0_17) (a0_18) (a0_19) (a0_20) (a0_21) (a0_22) (a0_23) (a0_24) (a0_25) (a0_26) (a0_27) (a0_28) (a0_29) (a0_30) (a0_31) (a0_32) (a0_33) (a0_34) (a0_35) (a0_36) (a0_37) (a0_38) (a0_39) (a0_40) (a0_41) (a0_42) (a0_43) (a0_20_c) (a0_20_f) (by omega) (by omega) (by omega) (by omega) (by omega) (by omega) (by omega) h_a0_20_f) (cwV 1 hts (gwV qw_602 qw_603 qw_604 qw_386 qw_601) rfl rfl rfl (by decide +kernel) ⟨Nat.le_of_ble_eq_true rfl, Nat.le_of_ble_eq_true rfl⟩) ⟨fun a U g9 mk q => ⟨q.1, q.2.1, va_K.moved (u := U) (U := U.calling g9 mk a) (Vm.Alike.refl U.vm) q.2.2.1, Ev.bl q.2.2.2⟩, va_recv hK hP (ci := 8) (q0 := 0) rfl rgL14_6e084ec, fun U hU hW => ⟨rfl, atB hU hPc, va_K.moved hW.alike hKc, hE.go hS (fun _ h => h.elim) hU hW⟩⟩ rfl rfl hl.1 rfl (lv_room (Nat.le_of_ble_eq_true rfl)) dX9_opens_11 ⟨Nat.le_of_ble_eq_true rfl, Nat.le_of_ble_eq_true rfl⟩)).run (fun r7 h_r7 => ?_)
  have h_r7 : (r7 = 0 ∨ r7 = 1) ∧ ((r7.toInt = 1 ∧ 0 ≤ a1.toInt ∧ a1.toInt < (a0_20_f 0).toInt) ∨ r7.toInt = 0) := h_r7
  have b_r7 := z01 (show r7 = 0 ∨ r7 = 1 from h_r7.1)
  refine lv_if_eq (tgt := 34) hx hb dX9_opens_14 (by decide) (fun c14_8 => ?_) (fun c14_8 => ?_)
  · have c14_8 : r7.toInt = 0 := (cv_eq rfl (by decide)).mp c14_8
    refine lv_iconst (v := (-1)) hx hb dX9_opens_34 (by decide) ?_
    have qcm1 : ((-1) : Int32).toInt = (-1) := by decide
    have qc0 : (0 : Int32).toInt = 0 := by decide
    refine W.widen (k := 0) (n := 0) (Nat.le_of_ble_eq_true rfl) (Nat.le_of_ble_eq_true rfl) ?_
    have hP9 := hP
    have hD9 := hD
    have hK9 := (rgK13_332f5b0 hK)
    exact W.iret (v := (-1)) hx hb hr (fun t ht hW => ⟨⟨(-1), (-1), rfl, rfl, 0, za0_1_3, za0_2_4, za0_3_5, za0_43_f_6, atB ht hP9, va_K.moved hW.alike hK9, hD9⟩, hS.F ht⟩) hS.2.2 dX9_opens_35
  · have c14_8 : ¬ (r7.toInt = 0) := mt (cv_eq rfl (by decide)).mpr c14_8
    refine lv_iload_n hx hb dX9_opens_17 rfl (lv_at hl 2 rfl) ?_
    have hPc := (rgP14_13c4e7a hP)
    have hKc := (rgK13_332f5b0 hK)
    refine vp_callSi ((va_runS (As := [.int a2]) (rest := []) ⟨hx, hb, hml, hown, hts⟩ (k_X9_areReaders l dC dI g (a2) ) (va_cwS 1 hts (gwS qw_546 qw_547 qw_386 qw_545) rfl rfl rfl (by decide +kernel) ⟨Nat.le_of_ble_eq_true rfl, Nat.le_of_ble_eq_true rfl⟩) ⟨fun a U g9 mk q => ⟨q.1, q.2.1, va_K.moved (u := U) (U := U.calling g9 mk a) (Vm.Alike.refl U.vm) q.2.2.1, Ev.bl q.2.2.2⟩, fun U hU hW => ⟨rfl, atB hU hPc, va_K.moved hW.alike hKc, hE.go hS (fun _ h => h.elim) hU hW⟩⟩ rfl rfl hl.1 rfl (lv_room (Nat.le_of_ble_eq_true rfl)) dX9_opens_18 ⟨Nat.le_of_ble_eq_true rfl, Nat.le_of_ble_eq_true rfl⟩)).run (fun r9 h_r9 => ?_)
    have h_r9 : (r9 = 0 ∨ r9 = 1) := h_r9
    have b_r9 := z01 (show r9 = 0 ∨ r9 = 1 from h_r9)
    refine lv_if_eq (tgt := 34) hx hb dX9_opens_21 (by decide) (fun c21_10 => ?_) (fun c21_10 => ?_)
    · have c21_10 : r9.toInt = 0 := (cv_eq rfl (by decide)).mp c21_10
      refine lv_iconst (v := (-1)) hx hb dX9_opens_34 (by decide) ?_
      have qcm1 : ((-1) : Int32).toInt = (-1) := by decide
      have qc0 : (0 : Int32).toInt = 0 := by decide
      refine W.widen (k := 0) (n := 0) (Nat.le_of_ble_eq_true rfl) (Nat.le_of_ble_eq_true rfl) ?_
      have hP9 := hP
      have hD9 := hD
      have hK9 := (rgK13_332f5b0 hK)
      exact W.iret (v := (-1)) hx hb hr (fun t ht hW => ⟨⟨(-1), (-1), rfl, rfl, 0, za0_1_3, za0_2_4, za0_3_5, za0_43_f_6, atB ht hP9, va_K.moved hW.alike hK9, hD9⟩, hS.F ht⟩) hS.2.2 dX9_opens_35
    · have c21_10 : ¬ (r9.toInt = 0) := mt (cv_eq rfl (by decide)).mpr c21_10
      refine lv_aload_n hx hb dX9_opens_24 rfl (lv_at hl 0 rfl) ?_
      refine lv_iload_n hx hb dX9_opens_25 rfl (lv_at hl 1 rfl) ?_
      refine lv_iload_n hx hb dX9_opens_26 rfl (lv_at hl 2 rfl) ?_
      refine lv_iconst (v := 0) hx hb dX9_opens_27 (by decide) ?_
      have qc0 : (0 : Int32).toInt = 0 := by decide
      have hPc := (rgP14_910b6ce hP)
      have hKc := (rgK13_829f201 hK)
      refine vp_callSi ((va_runV (As := [.int a1, .int a2, .int 0]) (rest := []) ⟨hx, hb, hml, hown, hts⟩ (k_X9_opensOf l dC dI g (a0) (a1) (a2) (0) (0) (za0_1_3) (za0_2_4) (za0_3_5) (a0_4) (a0_5) (a0_6) (a0_7) (a0_8) (a0_9) (a0_10) (a0_11) (a0_12) (a0_13) (a0_14) (a0_15) (a0_16) (a0_17) (a0_18) (a0_19) (a0_20) (a0_21) (a0_22) (a0_23) (a0_24) (a0_25) (a0_26) (a0_27) (a0_28) (a0_29) (a0_30) (a0_31) (a0_32) (a0_33) (a0_34) (a0_35) (a0_36) (a0_37) (a0_38) (a0_39) (a0_40) (a0_41) (a0_42) (a0_43) (a0_21_c) (a0_21_f) (a0_32_c) (a0_32_f) (a0_43_c) (za0_43_f_6) (by omega) (by omega) (by omega) (by omega) (by omega) (by omega) (by omega) h_a0_21_f (by omega)) (cwV 3 hts (gwV qw_542 qw_543 qw_544 qw_386 qw_541) rfl rfl rfl (by decide +kernel) ⟨Nat.le_of_ble_eq_true rfl, Nat.le_of_ble_eq_true rfl⟩) ⟨fun a U g9 mk q => ⟨q.1, q.2.1, va_K.moved (u := U) (U := U.calling g9 mk a) (Vm.Alike.refl U.vm) q.2.2.1, Ev.bl q.2.2.2⟩, va_recv hK hP (ci := 8) (q0 := 0) rfl rgL14_6e084ec, fun U hU hW => ⟨rfl, atB hU hPc, va_K.moved hW.alike hKc, hE.go hS (fun _ h => h.elim) hU hW⟩⟩ rfl rfl hl.1 rfl (lv_room (Nat.le_of_ble_eq_true rfl)) dX9_opens_28 ⟨Nat.le_of_ble_eq_true rfl, Nat.le_of_ble_eq_true rfl⟩)).run (fun r11 h_r11 => ?_)
      have b_r11 := i32b r11
      refine lv_goto (tgt := 35) hx hb dX9_opens_31 (by decide) ?_
      have qc0 : (0 : Int32).toInt = 0 := by decide
      refine W.widen (k := 0) (n := 0) (Nat.le_of_ble_eq_true rfl) (Nat.le_of_ble_eq_true rfl) ?_
      have hP9 := hP
      have hD9 := hD
      have hK9 := (rgK13_332f5b0 hK)
      exact W.iret (v := r11) hx hb hr (fun t ht hW => ⟨⟨r11, r11, rfl, rfl, 0, za0_1_3, za0_2_4, za0_3_5, za0_43_f_6, atB ht hP9, va_K.moved hW.alike hK9, hD9⟩, hS.F ht⟩) hS.2.2 dX9_opens_35
set_option maxHeartbeats 4000000 in
set_option maxRecDepth 100000 in
theorem k_X9_allOf (l : Launch) (dC : Nat → ClassId) (dI : Nat → Nat → Nat) (g : Gv) (sz : Nat) (a0 : Nat) (a1 : Int32) (a2 : Int32) (a0_0 : Int32) (a0_1 : Int32) (a0_2 : Int32) (a0_3 : Int32) (a0_4 : Nat) (a0_5 : Int32) (a0_6 : Int32) (a0_7 : Int32) (a0_8 : Int32) (a0_9 : Int32) (a0_10 : Int32) (a0_11 : Int64) (a0_12 : Int32) (a0_13 : Int32) (a0_14 : Int32) (a0_15 : Int32) (a0_16 : Int32) (a0_17 : Int32) (a0_18 : Nat) (a0_19 : Nat) (a0_20 : Nat) (a0_21 : Nat) (a0_22 : Nat) (a0_23 : Nat) (a0_24 : Nat) (a0_25 : Nat) (a0_26 : Nat) (a0_27 : Nat) (a0_28 : Nat) (a0_29 : Nat) (a0_30 : Nat) (a0_31 : Nat) (a0_32 : Nat) (a0_33 : Nat) (a0_34 : Nat) (a0_35 : Nat) (a0_36 : Int64) (a0_37 : Int32) (a0_38 : Nat) (a0_39 : Nat) (a0_40 : Int32) (a0_41 : Nat) (a0_42 : Nat) (a0_43 : Nat) (a0_20_c : ClassId) (a0_20_f : Nat → Int32) (a0_21_c : ClassId) (a0_21_f : Nat → Int32) (a0_23_c : ClassId) (a0_23_f : Nat → Int32) (a0_26_c : ClassId) (a0_26_f : Nat → Int32) (a0_29_c : ClassId) (a0_29_f : Nat → Int32) (a0_30_c : ClassId) (a0_30_f : Nat → Int32) (a0_31_c : ClassId) (a0_31_f : Nat → Int32) (a0_32_c : ClassId) (a0_32_f : Nat → Int32) (a0_33_c : ClassId) (a0_33_f : Nat → Int32) (a0_34_c : ClassId) (a0_34_f : Nat → Int32) (a0_35_c : ClassId) (a0_35_f : Nat → Int32) (a0_38_c : ClassId) (a0_38_f : Nat → Int32) (a0_43_c : ClassId) (a0_43_f : Nat → Int32) (h_a0_5 : 0 ≤ a0_5.toInt ∧ a0_5.toInt ≤ 1000) (h_a0_6 : 0 ≤ a0_6.toInt ∧ a0_6.toInt ≤ 1000) (h_a0_7 : 0 ≤ a0_7.toInt ∧ a0_7.toInt ≤ 1000) (h_a0_8 : 0 ≤ a0_8.toInt ∧ a0_8.toInt ≤ 1000) (h_a0_17 : 0 ≤ a0_17.toInt ∧ a0_17.toInt ≤ 1) (h_a0_37 : (-1) ≤ a0_37.toInt ∧ a0_37.toInt ≤ 23) (h_a0_40 : 0 ≤ a0_40.toInt ∧ a0_40.toInt ≤ 12) (h_a0_20_f : vr 0 24 a0_20_f) (h_a0_21_f : vr 0 12 a0_21_f) (hms : RowOk (a0_20_f 0).toInt a0_38_f 0) (hmw : WOk a0_32_f a0_33_f 0 (a0_21_f 0).toInt) : Met l yX9_allOf (.code yX9_allOf cX9_allOf 6 (some .int) :: TBL) ({ frames := 8, cells := 0, slots := 0, locals := 186 }) (va_Pc [.ref a0, .int a1, .int a2] (fun U => U.heap.size = sz ∧ va_P (dC, dI) vwCl [(a0, .inr (8, [.int a0_0, .int a0_1, .int a0_2, .int a0_3, .ref a0_4, .int a0_5, .int a0_6, .int a0_7, .int a0_8, .int a0_9, .int a0_10, .long a0_11, .int a0_12, .int a0_13, .int a0_14, .int a0_15, .int a0_16, .int a0_17, .ref a0_18, .ref a0_19, .ref a0_20, .ref a0_21, .ref a0_22, .ref a0_23, .ref a0_24, .ref a0_25, .ref a0_26, .ref a0_27, .ref a0_28, .ref a0_29, .ref a0_30, .ref a0_31, .ref a0_32, .ref a0_33, .ref a0_34, .ref a0_35, .long a0_36, .int a0_37, .ref a0_38, .ref a0_39, .int a0_40, .ref a0_41, .ref a0_42, .ref a0_43])), (a0_20, .inl (a0_20_c, 2, .inl a0_20_f)), (a0_21, .inl (a0_21_c, 2, .inl a0_21_f)), (a0_23, .inl (a0_23_c, 16, .inl a0_23_f)), (a0_26, .inl (a0_26_c, 8, .inl a0_26_f)), (a0_29, .inl (a0_29_c, 48, .inl a0_29_f)), (a0_30, .inl (a0_30_c, 48, .inl a0_30_f)), (a0_31, .inl (a0_31_c, 48, .inl a0_31_f)), (a0_32, .inl (a0_32_c, 24, .inl a0_32_f)), (a0_33, .inl (a0_33_c, 24, .inl a0_33_f)), (a0_34, .inl (a0_34_c, 72, .inl a0_34_f)), (a0_35, .inl (a0_35_c, 24, .inl a0_35_f)), (a0_38, .inl (a0_38_c, 176, .inl a0_38_f)), (a0_43, .inl (a0_43_c, 288, .inl a0_43_f))] U.heap ∧ va_K (dC, dI) vwCl [(a0_20_c, .int), (a0_21_c, .int), (a0_23_c, .int), (a0_26_c, .int), (a0_29_c, .int), (a0_30_c, .int), (a0_31_c, .int), (a0_32_c, .int), (a0_33_c, .int), (a0_34_c, .int), (a0_35_c, .boolean), (a0_38_c, .int), (a0_43_c, .int)] U ∧ va_D (fun _ => True) [(a0, .inr (8, [.int a0_0, .int a0_1, .int a0_2, .int a0_3, .ref a0_4, .int a0_5, .int a0_6, .int a0_7, .int a0_8, .int a0_9, .int a0_10, .long a0_11, .int a0_12, .int a0_13, .int a0_14, .int a0_15, .int a0_16, .int a0_17, .ref a0_18, .ref a0_19, .ref a0_20, .ref a0_21, .ref a0_22, .ref a0_23, .ref a0_24, .ref a0_25, .ref a0_26, .ref a0_27, .ref a0_28, .ref a0_29, .ref a0_30, .ref a0_31, .ref a0_32, .ref a0_33, .ref a0_34, .ref a0_35, .long a0_36, .int a0_37, .ref a0_38, .ref a0_39, .int a0_40, .ref a0_41, .ref a0_42, .ref a0_43])), (a0_20, .inl (a0_20_c, 2, .inl a0_20_f)), (a0_21, .inl (a0_21_c, 2, .inl a0_21_f)), (a0_23, .inl (a0_23_c, 16, .inl a0_23_f)), (a0_26, .inl (a0_26_c, 8, .inl a0_26_f)), (a0_29, .inl (a0_29_c, 48, .inl a0_29_f)), (a0_30, .inl (a0_30_c, 48, .inl a0_30_f)), (a0_31, .inl (a0_31_c, 48, .inl a0_31_f)), (a0_32, .inl (a0_32_c, 24, .inl a0_32_f)), (a0_33, .inl (a0_33_c, 24, .inl a0_33_f)), (a0_34, .inl (a0_34_c, 72, .inl a0_34_f)), (a0_35, .inl (a0_35_c, 24, .inl a0_35_f)), (a0_38, .inl (a0_38_c, 176, .inl a0_38_f)), (a0_43, .inl (a0_43_c, 288, .inl a0_43_f))] ∧ Ev g (va_A [(a0, .inr (8, [.int a0_0, .int a0_1, .int a0_2, .int a0_3, .ref a0_4, .int a0_5, .int a0_6, .int a0_7, .int a0_8, .int a0_9, .int a0_10, .long a0_11, .int a0_12, .int a0_13, .int a0_14, .int a0_15, .int a0_16, .int a0_17, .ref a0_18, .ref a0_19, .ref a0_20, .ref a0_21, .ref a0_22, .ref a0_23, .ref a0_24, .ref a0_25, .ref a0_26, .ref a0_27, .ref a0_28, .ref a0_29, .ref a0_30, .ref a0_31, .ref a0_32, .ref a0_33, .ref a0_34, .ref a0_35, .long a0_36, .int a0_37, .ref a0_38, .ref a0_39, .int a0_40, .ref a0_41, .ref a0_42, .ref a0_43])), (a0_20, .inl (a0_20_c, 2, .inl a0_20_f)), (a0_21, .inl (a0_21_c, 2, .inl a0_21_f)), (a0_23, .inl (a0_23_c, 16, .inl a0_23_f)), (a0_26, .inl (a0_26_c, 8, .inl a0_26_f)), (a0_29, .inl (a0_29_c, 48, .inl a0_29_f)), (a0_30, .inl (a0_30_c, 48, .inl a0_30_f)), (a0_31, .inl (a0_31_c, 48, .inl a0_31_f)), (a0_32, .inl (a0_32_c, 24, .inl a0_32_f)), (a0_33, .inl (a0_33_c, 24, .inl a0_33_f)), (a0_34, .inl (a0_34_c, 72, .inl a0_34_f)), (a0_35, .inl (a0_35_c, 24, .inl a0_35_f)), (a0_38, .inl (a0_38_c, 176, .inl a0_38_f)), (a0_43, .inl (a0_43_c, 288, .inl a0_43_f))] sz) U)) (va_Qi (fun (r : Int32) (u : Int32) => u = r) (fun (u : Int32) (t : State) => ∃ (za0_0 : Int32) (za0_1 : Int32) (za0_2 : Int32) (za0_3 : Int32) (za0_43_f : Nat → Int32), va_P (dC, dI) vwCl [(a0, .inr (8, [.int za0_0, .int za0_1, .int za0_2, .int za0_3, .ref a0_4, .int a0_5, .int a0_6, .int a0_7, .int a0_8, .int a0_9, .int a0_10, .long a0_11, .int a0_12, .int a0_13, .int a0_14, .int a0_15, .int a0_16, .int a0_17, .ref a0_18, .ref a0_19, .ref a0_20, .ref a0_21, .ref a0_22, .ref a0_23, .ref a0_24, .ref a0_25, .ref a0_26, .ref a0_27, .ref a0_28, .ref a0_29, .ref a0_30, .ref a0_31, .ref a0_32, .ref a0_33, .ref a0_34, .ref a0_35, .long a0_36, .int a0_37, .ref a0_38, .ref a0_39, .int a0_40, .ref a0_41, .ref a0_42, .ref a0_43])), (a0_20, .inl (a0_20_c, 2, .inl a0_20_f)), (a0_21, .inl (a0_21_c, 2, .inl a0_21_f)), (a0_23, .inl (a0_23_c, 16, .inl a0_23_f)), (a0_26, .inl (a0_26_c, 8, .inl a0_26_f)), (a0_29, .inl (a0_29_c, 48, .inl a0_29_f)), (a0_30, .inl (a0_30_c, 48, .inl a0_30_f)), (a0_31, .inl (a0_31_c, 48, .inl a0_31_f)), (a0_32, .inl (a0_32_c, 24, .inl a0_32_f)), (a0_33, .inl (a0_33_c, 24, .inl a0_33_f)), (a0_34, .inl (a0_34_c, 72, .inl a0_34_f)), (a0_35, .inl (a0_35_c, 24, .inl a0_35_f)), (a0_38, .inl (a0_38_c, 176, .inl a0_38_f)), (a0_43, .inl (a0_43_c, 288, .inl za0_43_f))] t.heap ∧ va_K (dC, dI) vwCl [] t ∧ va_D (va_A [(a0, .inr (8, [.int a0_0, .int a0_1, .int a0_2, .int a0_3, .ref a0_4, .int a0_5, .int a0_6, .int a0_7, .int a0_8, .int a0_9, .int a0_10, .long a0_11, .int a0_12, .int a0_13, .int a0_14, .int a0_15, .int a0_16, .int a0_17, .ref a0_18, .ref a0_19, .ref a0_20, .ref a0_21, .ref a0_22, .ref a0_23, .ref a0_24, .ref a0_25, .ref a0_26, .ref a0_27, .ref a0_28, .ref a0_29, .ref a0_30, .ref a0_31, .ref a0_32, .ref a0_33, .ref a0_34, .ref a0_35, .long a0_36, .int a0_37, .ref a0_38, .ref a0_39, .int a0_40, .ref a0_41, .ref a0_42, .ref a0_43])), (a0_20, .inl (a0_20_c, 2, .inl a0_20_f)), (a0_21, .inl (a0_21_c, 2, .inl a0_21_f)), (a0_23, .inl (a0_23_c, 16, .inl a0_23_f)), (a0_26, .inl (a0_26_c, 8, .inl a0_26_f)), (a0_29, .inl (a0_29_c, 48, .inl a0_29_f)), (a0_30, .inl (a0_30_c, 48, .inl a0_30_f)), (a0_31, .inl (a0_31_c, 48, .inl a0_31_f)), (a0_32, .inl (a0_32_c, 24, .inl a0_32_f)), (a0_33, .inl (a0_33_c, 24, .inl a0_33_f)), (a0_34, .inl (a0_34_c, 72, .inl a0_34_f)), (a0_35, .inl (a0_35_c, 24, .inl a0_35_f)), (a0_38, .inl (a0_38_c, 176, .inl a0_38_f)), (a0_43, .inl (a0_43_c, 288, .inl a0_43_f))] sz) [(a0, .inr (8, [.int za0_0, .int za0_1, .int za0_2, .int za0_3, .ref a0_4, .int a0_5, .int a0_6, .int a0_7, .int a0_8, .int a0_9, .int a0_10, .long a0_11, .int a0_12, .int a0_13, .int a0_14, .int a0_15, .int a0_16, .int a0_17, .ref a0_18, .ref a0_19, .ref a0_20, .ref a0_21, .ref a0_22, .ref a0_23, .ref a0_24, .ref a0_25, .ref a0_26, .ref a0_27, .ref a0_28, .ref a0_29, .ref a0_30, .ref a0_31, .ref a0_32, .ref a0_33, .ref a0_34, .ref a0_35, .long a0_36, .int a0_37, .ref a0_38, .ref a0_39, .int a0_40, .ref a0_41, .ref a0_42, .ref a0_43])), (a0_20, .inl (a0_20_c, 2, .inl a0_20_f)), (a0_21, .inl (a0_21_c, 2, .inl a0_21_f)), (a0_23, .inl (a0_23_c, 16, .inl a0_23_f)), (a0_26, .inl (a0_26_c, 8, .inl a0_26_f)), (a0_29, .inl (a0_29_c, 48, .inl a0_29_f)), (a0_30, .inl (a0_30_c, 48, .inl a0_30_f)), (a0_31, .inl (a0_31_c, 48, .inl a0_31_f)), (a0_32, .inl (a0_32_c, 24, .inl a0_32_f)), (a0_33, .inl (a0_33_c, 24, .inl a0_33_f)), (a0_34, .inl (a0_34_c, 72, .inl a0_34_f)), (a0_35, .inl (a0_35_c, 24, .inl a0_35_f)), (a0_38, .inl (a0_38_c, 176, .inl a0_38_f)), (a0_43, .inl (a0_43_c, 288, .inl za0_43_f))]) (va_A [(a0, .inr (8, [.int a0_0, .int a0_1, .int a0_2, .int a0_3, .ref a0_4, .int a0_5, .int a0_6, .int a0_7, .int a0_8, .int a0_9, .int a0_10, .long a0_11, .int a0_12, .int a0_13, .int a0_14, .int a0_15, .int a0_16, .int a0_17, .ref a0_18, .ref a0_19, .ref a0_20, .ref a0_21, .ref a0_22, .ref a0_23, .ref a0_24, .ref a0_25, .ref a0_26, .ref a0_27, .ref a0_28, .ref a0_29, .ref a0_30, .ref a0_31, .ref a0_32, .ref a0_33, .ref a0_34, .ref a0_35, .long a0_36, .int a0_37, .ref a0_38, .ref a0_39, .int a0_40, .ref a0_41, .ref a0_42, .ref a0_43])), (a0_20, .inl (a0_20_c, 2, .inl a0_20_f)), (a0_21, .inl (a0_21_c, 2, .inl a0_21_f)), (a0_23, .inl (a0_23_c, 16, .inl a0_23_f)), (a0_26, .inl (a0_26_c, 8, .inl a0_26_f)), (a0_29, .inl (a0_29_c, 48, .inl a0_29_f)), (a0_30, .inl (a0_30_c, 48, .inl a0_30_f)), (a0_31, .inl (a0_31_c, 48, .inl a0_31_f)), (a0_32, .inl (a0_32_c, 24, .inl a0_32_f)), (a0_33, .inl (a0_33_c, 24, .inl a0_33_f)), (a0_34, .inl (a0_34_c, 72, .inl a0_34_f)), (a0_35, .inl (a0_35_c, 24, .inl a0_35_f)), (a0_38, .inl (a0_38_c, 176, .inl a0_38_f)), (a0_43, .inl (a0_43_c, 288, .inl a0_43_f))] sz)) 0 0 (va_A [(a0, .inr (8, [.int a0_0, .int a0_1, .int a0_2, .int a0_3, .ref a0_4, .int a0_5, .int a0_6, .int a0_7, .int a0_8, .int a0_9, .int a0_10, .long a0_11, .int a0_12, .int a0_13, .int a0_14, .int a0_15, .int a0_16, .int a0_17, .ref a0_18, .ref a0_19, .ref a0_20, .ref a0_21, .ref a0_22, .ref a0_23, .ref a0_24, .ref a0_25, .ref a0_26, .ref a0_27, .ref a0_28, .ref a0_29, .ref a0_30, .ref a0_31, .ref a0_32, .ref a0_33, .ref a0_34, .ref a0_35, .long a0_36, .int a0_37, .ref a0_38, .ref a0_39, .int a0_40, .ref a0_41, .ref a0_42, .ref a0_43])), (a0_20, .inl (a0_20_c, 2, .inl a0_20_f)), (a0_21, .inl (a0_21_c, 2, .inl a0_21_f)), (a0_23, .inl (a0_23_c, 16, .inl a0_23_f)), (a0_26, .inl (a0_26_c, 8, .inl a0_26_f)), (a0_29, .inl (a0_29_c, 48, .inl a0_29_f)), (a0_30, .inl (a0_30_c, 48, .inl a0_30_f)), (a0_31, .inl (a0_31_c, 48, .inl a0_31_f)), (a0_32, .inl (a0_32_c, 24, .inl a0_32_f)), (a0_33, .inl (a0_33_c, 24, .inl a0_33_f)), (a0_34, .inl (a0_34_c, 72, .inl a0_34_f)), (a0_35, .inl (a0_35_c, 24, .inl a0_35_f)), (a0_38, .inl (a0_38_c, 176, .inl a0_38_f)), (a0_43, .inl (a0_43_c, 288, .inl a0_43_f))] sz) := by
  refine Met.ofW (cc := cX9_allOf) (maxL := 6) (ret := (some .int)) (by decide) rfl ?_
  intro p e s m args below meth c s₁ B hml hv
  obtain ⟨rfl, hsz, hP, hK, hD0, hE⟩ := hv
  have hx := B.exec
  have hb := B.bytes
  have hr := B.returns
  have hts0 := atoms_spec (ws := (.code yX9_allOf cX9_allOf 6 (some .int) :: TBL)) B.pre
  have hts := fun (w : Cond) (h : w ∈ TBL) => hts0 w (List.mem_cons_of_mem _ h)
  have hown : s.vm.findClass RX9 = some m.cls := findClass_of_methodNamed B.named
  have hlocks := B.notSynchronized
  have hN := hE.1
  subst hsz
  have hD := hD0.self (sz := s.heap.size)
  generalize hAe : va_A [(a0, .inr (8, [.int a0_0, .int a0_1, .int a0_2, .int a0_3, .ref a0_4, .int a0_5, .int a0_6, .int a0_7, .int a0_8, .int a0_9, .int a0_10, .long a0_11, .int a0_12, .int a0_13, .int a0_14, .int a0_15, .int a0_16, .int a0_17, .ref a0_18, .ref a0_19, .ref a0_20, .ref a0_21, .ref a0_22, .ref a0_23, .ref a0_24, .ref a0_25, .ref a0_26, .ref a0_27, .ref a0_28, .ref a0_29, .ref a0_30, .ref a0_31, .ref a0_32, .ref a0_33, .ref a0_34, .ref a0_35, .long a0_36, .int a0_37, .ref a0_38, .ref a0_39, .int a0_40, .ref a0_41, .ref a0_42, .ref a0_43])), (a0_20, .inl (a0_20_c, 2, .inl a0_20_f)), (a0_21, .inl (a0_21_c, 2, .inl a0_21_f)), (a0_23, .inl (a0_23_c, 16, .inl a0_23_f)), (a0_26, .inl (a0_26_c, 8, .inl a0_26_f)), (a0_29, .inl (a0_29_c, 48, .inl a0_29_f)), (a0_30, .inl (a0_30_c, 48, .inl a0_30_f)), (a0_31, .inl (a0_31_c, 48, .inl a0_31_f)), (a0_32, .inl (a0_32_c, 24, .inl a0_32_f)), (a0_33, .inl (a0_33_c, 24, .inl a0_33_f)), (a0_34, .inl (a0_34_c, 72, .inl a0_34_f)), (a0_35, .inl (a0_35_c, 24, .inl a0_35_f)), (a0_38, .inl (a0_38_c, 176, .inl a0_38_f)), (a0_43, .inl (a0_43_c, 288, .inl a0_43_f))] s.heap.size = A at hD hE ⊢
  have hA : ∀ q : Nat, s.heap.size ≤ q → A q := fun q h => by rw [← hAe]; exact Or.inr h
  have hS : va_S A s.heap s.heap [] := va_S.rf
  replace hP : va_P (dC, dI) vwCl [(a0, .inr (8, [.int a0_0, .int a0_1, .int a0_2, .int a0_3, .ref a0_4, .int a0_5, .int a0_6, .int a0_7, .int a0_8, .int a0_9, .int a0_10, .long a0_11, .int a0_12, .int a0_13, .int a0_14, .int a0_15, .int a0_16, .int a0_17, .ref a0_18, .ref a0_19, .ref a0_20, .ref a0_21, .ref a0_22, .ref a0_23, .ref a0_24, .ref a0_25, .ref a0_26, .ref a0_27, .ref a0_28, .ref a0_29, .ref a0_30, .ref a0_31, .ref a0_32, .ref a0_33, .ref a0_34, .ref a0_35, .long a0_36, .int a0_37, .ref a0_38, .ref a0_39, .int a0_40, .ref a0_41, .ref a0_42, .ref a0_43])), (a0_20, .inl (a0_20_c, 2, .inl a0_20_f)), (a0_21, .inl (a0_21_c, 2, .inl a0_21_f)), (a0_23, .inl (a0_23_c, 16, .inl a0_23_f)), (a0_26, .inl (a0_26_c, 8, .inl a0_26_f)), (a0_29, .inl (a0_29_c, 48, .inl a0_29_f)), (a0_30, .inl (a0_30_c, 48, .inl a0_30_f)), (a0_31, .inl (a0_31_c, 48, .inl a0_31_f)), (a0_32, .inl (a0_32_c, 24, .inl a0_32_f)), (a0_33, .inl (a0_33_c, 24, .inl a0_33_f)), (a0_34, .inl (a0_34_c, 72, .inl a0_34_f)), (a0_35, .inl (a0_35_c, 24, .inl a0_35_f)), (a0_38, .inl (a0_38_c, 176, .inl a0_38_f)), (a0_43, .inl (a0_43_c, 288, .inl a0_43_f))] s.heap := hP
  have hl := lv_entry ([.ref a0, .int a1, .int a2]) (n := 6) (Nat.le_of_ble_eq_true rfl)
  rw [lg_entry_eq]
  generalize (lg_sl ([.ref a0, .int a1, .int a2]) ++ List.replicate (6 - (lg_sl ([.ref a0, .int a1, .int a2])).length) Slot.unset).toArray = ls at hl ⊢
  have hl : lv_has ls 6 [(0, .ref a0), (1, .int a1), (2, .int a2)] := hl
  have b_a1 := i32b a1
  have b_a2 := i32b a2
  have b_a0_0 := i32b a0_0
  have b_a0_1 := i32b a0_1
  have b_a0_2 := i32b a0_2
  have b_a0_3 := i32b a0_3
  have b_a0_9 := i32b a0_9
  have b_a0_10 := i32b a0_10
  have b_a0_12 := i32b a0_12
  have b_a0_13 := i32b a0_13
  have b_a0_14 := i32b a0_14
  have b_a0_15 := i32b a0_15
  have b_a0_16 := i32b a0_16
  have hp20 := vr_at h_a0_20_f (k := 0) rfl
  have hp21 := vr_at h_a0_21_f (k := 0) rfl
  refine lv_aload_n hx hb dX9_allOf_0 rfl (lv_at hl 0 rfl) ?_
  refine lv_iconst (v := 0) hx hb dX9_allOf_1 (by decide) ?_
  refine va_put (D := (dC, dI)) (ci := 8) (v := .int 0) (ty := .int) (C := RX9) (T := TX9) (N := 44) hx hb hts inlX9 tyX9 tyX9_ok nmX9 hown hK hP hD hS 0 rgL14_6e084ec rfl 0 (by decide) (hts (.fieldLink RX9 85 "ClosedUntilModel" "thrown" "I") qw_408) (fun _ h9 => h9) rfl (by decide +kernel) rfl rfl (Nat.le_of_ble_eq_true rfl) dX9_allOf_2 (fun H locs hP9 hD9 hS9 => ?_)
  clear hP hD hS
  obtain ⟨hP, hD⟩ := rgS14_947ddd8 (e := (a0, .inr (8, [.int 0, .int a0_1, .int a0_2, .int a0_3, .ref a0_4, .int a0_5, .int a0_6, .int a0_7, .int a0_8, .int a0_9, .int a0_10, .long a0_11, .int a0_12, .int a0_13, .int a0_14, .int a0_15, .int a0_16, .int a0_17, .ref a0_18, .ref a0_19, .ref a0_20, .ref a0_21, .ref a0_22, .ref a0_23, .ref a0_24, .ref a0_25, .ref a0_26, .ref a0_27, .ref a0_28, .ref a0_29, .ref a0_30, .ref a0_31, .ref a0_32, .ref a0_33, .ref a0_34, .ref a0_35, .long a0_36, .int a0_37, .ref a0_38, .ref a0_39, .int a0_40, .ref a0_41, .ref a0_42, .ref a0_43]))) hP9 hD9 rfl
  have hS := hS9; clear hP9 hD9 hS9
  refine lv_aload_n hx hb dX9_allOf_5 rfl (lv_at hl 0 rfl) ?_
  have qc0 : (0 : Int32).toInt = 0 := by decide
  have hPc := hP
  have hKc := hK
  have hDc := hD
  have hFc := freeW hDc hS hA
  refine va_callv (va_runV (As := []) (rest := []) ⟨hx, hb, hml, hown, hts⟩ (k_X9_laysEnds l dC dI g H.size (a0) (0) (a0_1) (a0_2) (a0_3) (a0_4) (a0_5) (a0_6) (a0_7) (a0_8) (a0_9) (a0_10) (a0_11) (a0_12) (a0_13) (a0_14) (a0_15) (a0_16) (a0_17) (a0_18) (a0_19) (a0_20) (a0_21) (a0_22) (a0_23) (a0_24) (a0_25) (a0_26) (a0_27) (a0_28) (a0_29) (a0_30) (a0_31) (a0_32) (a0_33) (a0_34) (a0_35) (a0_36) (a0_37) (a0_38) (a0_39) (a0_40) (a0_41) (a0_42) (a0_43) (a0_20_c) (a0_20_f) (a0_21_c) (a0_21_f) (a0_23_c) (a0_23_f) (a0_26_c) (a0_26_f) (a0_29_c) (a0_29_f) (a0_30_c) (a0_30_f) (a0_31_c) (a0_31_f) (a0_32_c) (a0_32_f) (a0_33_c) (a0_33_f) (a0_34_c) (a0_34_f) (a0_35_c) (a0_35_f) (a0_38_c) (a0_38_f) (a0_43_c) (a0_43_f) (by omega) (by omega) (by omega) (by omega) (by omega) (by omega) (by omega) h_a0_20_f h_a0_21_f (by assumption) (by assumption)) (cwV 0 hts (gwV qw_630 qw_631 qw_632 qw_386 qw_629) rfl rfl rfl (by decide +kernel) ⟨Nat.le_of_ble_eq_true rfl, Nat.le_of_ble_eq_true rfl⟩) ⟨fun a U g9 mk q => ⟨q.1, q.2.1, q.2.2.1, va_K.moved (u := U) (U := U.calling g9 mk a) (Vm.Alike.refl U.vm) q.2.2.2.1, q.2.2.2.2.1, Ev.bl q.2.2.2.2.2⟩, va_recv hK hP (ci := 8) (q0 := 0) rfl rgL14_6e084ec, fun U hU hW => ⟨rfl, by rw [hU], atB hU hPc, va_K.moved hW.alike hKc, hDc.weaken (fun _ _ _ _ => trivial), hE.go hS hFc hU hW⟩⟩ rfl rfl hl.1 rfl (lv_room (Nat.le_of_ble_eq_true rfl)) dX9_allOf_6 ⟨Nat.le_of_ble_eq_true rfl, Nat.le_of_ble_eq_true rfl⟩) hS (fun q _ h => hFc q h) hFc (fun u1 t H1 locs ht hvm h_u1 hB hz1 hk1 hS => ?_)
  obtain ⟨za0_1_3, za0_2_4, za0_3_5, za0_43_f_6, hP1, hK1, hD1⟩ := hB
  have hK1 := va_K.moved hvm.symm hK1
  have hJ9 := rgJ14_93bd4e1 hP hD hk1 hFc (atH ht hP1) hD1
  clear hP hD hPc hKc hDc hFc hP1 hD1 hk1 hz1
  obtain ⟨hP, hD⟩ := hJ9
  clear hK1
  generalize H1 = H at hP hS ⊢
  refine W.widen (k := 0) (n := 0) (Nat.le_of_ble_eq_true rfl) (Nat.le_of_ble_eq_true rfl) ?_
  refine lv_aload_n hx hb dX9_allOf_9 rfl (lv_at hl 0 rfl) ?_
  refine lv_iload_n hx hb dX9_allOf_10 rfl (lv_at hl 1 rfl) ?_
  have qc0 : (0 : Int32).toInt = 0 := by decide
  have hPc := (rgP14_dbed6f8 hP)
  have hKc := (rgK13_c419d91 hK)
  refine vp_callSi ((va_runV (As := [.int a1]) (rest := []) ⟨hx, hb, hml, hown, hts⟩ (k_X9_isPiece l dC dI g (a0) (a1) (0) (za0_1_3) (za0_2_4) (za0_3_5) (a0_4) (a0_5) (a0_6) (a0_7) (a0_8) (a0_9) (a0_10) (a0_11) (a0_12) (a0_13) (a0_14) (a0_15) (a0_16) (a0_17) (a0_18) (a0_19) (a0_20) (a0_21) (a0_22) (a0_23) (a0_24) (a0_25) (a0_26) (a0_27) (a0_28) (a0_29) (a0_30) (a0_31) (a0_32) (a0_33) (a0_34) (a0_35) (a0_36) (a0_37) (a0_38) (a0_39) (a0_40) (a0_41) (a0_42) (a0_43) (a0_20_c) (a0_20_f) (by omega) (by omega) (by omega) (by omega) (by omega) (by omega) (by omega) h_a0_20_f) (cwV 1 hts (gwV qw_602 qw_603 qw_604 qw_386 qw_601) rfl rfl rfl (by decide +kernel) ⟨Nat.le_of_ble_eq_true rfl, Nat.le_of_ble_eq_true rfl⟩) ⟨fun a U g9 mk q => ⟨q.1, q.2.1, va_K.moved (u := U) (U := U.calling g9 mk a) (Vm.Alike.refl U.vm) q.2.2.1, Ev.bl q.2.2.2⟩, va_recv hK hP (ci := 8) (q0 := 0) rfl rgL14_6e084ec, fun U hU hW => ⟨rfl, atB hU hPc, va_K.moved hW.alike hKc, hE.go hS (fun _ h => h.elim) hU hW⟩⟩ rfl rfl hl.1 rfl (lv_room (Nat.le_of_ble_eq_true rfl)) dX9_allOf_11 ⟨Nat.le_of_ble_eq_true rfl, Nat.le_of_ble_eq_true rfl⟩)).run (fun r7 h_r7 => ?_)
  have h_r7 : (r7 = 0 ∨ r7 = 1) ∧ ((r7.toInt = 1 ∧ 0 ≤ a1.toInt ∧ a1.toInt < (a0_20_f 0).toInt) ∨ r7.toInt = 0) := h_r7
  have b_r7 := z01 (show r7 = 0 ∨ r7 = 1 from h_r7.1)
  refine lv_if_eq (tgt := 24) hx hb dX9_allOf_14 (by decide) (fun c14_8 => ?_) (fun c14_8 => ?_)
  · have c14_8 : r7.toInt = 0 := (cv_eq rfl (by decide)).mp c14_8
    refine lv_iconst (v := (-1)) hx hb dX9_allOf_24 (by decide) ?_
    have qcm1 : ((-1) : Int32).toInt = (-1) := by decide
    have qc0 : (0 : Int32).toInt = 0 := by decide
    refine W.widen (k := 0) (n := 0) (Nat.le_of_ble_eq_true rfl) (Nat.le_of_ble_eq_true rfl) ?_
    have hP9 := hP
    have hD9 := hD
    have hK9 := (rgK13_332f5b0 hK)
    exact W.iret (v := (-1)) hx hb hr (fun t ht hW => ⟨⟨(-1), (-1), rfl, rfl, 0, za0_1_3, za0_2_4, za0_3_5, za0_43_f_6, atB ht hP9, va_K.moved hW.alike hK9, hD9⟩, hS.F ht⟩) hS.2.2 dX9_allOf_25
  · have c14_8 : ¬ (r7.toInt = 0) := mt (cv_eq rfl (by decide)).mpr c14_8
    refine lv_iload_n hx hb dX9_allOf_17 rfl (lv_at hl 2 rfl) ?_
    have hPc := (rgP14_13c4e7a hP)
    have hKc := (rgK13_332f5b0 hK)
    refine vp_callSi ((va_runS (As := [.int a2]) (rest := []) ⟨hx, hb, hml, hown, hts⟩ (k_X9_areReaders l dC dI g (a2) ) (va_cwS 1 hts (gwS qw_546 qw_547 qw_386 qw_545) rfl rfl rfl (by decide +kernel) ⟨Nat.le_of_ble_eq_true rfl, Nat.le_of_ble_eq_true rfl⟩) ⟨fun a U g9 mk q => ⟨q.1, q.2.1, va_K.moved (u := U) (U := U.calling g9 mk a) (Vm.Alike.refl U.vm) q.2.2.1, Ev.bl q.2.2.2⟩, fun U hU hW => ⟨rfl, atB hU hPc, va_K.moved hW.alike hKc, hE.go hS (fun _ h => h.elim) hU hW⟩⟩ rfl rfl hl.1 rfl (lv_room (Nat.le_of_ble_eq_true rfl)) dX9_allOf_18 ⟨Nat.le_of_ble_eq_true rfl, Nat.le_of_ble_eq_true rfl⟩)).run (fun r9 h_r9 => ?_)
    have h_r9 : (r9 = 0 ∨ r9 = 1) := h_r9
    have b_r9 := z01 (show r9 = 0 ∨ r9 = 1 from h_r9)
    refine lv_if_ne (tgt := 26) hx hb dX9_allOf_21 (by decide) (fun c21_10 => ?_) (fun c21_10 => ?_)
    · have c21_10 : ¬ (r9.toInt = 0) := mt (cv_eq rfl (by decide)).mpr c21_10
      refine lv_iconst (v := 0) hx hb dX9_allOf_26 (by decide) ?_
      refine lv_istore_n (lv' := [(3, .int 0), (0, .ref a0), (1, .int a1), (2, .int a2)]) hx hb dX9_allOf_27 rfl hl (by decide) rfl (fun ls hl => ?_)
      refine lv_iconst (v := 0) hx hb dX9_allOf_28 (by decide) ?_
      refine lv_istore (lv' := [(4, .int 0), (3, .int 0), (0, .ref a0), (1, .int a1), (2, .int a2)]) hx hb dX9_allOf_29 hl (by decide) rfl (fun ls hl => ?_)
      have qc0 : (0 : Int32).toInt = 0 := by decide
      refine wloop (fun n H locs ls => ∃ (l31_4 : Int32) (l31_3 : Int32), n = (2147483647 - l31_4.toInt).toNat ∧ (0 ≤ l31_4.toInt) ∧ lv_has ls 6 [(4, .int l31_4), (3, .int l31_3), (0, .ref a0), (1, .int a1), (2, .int a2)] ∧ va_P (dC, dI) vwCl [(a0, .inr (8, [.int 0, .int za0_1_3, .int za0_2_4, .int za0_3_5, .ref a0_4, .int a0_5, .int a0_6, .int a0_7, .int a0_8, .int a0_9, .int a0_10, .long a0_11, .int a0_12, .int a0_13, .int a0_14, .int a0_15, .int a0_16, .int a0_17, .ref a0_18, .ref a0_19, .ref a0_20, .ref a0_21, .ref a0_22, .ref a0_23, .ref a0_24, .ref a0_25, .ref a0_26, .ref a0_27, .ref a0_28, .ref a0_29, .ref a0_30, .ref a0_31, .ref a0_32, .ref a0_33, .ref a0_34, .ref a0_35, .long a0_36, .int a0_37, .ref a0_38, .ref a0_39, .int a0_40, .ref a0_41, .ref a0_42, .ref a0_43])), (a0_20, .inl (a0_20_c, 2, .inl a0_20_f)), (a0_21, .inl (a0_21_c, 2, .inl a0_21_f)), (a0_23, .inl (a0_23_c, 16, .inl a0_23_f)), (a0_26, .inl (a0_26_c, 8, .inl a0_26_f)), (a0_29, .inl (a0_29_c, 48, .inl a0_29_f)), (a0_30, .inl (a0_30_c, 48, .inl a0_30_f)), (a0_31, .inl (a0_31_c, 48, .inl a0_31_f)), (a0_32, .inl (a0_32_c, 24, .inl a0_32_f)), (a0_33, .inl (a0_33_c, 24, .inl a0_33_f)), (a0_34, .inl (a0_34_c, 72, .inl a0_34_f)), (a0_35, .inl (a0_35_c, 24, .inl a0_35_f)), (a0_38, .inl (a0_38_c, 176, .inl a0_38_f)), (a0_43, .inl (a0_43_c, 288, .inl za0_43_f_6))] H ∧ va_D A [(a0, .inr (8, [.int 0, .int za0_1_3, .int za0_2_4, .int za0_3_5, .ref a0_4, .int a0_5, .int a0_6, .int a0_7, .int a0_8, .int a0_9, .int a0_10, .long a0_11, .int a0_12, .int a0_13, .int a0_14, .int a0_15, .int a0_16, .int a0_17, .ref a0_18, .ref a0_19, .ref a0_20, .ref a0_21, .ref a0_22, .ref a0_23, .ref a0_24, .ref a0_25, .ref a0_26, .ref a0_27, .ref a0_28, .ref a0_29, .ref a0_30, .ref a0_31, .ref a0_32, .ref a0_33, .ref a0_34, .ref a0_35, .long a0_36, .int a0_37, .ref a0_38, .ref a0_39, .int a0_40, .ref a0_41, .ref a0_42, .ref a0_43])), (a0_20, .inl (a0_20_c, 2, .inl a0_20_f)), (a0_21, .inl (a0_21_c, 2, .inl a0_21_f)), (a0_23, .inl (a0_23_c, 16, .inl a0_23_f)), (a0_26, .inl (a0_26_c, 8, .inl a0_26_f)), (a0_29, .inl (a0_29_c, 48, .inl a0_29_f)), (a0_30, .inl (a0_30_c, 48, .inl a0_30_f)), (a0_31, .inl (a0_31_c, 48, .inl a0_31_f)), (a0_32, .inl (a0_32_c, 24, .inl a0_32_f)), (a0_33, .inl (a0_33_c, 24, .inl a0_33_f)), (a0_34, .inl (a0_34_c, 72, .inl a0_34_f)), (a0_35, .inl (a0_35_c, 24, .inl a0_35_f)), (a0_38, .inl (a0_38_c, 176, .inl a0_38_f)), (a0_43, .inl (a0_43_c, 288, .inl za0_43_f_6))] ∧ va_S A s.heap H locs) ?_ ((2147483647 - (0 : Int32).toInt).toNat) _ _ _ ⟨0, 0, rfl, (by omega), lv_sub hl [0, 1, 2, 3, 4] rfl, hP, hD, hS⟩
      intro n31 H locs ls hI ih31
      obtain ⟨l31_4, l31_3, hn31, g_l31_4, hl, hP, hD, hS⟩ := hI
      have b_l31_4 := i32b l31_4
      have b_l31_3 := i32b l31_3
      refine lv_iload hx hb dX9_allOf_31 (lv_at hl 0 rfl) ?_
      refine lv_aload_n hx hb dX9_allOf_33 rfl (lv_at hl 2 rfl) ?_
      refine va_get (D := (dC, dI)) (ci := 8) (v := .ref a0_20) (C := RX9) (T := TX9) (N := 44) hx hb hts inlX9 hown hK hP 0 rgL14_6e084ec rfl 20 (by decide) (hts (.fieldLink RX9 20 "ClosedUntilModel" "pieces" "[I") qw_439) (fun _ h9 => h9) rfl dX9_allOf_34 ?_
      refine lv_iconst (v := 0) hx hb dX9_allOf_37 (by decide) ?_
      refine va_iald hx hb hK hP 1 0 rgL14_2dacc1d rgT13_f65b496 (vin0 (by decide)) dX9_allOf_38 ?_
      refine lv_topi (fun x11 e_x11 => ?_)
      have q_x11 : x11.toInt = (a0_20_f 0).toInt := congrArg Int32.toInt e_x11
      have b_x11 : 0 ≤ x11.toInt ∧ x11.toInt ≤ 24 := vr_at (lo := 0) (hi := 24) (f := a0_20_f) h_a0_20_f e_x11
      refine lv_icmp_ge (tgt := 84) hx hb dX9_allOf_39 (by decide) (fun c39_12 => ?_) (fun c39_12 => ?_)
      · have c39_12 : x11.toInt ≤ l31_4.toInt := (cv_le rfl rfl).mp c39_12
        refine lv_iload_n hx hb dX9_allOf_84 rfl (lv_at hl 1 rfl) ?_
        have qc0 : (0 : Int32).toInt = 0 := by decide
        refine W.widen (k := 0) (n := 0) (Nat.le_of_ble_eq_true rfl) (Nat.le_of_ble_eq_true rfl) ?_
        have hP9 := hP
        have hD9 := hD
        have hK9 := (rgK13_332f5b0 hK)
        exact W.iret (v := l31_3) hx hb hr (fun t ht hW => ⟨⟨l31_3, l31_3, rfl, rfl, 0, za0_1_3, za0_2_4, za0_3_5, za0_43_f_6, atB ht hP9, va_K.moved hW.alike hK9, hD9⟩, hS.F ht⟩) hS.2.2 dX9_allOf_85
      · have c39_12 : ¬ (x11.toInt ≤ l31_4.toInt) := mt (cv_le rfl rfl).mpr c39_12
        refine lv_aload_n hx hb dX9_allOf_42 rfl (lv_at hl 2 rfl) ?_
        refine lv_iload hx hb dX9_allOf_43 (lv_at hl 0 rfl) ?_
        refine lv_iload_n hx hb dX9_allOf_45 rfl (lv_at hl 3 rfl) ?_
        have qc0 : (0 : Int32).toInt = 0 := by decide
        have hPc := (rgP14_6b4c51b hP)
        have hKc := (rgK13_95aefbf hK)
        refine vp_callSi ((va_runV (As := [.int l31_4, .int a1]) (rest := []) ⟨hx, hb, hml, hown, hts⟩ (k_X9_isUnder l dC dI g (a0) (l31_4) (a1) (0) (za0_1_3) (za0_2_4) (za0_3_5) (a0_4) (a0_5) (a0_6) (a0_7) (a0_8) (a0_9) (a0_10) (a0_11) (a0_12) (a0_13) (a0_14) (a0_15) (a0_16) (a0_17) (a0_18) (a0_19) (a0_20) (a0_21) (a0_22) (a0_23) (a0_24) (a0_25) (a0_26) (a0_27) (a0_28) (a0_29) (a0_30) (a0_31) (a0_32) (a0_33) (a0_34) (a0_35) (a0_36) (a0_37) (a0_38) (a0_39) (a0_40) (a0_41) (a0_42) (a0_43) (a0_38_c) (a0_38_f) ((a0_20_f 0).toInt) (by omega) (by omega) (by omega) (by omega) (by omega) (by omega) (by omega) (by omega) (by assumption) (by omega) (by omega)) (cwV 2 hts (gwV qw_504 qw_505 qw_506 qw_386 qw_503) rfl rfl rfl (by decide +kernel) ⟨Nat.le_of_ble_eq_true rfl, Nat.le_of_ble_eq_true rfl⟩) ⟨fun a U g9 mk q => ⟨q.1, q.2.1, va_K.moved (u := U) (U := U.calling g9 mk a) (Vm.Alike.refl U.vm) q.2.2.1, Ev.bl q.2.2.2⟩, va_recv hK hP (ci := 8) (q0 := 0) rfl rgL14_6e084ec, fun U hU hW => ⟨rfl, atB hU hPc, va_K.moved hW.alike hKc, hE.go hS (fun _ h => h.elim) hU hW⟩⟩ rfl rfl hl.1 rfl (lv_room (Nat.le_of_ble_eq_true rfl)) dX9_allOf_46 ⟨Nat.le_of_ble_eq_true rfl, Nat.le_of_ble_eq_true rfl⟩)).run (fun r13 h_r13 => ?_)
        have h_r13 : (r13 = 0 ∨ r13 = 1) ∧ (r13.toInt = 0 → UQ a0_38_f a1 l31_4) := h_r13
        have b_r13 := z01 (show r13 = 0 ∨ r13 = 1 from h_r13.1)
        refine lv_if_ne (tgt := 55) hx hb dX9_allOf_49 (by decide) (fun c49_14 => ?_) (fun c49_14 => ?_)
        · have c49_14 : ¬ (r13.toInt = 0) := mt (cv_eq rfl (by decide)).mpr c49_14
          refine lv_aload_n hx hb dX9_allOf_55 rfl (lv_at hl 2 rfl) ?_
          refine lv_iload hx hb dX9_allOf_56 (lv_at hl 0 rfl) ?_
          refine lv_iload_n hx hb dX9_allOf_58 rfl (lv_at hl 4 rfl) ?_
          refine lv_iconst (v := 0) hx hb dX9_allOf_59 (by decide) ?_
          have qc0 : (0 : Int32).toInt = 0 := by decide
          have hPc := (rgP14_910b6ce hP)
          have hKc := (rgK13_829f201 hK)
          refine vp_callSi ((va_runV (As := [.int l31_4, .int a2, .int 0]) (rest := []) ⟨hx, hb, hml, hown, hts⟩ (k_X9_opensOf l dC dI g (a0) (l31_4) (a2) (0) (0) (za0_1_3) (za0_2_4) (za0_3_5) (a0_4) (a0_5) (a0_6) (a0_7) (a0_8) (a0_9) (a0_10) (a0_11) (a0_12) (a0_13) (a0_14) (a0_15) (a0_16) (a0_17) (a0_18) (a0_19) (a0_20) (a0_21) (a0_22) (a0_23) (a0_24) (a0_25) (a0_26) (a0_27) (a0_28) (a0_29) (a0_30) (a0_31) (a0_32) (a0_33) (a0_34) (a0_35) (a0_36) (a0_37) (a0_38) (a0_39) (a0_40) (a0_41) (a0_42) (a0_43) (a0_21_c) (a0_21_f) (a0_32_c) (a0_32_f) (a0_43_c) (za0_43_f_6) (by omega) (by omega) (by omega) (by omega) (by omega) (by omega) (by omega) h_a0_21_f (by omega)) (cwV 3 hts (gwV qw_542 qw_543 qw_544 qw_386 qw_541) rfl rfl rfl (by decide +kernel) ⟨Nat.le_of_ble_eq_true rfl, Nat.le_of_ble_eq_true rfl⟩) ⟨fun a U g9 mk q => ⟨q.1, q.2.1, va_K.moved (u := U) (U := U.calling g9 mk a) (Vm.Alike.refl U.vm) q.2.2.1, Ev.bl q.2.2.2⟩, va_recv hK hP (ci := 8) (q0 := 0) rfl rgL14_6e084ec, fun U hU hW => ⟨rfl, atB hU hPc, va_K.moved hW.alike hKc, hE.go hS (fun _ h => h.elim) hU hW⟩⟩ rfl rfl hl.1 rfl (lv_room (Nat.le_of_ble_eq_true rfl)) dX9_allOf_60 ⟨Nat.le_of_ble_eq_true rfl, Nat.le_of_ble_eq_true rfl⟩)).run (fun r15 h_r15 => ?_)
          have b_r15 := i32b r15
          refine lv_istore (lv' := [(5, .int r15), (4, .int l31_4), (3, .int l31_3), (0, .ref a0), (1, .int a1), (2, .int a2)]) hx hb dX9_allOf_63 hl (by decide) rfl (fun ls hl => ?_)
          refine lv_iload hx hb dX9_allOf_65 (lv_at hl 0 rfl) ?_
          refine lv_iload_n hx hb dX9_allOf_67 rfl (lv_at hl 2 rfl) ?_
          refine lv_icmp_le (tgt := 76) hx hb dX9_allOf_68 (by decide) (fun c68_16 => ?_) (fun c68_16 => ?_)
          · have c68_16 : r15.toInt ≤ l31_3.toInt := (cv_le rfl rfl).mp c68_16
            refine lv_iload_n hx hb dX9_allOf_76 rfl (lv_at hl 2 rfl) ?_
            refine lv_istore_n (lv' := [(3, .int l31_3), (5, .int r15), (4, .int l31_4), (0, .ref a0), (1, .int a1), (2, .int a2)]) hx hb dX9_allOf_77 rfl hl (by decide) rfl (fun ls hl => ?_)
            obtain ⟨x17, e_x17⟩ : ∃ y : Int32, y = l31_4 + 1 := ⟨_, rfl⟩
            refine lv_iinc (v := x17) (lv' := [(4, .int x17), (3, .int l31_3), (5, .int r15), (0, .ref a0), (1, .int a1), (2, .int a2)]) hx hb dX9_allOf_78 hl (k := 2) rfl (by rw [e_x17]; rfl) (by decide) rfl (fun ls hl => ?_)
            try have e_x17 := ti_add e_x17 rfl (show (1 : Int32).toInt = 1 by decide) (by omega)
            refine lv_goto (tgt := 31) hx hb dX9_allOf_81 (by decide) ?_
            exact ih31 ((2147483647 - x17.toInt).toNat) _ _ _ (by omega) ⟨x17, l31_3, rfl, (by omega), lv_sub hl [0, 1, 3, 4, 5] rfl, hP, hD, hS⟩
          · have c68_16 : ¬ (r15.toInt ≤ l31_3.toInt) := mt (cv_le rfl rfl).mpr c68_16
            refine lv_iload hx hb dX9_allOf_71 (lv_at hl 0 rfl) ?_
            refine lv_goto (tgt := 77) hx hb dX9_allOf_73 (by decide) ?_
            refine lv_istore_n (lv' := [(3, .int r15), (5, .int r15), (4, .int l31_4), (0, .ref a0), (1, .int a1), (2, .int a2)]) hx hb dX9_allOf_77 rfl hl (by decide) rfl (fun ls hl => ?_)
            obtain ⟨x18, e_x18⟩ : ∃ y : Int32, y = l31_4 + 1 := ⟨_, rfl⟩
            refine lv_iinc (v := x18) (lv' := [(4, .int x18), (3, .int r15), (5, .int r15), (0, .ref a0), (1, .int a1), (2, .int a2)]) hx hb dX9_allOf_78 hl (k := 2) rfl (by rw [e_x18]; rfl) (by decide) rfl (fun ls hl => ?_)
            try have e_x18 := ti_add e_x18 rfl (show (1 : Int32).toInt = 1 by decide) (by omega)
            refine lv_goto (tgt := 31) hx hb dX9_allOf_81 (by decide) ?_
            exact ih31 ((2147483647 - x18.toInt).toNat) _ _ _ (by omega) ⟨x18, r15, rfl, (by omega), lv_sub hl [0, 1, 3, 4, 5] rfl, hP, hD, hS⟩
        · have c49_14 : r13.toInt = 0 := (cv_eq rfl (by decide)).mp c49_14
          refine lv_goto (tgt := 78) hx hb dX9_allOf_52 (by decide) ?_
          obtain ⟨x19, e_x19⟩ : ∃ y : Int32, y = l31_4 + 1 := ⟨_, rfl⟩
          refine lv_iinc (v := x19) (lv' := [(4, .int x19), (3, .int l31_3), (0, .ref a0), (1, .int a1), (2, .int a2)]) hx hb dX9_allOf_78 hl (k := 0) rfl (by rw [e_x19]; rfl) (by decide) rfl (fun ls hl => ?_)
          try have e_x19 := ti_add e_x19 rfl (show (1 : Int32).toInt = 1 by decide) (by omega)
          refine lv_goto (tgt := 31) hx hb dX9_allOf_81 (by decide) ?_
          exact ih31 ((2147483647 - x19.toInt).toNat) _ _ _ (by omega) ⟨x19, l31_3, rfl, (by omega), lv_sub hl [0, 1, 2, 3, 4] rfl, hP, hD, hS⟩
    · have c21_10 : r9.toInt = 0 := (cv_eq rfl (by decide)).mp c21_10
      refine lv_iconst (v := (-1)) hx hb dX9_allOf_24 (by decide) ?_
      have qcm1 : ((-1) : Int32).toInt = (-1) := by decide
      have qc0 : (0 : Int32).toInt = 0 := by decide
      refine W.widen (k := 0) (n := 0) (Nat.le_of_ble_eq_true rfl) (Nat.le_of_ble_eq_true rfl) ?_
      have hP9 := hP
      have hD9 := hD
      have hK9 := (rgK13_332f5b0 hK)
      exact W.iret (v := (-1)) hx hb hr (fun t ht hW => ⟨⟨(-1), (-1), rfl, rfl, 0, za0_1_3, za0_2_4, za0_3_5, za0_43_f_6, atB ht hP9, va_K.moved hW.alike hK9, hD9⟩, hS.F ht⟩) hS.2.2 dX9_allOf_25
set_option maxHeartbeats 4000000 in
set_option maxRecDepth 100000 in
theorem k_X9_reason (l : Launch) (dC : Nat → ClassId) (dI : Nat → Nat → Nat) (g : Gv) (sz : Nat) (a0 : Nat) (a1 : Int32) (a2 : Int32) (a0_0 : Int32) (a0_1 : Int32) (a0_2 : Int32) (a0_3 : Int32) (a0_4 : Nat) (a0_5 : Int32) (a0_6 : Int32) (a0_7 : Int32) (a0_8 : Int32) (a0_9 : Int32) (a0_10 : Int32) (a0_11 : Int64) (a0_12 : Int32) (a0_13 : Int32) (a0_14 : Int32) (a0_15 : Int32) (a0_16 : Int32) (a0_17 : Int32) (a0_18 : Nat) (a0_19 : Nat) (a0_20 : Nat) (a0_21 : Nat) (a0_22 : Nat) (a0_23 : Nat) (a0_24 : Nat) (a0_25 : Nat) (a0_26 : Nat) (a0_27 : Nat) (a0_28 : Nat) (a0_29 : Nat) (a0_30 : Nat) (a0_31 : Nat) (a0_32 : Nat) (a0_33 : Nat) (a0_34 : Nat) (a0_35 : Nat) (a0_36 : Int64) (a0_37 : Int32) (a0_38 : Nat) (a0_39 : Nat) (a0_40 : Int32) (a0_41 : Nat) (a0_42 : Nat) (a0_43 : Nat) (a0_20_c : ClassId) (a0_20_f : Nat → Int32) (a0_21_c : ClassId) (a0_21_f : Nat → Int32) (a0_23_c : ClassId) (a0_23_f : Nat → Int32) (a0_26_c : ClassId) (a0_26_f : Nat → Int32) (a0_29_c : ClassId) (a0_29_f : Nat → Int32) (a0_30_c : ClassId) (a0_30_f : Nat → Int32) (a0_31_c : ClassId) (a0_31_f : Nat → Int32) (a0_32_c : ClassId) (a0_32_f : Nat → Int32) (a0_33_c : ClassId) (a0_33_f : Nat → Int32) (a0_34_c : ClassId) (a0_34_f : Nat → Int32) (a0_35_c : ClassId) (a0_35_f : Nat → Int32) (a0_38_c : ClassId) (a0_38_f : Nat → Int32) (a0_43_c : ClassId) (a0_43_f : Nat → Int32) (h_a0_5 : 0 ≤ a0_5.toInt ∧ a0_5.toInt ≤ 1000) (h_a0_6 : 0 ≤ a0_6.toInt ∧ a0_6.toInt ≤ 1000) (h_a0_7 : 0 ≤ a0_7.toInt ∧ a0_7.toInt ≤ 1000) (h_a0_8 : 0 ≤ a0_8.toInt ∧ a0_8.toInt ≤ 1000) (h_a0_17 : 0 ≤ a0_17.toInt ∧ a0_17.toInt ≤ 1) (h_a0_37 : (-1) ≤ a0_37.toInt ∧ a0_37.toInt ≤ 23) (h_a0_40 : 0 ≤ a0_40.toInt ∧ a0_40.toInt ≤ 12) (h_a0_20_f : vr 0 24 a0_20_f) (h_a0_21_f : vr 0 12 a0_21_f) (hms : RowOk (a0_20_f 0).toInt a0_38_f 0) (hmw : WOk a0_32_f a0_33_f 0 (a0_21_f 0).toInt) : Met l yX9_reason (.code yX9_reason cX9_reason 5 (some .int) :: TBL) ({ frames := 8, cells := 0, slots := 0, locals := 186 }) (va_Pc [.ref a0, .int a1, .int a2] (fun U => U.heap.size = sz ∧ va_P (dC, dI) vwCl [(a0, .inr (8, [.int a0_0, .int a0_1, .int a0_2, .int a0_3, .ref a0_4, .int a0_5, .int a0_6, .int a0_7, .int a0_8, .int a0_9, .int a0_10, .long a0_11, .int a0_12, .int a0_13, .int a0_14, .int a0_15, .int a0_16, .int a0_17, .ref a0_18, .ref a0_19, .ref a0_20, .ref a0_21, .ref a0_22, .ref a0_23, .ref a0_24, .ref a0_25, .ref a0_26, .ref a0_27, .ref a0_28, .ref a0_29, .ref a0_30, .ref a0_31, .ref a0_32, .ref a0_33, .ref a0_34, .ref a0_35, .long a0_36, .int a0_37, .ref a0_38, .ref a0_39, .int a0_40, .ref a0_41, .ref a0_42, .ref a0_43])), (a0_20, .inl (a0_20_c, 2, .inl a0_20_f)), (a0_21, .inl (a0_21_c, 2, .inl a0_21_f)), (a0_23, .inl (a0_23_c, 16, .inl a0_23_f)), (a0_26, .inl (a0_26_c, 8, .inl a0_26_f)), (a0_29, .inl (a0_29_c, 48, .inl a0_29_f)), (a0_30, .inl (a0_30_c, 48, .inl a0_30_f)), (a0_31, .inl (a0_31_c, 48, .inl a0_31_f)), (a0_32, .inl (a0_32_c, 24, .inl a0_32_f)), (a0_33, .inl (a0_33_c, 24, .inl a0_33_f)), (a0_34, .inl (a0_34_c, 72, .inl a0_34_f)), (a0_35, .inl (a0_35_c, 24, .inl a0_35_f)), (a0_38, .inl (a0_38_c, 176, .inl a0_38_f)), (a0_43, .inl (a0_43_c, 288, .inl a0_43_f))] U.heap ∧ va_K (dC, dI) vwCl [(a0_20_c, .int), (a0_21_c, .int), (a0_23_c, .int), (a0_26_c, .int), (a0_29_c, .int), (a0_30_c, .int), (a0_31_c, .int), (a0_32_c, .int), (a0_33_c, .int), (a0_34_c, .int), (a0_35_c, .boolean), (a0_38_c, .int), (a0_43_c, .int)] U ∧ va_D (fun _ => True) [(a0, .inr (8, [.int a0_0, .int a0_1, .int a0_2, .int a0_3, .ref a0_4, .int a0_5, .int a0_6, .int a0_7, .int a0_8, .int a0_9, .int a0_10, .long a0_11, .int a0_12, .int a0_13, .int a0_14, .int a0_15, .int a0_16, .int a0_17, .ref a0_18, .ref a0_19, .ref a0_20, .ref a0_21, .ref a0_22, .ref a0_23, .ref a0_24, .ref a0_25, .ref a0_26, .ref a0_27, .ref a0_28, .ref a0_29, .ref a0_30, .ref a0_31, .ref a0_32, .ref a0_33, .ref a0_34, .ref a0_35, .long a0_36, .int a0_37, .ref a0_38, .ref a0_39, .int a0_40, .ref a0_41, .ref a0_42, .ref a0_43])), (a0_20, .inl (a0_20_c, 2, .inl a0_20_f)), (a0_21, .inl (a0_21_c, 2, .inl a0_21_f)), (a0_23, .inl (a0_23_c, 16, .inl a0_23_f)), (a0_26, .inl (a0_26_c, 8, .inl a0_26_f)), (a0_29, .inl (a0_29_c, 48, .inl a0_29_f)), (a0_30, .inl (a0_30_c, 48, .inl a0_30_f)), (a0_31, .inl (a0_31_c, 48, .inl a0_31_f)), (a0_32, .inl (a0_32_c, 24, .inl a0_32_f)), (a0_33, .inl (a0_33_c, 24, .inl a0_33_f)), (a0_34, .inl (a0_34_c, 72, .inl a0_34_f)), (a0_35, .inl (a0_35_c, 24, .inl a0_35_f)), (a0_38, .inl (a0_38_c, 176, .inl a0_38_f)), (a0_43, .inl (a0_43_c, 288, .inl a0_43_f))] ∧ Ev g (va_A [(a0, .inr (8, [.int a0_0, .int a0_1, .int a0_2, .int a0_3, .ref a0_4, .int a0_5, .int a0_6, .int a0_7, .int a0_8, .int a0_9, .int a0_10, .long a0_11, .int a0_12, .int a0_13, .int a0_14, .int a0_15, .int a0_16, .int a0_17, .ref a0_18, .ref a0_19, .ref a0_20, .ref a0_21, .ref a0_22, .ref a0_23, .ref a0_24, .ref a0_25, .ref a0_26, .ref a0_27, .ref a0_28, .ref a0_29, .ref a0_30, .ref a0_31, .ref a0_32, .ref a0_33, .ref a0_34, .ref a0_35, .long a0_36, .int a0_37, .ref a0_38, .ref a0_39, .int a0_40, .ref a0_41, .ref a0_42, .ref a0_43])), (a0_20, .inl (a0_20_c, 2, .inl a0_20_f)), (a0_21, .inl (a0_21_c, 2, .inl a0_21_f)), (a0_23, .inl (a0_23_c, 16, .inl a0_23_f)), (a0_26, .inl (a0_26_c, 8, .inl a0_26_f)), (a0_29, .inl (a0_29_c, 48, .inl a0_29_f)), (a0_30, .inl (a0_30_c, 48, .inl a0_30_f)), (a0_31, .inl (a0_31_c, 48, .inl a0_31_f)), (a0_32, .inl (a0_32_c, 24, .inl a0_32_f)), (a0_33, .inl (a0_33_c, 24, .inl a0_33_f)), (a0_34, .inl (a0_34_c, 72, .inl a0_34_f)), (a0_35, .inl (a0_35_c, 24, .inl a0_35_f)), (a0_38, .inl (a0_38_c, 176, .inl a0_38_f)), (a0_43, .inl (a0_43_c, 288, .inl a0_43_f))] sz) U)) (va_Qi (fun (r : Int32) (u : Int32) => u = r) (fun (u : Int32) (t : State) => ∃ (za0_0 : Int32) (za0_1 : Int32) (za0_2 : Int32) (za0_3 : Int32) (za0_43_f : Nat → Int32), va_P (dC, dI) vwCl [(a0, .inr (8, [.int za0_0, .int za0_1, .int za0_2, .int za0_3, .ref a0_4, .int a0_5, .int a0_6, .int a0_7, .int a0_8, .int a0_9, .int a0_10, .long a0_11, .int a0_12, .int a0_13, .int a0_14, .int a0_15, .int a0_16, .int a0_17, .ref a0_18, .ref a0_19, .ref a0_20, .ref a0_21, .ref a0_22, .ref a0_23, .ref a0_24, .ref a0_25, .ref a0_26, .ref a0_27, .ref a0_28, .ref a0_29, .ref a0_30, .ref a0_31, .ref a0_32, .ref a0_33, .ref a0_34, .ref a0_35, .long a0_36, .int a0_37, .ref a0_38, .ref a0_39, .int a0_40, .ref a0_41, .ref a0_42, .ref a0_43])), (a0_20, .inl (a0_20_c, 2, .inl a0_20_f)), (a0_21, .inl (a0_21_c, 2, .inl a0_21_f)), (a0_23, .inl (a0_23_c, 16, .inl a0_23_f)), (a0_26, .inl (a0_26_c, 8, .inl a0_26_f)), (a0_29, .inl (a0_29_c, 48, .inl a0_29_f)), (a0_30, .inl (a0_30_c, 48, .inl a0_30_f)), (a0_31, .inl (a0_31_c, 48, .inl a0_31_f)), (a0_32, .inl (a0_32_c, 24, .inl a0_32_f)), (a0_33, .inl (a0_33_c, 24, .inl a0_33_f)), (a0_34, .inl (a0_34_c, 72, .inl a0_34_f)), (a0_35, .inl (a0_35_c, 24, .inl a0_35_f)), (a0_38, .inl (a0_38_c, 176, .inl a0_38_f)), (a0_43, .inl (a0_43_c, 288, .inl za0_43_f))] t.heap ∧ va_K (dC, dI) vwCl [] t ∧ va_D (va_A [(a0, .inr (8, [.int a0_0, .int a0_1, .int a0_2, .int a0_3, .ref a0_4, .int a0_5, .int a0_6, .int a0_7, .int a0_8, .int a0_9, .int a0_10, .long a0_11, .int a0_12, .int a0_13, .int a0_14, .int a0_15, .int a0_16, .int a0_17, .ref a0_18, .ref a0_19, .ref a0_20, .ref a0_21, .ref a0_22, .ref a0_23, .ref a0_24, .ref a0_25, .ref a0_26, .ref a0_27, .ref a0_28, .ref a0_29, .ref a0_30, .ref a0_31, .ref a0_32, .ref a0_33, .ref a0_34, .ref a0_35, .long a0_36, .int a0_37, .ref a0_38, .ref a0_39, .int a0_40, .ref a0_41, .ref a0_42, .ref a0_43])), (a0_20, .inl (a0_20_c, 2, .inl a0_20_f)), (a0_21, .inl (a0_21_c, 2, .inl a0_21_f)), (a0_23, .inl (a0_23_c, 16, .inl a0_23_f)), (a0_26, .inl (a0_26_c, 8, .inl a0_26_f)), (a0_29, .inl (a0_29_c, 48, .inl a0_29_f)), (a0_30, .inl (a0_30_c, 48, .inl a0_30_f)), (a0_31, .inl (a0_31_c, 48, .inl a0_31_f)), (a0_32, .inl (a0_32_c, 24, .inl a0_32_f)), (a0_33, .inl (a0_33_c, 24, .inl a0_33_f)), (a0_34, .inl (a0_34_c, 72, .inl a0_34_f)), (a0_35, .inl (a0_35_c, 24, .inl a0_35_f)), (a0_38, .inl (a0_38_c, 176, .inl a0_38_f)), (a0_43, .inl (a0_43_c, 288, .inl a0_43_f))] sz) [(a0, .inr (8, [.int za0_0, .int za0_1, .int za0_2, .int za0_3, .ref a0_4, .int a0_5, .int a0_6, .int a0_7, .int a0_8, .int a0_9, .int a0_10, .long a0_11, .int a0_12, .int a0_13, .int a0_14, .int a0_15, .int a0_16, .int a0_17, .ref a0_18, .ref a0_19, .ref a0_20, .ref a0_21, .ref a0_22, .ref a0_23, .ref a0_24, .ref a0_25, .ref a0_26, .ref a0_27, .ref a0_28, .ref a0_29, .ref a0_30, .ref a0_31, .ref a0_32, .ref a0_33, .ref a0_34, .ref a0_35, .long a0_36, .int a0_37, .ref a0_38, .ref a0_39, .int a0_40, .ref a0_41, .ref a0_42, .ref a0_43])), (a0_20, .inl (a0_20_c, 2, .inl a0_20_f)), (a0_21, .inl (a0_21_c, 2, .inl a0_21_f)), (a0_23, .inl (a0_23_c, 16, .inl a0_23_f)), (a0_26, .inl (a0_26_c, 8, .inl a0_26_f)), (a0_29, .inl (a0_29_c, 48, .inl a0_29_f)), (a0_30, .inl (a0_30_c, 48, .inl a0_30_f)), (a0_31, .inl (a0_31_c, 48, .inl a0_31_f)), (a0_32, .inl (a0_32_c, 24, .inl a0_32_f)), (a0_33, .inl (a0_33_c, 24, .inl a0_33_f)), (a0_34, .inl (a0_34_c, 72, .inl a0_34_f)), (a0_35, .inl (a0_35_c, 24, .inl a0_35_f)), (a0_38, .inl (a0_38_c, 176, .inl a0_38_f)), (a0_43, .inl (a0_43_c, 288, .inl za0_43_f))]) (va_A [(a0, .inr (8, [.int a0_0, .int a0_1, .int a0_2, .int a0_3, .ref a0_4, .int a0_5, .int a0_6, .int a0_7, .int a0_8, .int a0_9, .int a0_10, .long a0_11, .int a0_12, .int a0_13, .int a0_14, .int a0_15, .int a0_16, .int a0_17, .ref a0_18, .ref a0_19, .ref a0_20, .ref a0_21, .ref a0_22, .ref a0_23, .ref a0_24, .ref a0_25, .ref a0_26, .ref a0_27, .ref a0_28, .ref a0_29, .ref a0_30, .ref a0_31, .ref a0_32, .ref a0_33, .ref a0_34, .ref a0_35, .long a0_36, .int a0_37, .ref a0_38, .ref a0_39, .int a0_40, .ref a0_41, .ref a0_42, .ref a0_43])), (a0_20, .inl (a0_20_c, 2, .inl a0_20_f)), (a0_21, .inl (a0_21_c, 2, .inl a0_21_f)), (a0_23, .inl (a0_23_c, 16, .inl a0_23_f)), (a0_26, .inl (a0_26_c, 8, .inl a0_26_f)), (a0_29, .inl (a0_29_c, 48, .inl a0_29_f)), (a0_30, .inl (a0_30_c, 48, .inl a0_30_f)), (a0_31, .inl (a0_31_c, 48, .inl a0_31_f)), (a0_32, .inl (a0_32_c, 24, .inl a0_32_f)), (a0_33, .inl (a0_33_c, 24, .inl a0_33_f)), (a0_34, .inl (a0_34_c, 72, .inl a0_34_f)), (a0_35, .inl (a0_35_c, 24, .inl a0_35_f)), (a0_38, .inl (a0_38_c, 176, .inl a0_38_f)), (a0_43, .inl (a0_43_c, 288, .inl a0_43_f))] sz)) 0 0 (va_A [(a0, .inr (8, [.int a0_0, .int a0_1, .int a0_2, .int a0_3, .ref a0_4, .int a0_5, .int a0_6, .int a0_7, .int a0_8, .int a0_9, .int a0_10, .long a0_11, .int a0_12, .int a0_13, .int a0_14, .int a0_15, .int a0_16, .int a0_17, .ref a0_18, .ref a0_19, .ref a0_20, .ref a0_21, .ref a0_22, .ref a0_23, .ref a0_24, .ref a0_25, .ref a0_26, .ref a0_27, .ref a0_28, .ref a0_29, .ref a0_30, .ref a0_31, .ref a0_32, .ref a0_33, .ref a0_34, .ref a0_35, .long a0_36, .int a0_37, .ref a0_38, .ref a0_39, .int a0_40, .ref a0_41, .ref a0_42, .ref a0_43])), (a0_20, .inl (a0_20_c, 2, .inl a0_20_f)), (a0_21, .inl (a0_21_c, 2, .inl a0_21_f)), (a0_23, .inl (a0_23_c, 16, .inl a0_23_f)), (a0_26, .inl (a0_26_c, 8, .inl a0_26_f)), (a0_29, .inl (a0_29_c, 48, .inl a0_29_f)), (a0_30, .inl (a0_30_c, 48, .inl a0_30_f)), (a0_31, .inl (a0_31_c, 48, .inl a0_31_f)), (a0_32, .inl (a0_32_c, 24, .inl a0_32_f)), (a0_33, .inl (a0_33_c, 24, .inl a0_33_f)), (a0_34, .inl (a0_34_c, 72, .inl a0_34_f)), (a0_35, .inl (a0_35_c, 24, .inl a0_35_f)), (a0_38, .inl (a0_38_c, 176, .inl a0_38_f)), (a0_43, .inl (a0_43_c, 288, .inl a0_43_f))] sz) := by
  refine Met.ofW (cc := cX9_reason) (maxL := 5) (ret := (some .int)) (by decide) rfl ?_
  intro p e s m args below meth c s₁ B hml hv
  obtain ⟨rfl, hsz, hP, hK, hD0, hE⟩ := hv
  have hx := B.exec
  have hb := B.bytes
  have hr := B.returns
  have hts0 := atoms_spec (ws := (.code yX9_reason cX9_reason 5 (some .int) :: TBL)) B.pre
  have hts := fun (w : Cond) (h : w ∈ TBL) => hts0 w (List.mem_cons_of_mem _ h)
  have hown : s.vm.findClass RX9 = some m.cls := findClass_of_methodNamed B.named
  have hlocks := B.notSynchronized
  have hN := hE.1
  subst hsz
  have hD := hD0.self (sz := s.heap.size)
  generalize hAe : va_A [(a0, .inr (8, [.int a0_0, .int a0_1, .int a0_2, .int a0_3, .ref a0_4, .int a0_5, .int a0_6, .int a0_7, .int a0_8, .int a0_9, .int a0_10, .long a0_11, .int a0_12, .int a0_13, .int a0_14, .int a0_15, .int a0_16, .int a0_17, .ref a0_18, .ref a0_19, .ref a0_20, .ref a0_21, .ref a0_22, .ref a0_23, .ref a0_24, .ref a0_25, .ref a0_26, .ref a0_27, .ref a0_28, .ref a0_29, .ref a0_30, .ref a0_31, .ref a0_32, .ref a0_33, .ref a0_34, .ref a0_35, .long a0_36, .int a0_37, .ref a0_38, .ref a0_39, .int a0_40, .ref a0_41, .ref a0_42, .ref a0_43])), (a0_20, .inl (a0_20_c, 2, .inl a0_20_f)), (a0_21, .inl (a0_21_c, 2, .inl a0_21_f)), (a0_23, .inl (a0_23_c, 16, .inl a0_23_f)), (a0_26, .inl (a0_26_c, 8, .inl a0_26_f)), (a0_29, .inl (a0_29_c, 48, .inl a0_29_f)), (a0_30, .inl (a0_30_c, 48, .inl a0_30_f)), (a0_31, .inl (a0_31_c, 48, .inl a0_31_f)), (a0_32, .inl (a0_32_c, 24, .inl a0_32_f)), (a0_33, .inl (a0_33_c, 24, .inl a0_33_f)), (a0_34, .inl (a0_34_c, 72, .inl a0_34_f)), (a0_35, .inl (a0_35_c, 24, .inl a0_35_f)), (a0_38, .inl (a0_38_c, 176, .inl a0_38_f)), (a0_43, .inl (a0_43_c, 288, .inl a0_43_f))] s.heap.size = A at hD hE ⊢
  have hA : ∀ q : Nat, s.heap.size ≤ q → A q := fun q h => by rw [← hAe]; exact Or.inr h
  have hS : va_S A s.heap s.heap [] := va_S.rf
  replace hP : va_P (dC, dI) vwCl [(a0, .inr (8, [.int a0_0, .int a0_1, .int a0_2, .int a0_3, .ref a0_4, .int a0_5, .int a0_6, .int a0_7, .int a0_8, .int a0_9, .int a0_10, .long a0_11, .int a0_12, .int a0_13, .int a0_14, .int a0_15, .int a0_16, .int a0_17, .ref a0_18, .ref a0_19, .ref a0_20, .ref a0_21, .ref a0_22, .ref a0_23, .ref a0_24, .ref a0_25, .ref a0_26, .ref a0_27, .ref a0_28, .ref a0_29, .ref a0_30, .ref a0_31, .ref a0_32, .ref a0_33, .ref a0_34, .ref a0_35, .long a0_36, .int a0_37, .ref a0_38, .ref a0_39, .int a0_40, .ref a0_41, .ref a0_42, .ref a0_43])), (a0_20, .inl (a0_20_c, 2, .inl a0_20_f)), (a0_21, .inl (a0_21_c, 2, .inl a0_21_f)), (a0_23, .inl (a0_23_c, 16, .inl a0_23_f)), (a0_26, .inl (a0_26_c, 8, .inl a0_26_f)), (a0_29, .inl (a0_29_c, 48, .inl a0_29_f)), (a0_30, .inl (a0_30_c, 48, .inl a0_30_f)), (a0_31, .inl (a0_31_c, 48, .inl a0_31_f)), (a0_32, .inl (a0_32_c, 24, .inl a0_32_f)), (a0_33, .inl (a0_33_c, 24, .inl a0_33_f)), (a0_34, .inl (a0_34_c, 72, .inl a0_34_f)), (a0_35, .inl (a0_35_c, 24, .inl a0_35_f)), (a0_38, .inl (a0_38_c, 176, .inl a0_38_f)), (a0_43, .inl (a0_43_c, 288, .inl a0_43_f))] s.heap := hP
  have hl := lv_entry ([.ref a0, .int a1, .int a2]) (n := 5) (Nat.le_of_ble_eq_true rfl)
  rw [lg_entry_eq]
  generalize (lg_sl ([.ref a0, .int a1, .int a2]) ++ List.replicate (5 - (lg_sl ([.ref a0, .int a1, .int a2])).length) Slot.unset).toArray = ls at hl ⊢
  have hl : lv_has ls 5 [(0, .ref a0), (1, .int a1), (2, .int a2)] := hl
  have b_a1 := i32b a1
  have b_a2 := i32b a2
  have b_a0_0 := i32b a0_0
  have b_a0_1 := i32b a0_1
  have b_a0_2 := i32b a0_2
  have b_a0_3 := i32b a0_3
  have b_a0_9 := i32b a0_9
  have b_a0_10 := i32b a0_10
  have b_a0_12 := i32b a0_12
  have b_a0_13 := i32b a0_13
  have b_a0_14 := i32b a0_14
  have b_a0_15 := i32b a0_15
  have b_a0_16 := i32b a0_16
  have hp20 := vr_at h_a0_20_f (k := 0) rfl
  have hp21 := vr_at h_a0_21_f (k := 0) rfl
  refine lv_aload_n hx hb dX9_reason_0 rfl (lv_at hl 0 rfl) ?_
  refine lv_iconst (v := 0) hx hb dX9_reason_1 (by decide) ?_
  refine va_put (D := (dC, dI)) (ci := 8) (v := .int 0) (ty := .int) (C := RX9) (T := TX9) (N := 44) hx hb hts inlX9 tyX9 tyX9_ok nmX9 hown hK hP hD hS 0 rgL14_6e084ec rfl 0 (by decide) (hts (.fieldLink RX9 85 "ClosedUntilModel" "thrown" "I") qw_408) (fun _ h9 => h9) rfl (by decide +kernel) rfl rfl (Nat.le_of_ble_eq_true rfl) dX9_reason_2 (fun H locs hP9 hD9 hS9 => ?_)
  clear hP hD hS
  obtain ⟨hP, hD⟩ := rgS14_947ddd8 (e := (a0, .inr (8, [.int 0, .int a0_1, .int a0_2, .int a0_3, .ref a0_4, .int a0_5, .int a0_6, .int a0_7, .int a0_8, .int a0_9, .int a0_10, .long a0_11, .int a0_12, .int a0_13, .int a0_14, .int a0_15, .int a0_16, .int a0_17, .ref a0_18, .ref a0_19, .ref a0_20, .ref a0_21, .ref a0_22, .ref a0_23, .ref a0_24, .ref a0_25, .ref a0_26, .ref a0_27, .ref a0_28, .ref a0_29, .ref a0_30, .ref a0_31, .ref a0_32, .ref a0_33, .ref a0_34, .ref a0_35, .long a0_36, .int a0_37, .ref a0_38, .ref a0_39, .int a0_40, .ref a0_41, .ref a0_42, .ref a0_43]))) hP9 hD9 rfl
  have hS := hS9; clear hP9 hD9 hS9
  refine lv_aload_n hx hb dX9_reason_5 rfl (lv_at hl 0 rfl) ?_
  have qc0 : (0 : Int32).toInt = 0 := by decide
  have hPc := hP
  have hKc := hK
  have hDc := hD
  have hFc := freeW hDc hS hA
  refine va_callv (va_runV (As := []) (rest := []) ⟨hx, hb, hml, hown, hts⟩ (k_X9_laysEnds l dC dI g H.size (a0) (0) (a0_1) (a0_2) (a0_3) (a0_4) (a0_5) (a0_6) (a0_7) (a0_8) (a0_9) (a0_10) (a0_11) (a0_12) (a0_13) (a0_14) (a0_15) (a0_16) (a0_17) (a0_18) (a0_19) (a0_20) (a0_21) (a0_22) (a0_23) (a0_24) (a0_25) (a0_26) (a0_27) (a0_28) (a0_29) (a0_30) (a0_31) (a0_32) (a0_33) (a0_34) (a0_35) (a0_36) (a0_37) (a0_38) (a0_39) (a0_40) (a0_41) (a0_42) (a0_43) (a0_20_c) (a0_20_f) (a0_21_c) (a0_21_f) (a0_23_c) (a0_23_f) (a0_26_c) (a0_26_f) (a0_29_c) (a0_29_f) (a0_30_c) (a0_30_f) (a0_31_c) (a0_31_f) (a0_32_c) (a0_32_f) (a0_33_c) (a0_33_f) (a0_34_c) (a0_34_f) (a0_35_c) (a0_35_f) (a0_38_c) (a0_38_f) (a0_43_c) (a0_43_f) (by omega) (by omega) (by omega) (by omega) (by omega) (by omega) (by omega) h_a0_20_f h_a0_21_f (by assumption) (by assumption)) (cwV 0 hts (gwV qw_630 qw_631 qw_632 qw_386 qw_629) rfl rfl rfl (by decide +kernel) ⟨Nat.le_of_ble_eq_true rfl, Nat.le_of_ble_eq_true rfl⟩) ⟨fun a U g9 mk q => ⟨q.1, q.2.1, q.2.2.1, va_K.moved (u := U) (U := U.calling g9 mk a) (Vm.Alike.refl U.vm) q.2.2.2.1, q.2.2.2.2.1, Ev.bl q.2.2.2.2.2⟩, va_recv hK hP (ci := 8) (q0 := 0) rfl rgL14_6e084ec, fun U hU hW => ⟨rfl, by rw [hU], atB hU hPc, va_K.moved hW.alike hKc, hDc.weaken (fun _ _ _ _ => trivial), hE.go hS hFc hU hW⟩⟩ rfl rfl hl.1 rfl (lv_room (Nat.le_of_ble_eq_true rfl)) dX9_reason_6 ⟨Nat.le_of_ble_eq_true rfl, Nat.le_of_ble_eq_true rfl⟩) hS (fun q _ h => hFc q h) hFc (fun u1 t H1 locs ht hvm h_u1 hB hz1 hk1 hS => ?_)
  obtain ⟨za0_1_3, za0_2_4, za0_3_5, za0_43_f_6, hP1, hK1, hD1⟩ := hB
  have hK1 := va_K.moved hvm.symm hK1
  have hJ9 := rgJ14_93bd4e1 hP hD hk1 hFc (atH ht hP1) hD1
  clear hP hD hPc hKc hDc hFc hP1 hD1 hk1 hz1
  obtain ⟨hP, hD⟩ := hJ9
  clear hK1
  generalize H1 = H at hP hS ⊢
  refine W.widen (k := 0) (n := 0) (Nat.le_of_ble_eq_true rfl) (Nat.le_of_ble_eq_true rfl) ?_
  refine lv_aload_n hx hb dX9_reason_9 rfl (lv_at hl 0 rfl) ?_
  refine lv_iload_n hx hb dX9_reason_10 rfl (lv_at hl 1 rfl) ?_
  have qc0 : (0 : Int32).toInt = 0 := by decide
  have hPc := (rgP14_dbed6f8 hP)
  have hKc := (rgK13_c419d91 hK)
  refine vp_callSi ((va_runV (As := [.int a1]) (rest := []) ⟨hx, hb, hml, hown, hts⟩ (k_X9_isPiece l dC dI g (a0) (a1) (0) (za0_1_3) (za0_2_4) (za0_3_5) (a0_4) (a0_5) (a0_6) (a0_7) (a0_8) (a0_9) (a0_10) (a0_11) (a0_12) (a0_13) (a0_14) (a0_15) (a0_16) (a0_17) (a0_18) (a0_19) (a0_20) (a0_21) (a0_22) (a0_23) (a0_24) (a0_25) (a0_26) (a0_27) (a0_28) (a0_29) (a0_30) (a0_31) (a0_32) (a0_33) (a0_34) (a0_35) (a0_36) (a0_37) (a0_38) (a0_39) (a0_40) (a0_41) (a0_42) (a0_43) (a0_20_c) (a0_20_f) (by omega) (by omega) (by omega) (by omega) (by omega) (by omega) (by omega) h_a0_20_f) (cwV 1 hts (gwV qw_602 qw_603 qw_604 qw_386 qw_601) rfl rfl rfl (by decide +kernel) ⟨Nat.le_of_ble_eq_true rfl, Nat.le_of_ble_eq_true rfl⟩) ⟨fun a U g9 mk q => ⟨q.1, q.2.1, va_K.moved (u := U) (U := U.calling g9 mk a) (Vm.Alike.refl U.vm) q.2.2.1, Ev.bl q.2.2.2⟩, va_recv hK hP (ci := 8) (q0 := 0) rfl rgL14_6e084ec, fun U hU hW => ⟨rfl, atB hU hPc, va_K.moved hW.alike hKc, hE.go hS (fun _ h => h.elim) hU hW⟩⟩ rfl rfl hl.1 rfl (lv_room (Nat.le_of_ble_eq_true rfl)) dX9_reason_11 ⟨Nat.le_of_ble_eq_true rfl, Nat.le_of_ble_eq_true rfl⟩)).run (fun r7 h_r7 => ?_)
  have h_r7 : (r7 = 0 ∨ r7 = 1) ∧ ((r7.toInt = 1 ∧ 0 ≤ a1.toInt ∧ a1.toInt < (a0_20_f 0).toInt) ∨ r7.toInt = 0) := h_r7
  have b_r7 := z01 (show r7 = 0 ∨ r7 = 1 from h_r7.1)
  refine lv_if_eq (tgt := 24) hx hb dX9_reason_14 (by decide) (fun c14_8 => ?_) (fun c14_8 => ?_)
  · have c14_8 : r7.toInt = 0 := (cv_eq rfl (by decide)).mp c14_8
    refine lv_iconst (v := (-1)) hx hb dX9_reason_24 (by decide) ?_
    have qcm1 : ((-1) : Int32).toInt = (-1) := by decide
    have qc0 : (0 : Int32).toInt = 0 := by decide
    refine W.widen (k := 0) (n := 0) (Nat.le_of_ble_eq_true rfl) (Nat.le_of_ble_eq_true rfl) ?_
    have hP9 := hP
    have hD9 := hD
    have hK9 := (rgK13_332f5b0 hK)
    exact W.iret (v := (-1)) hx hb hr (fun t ht hW => ⟨⟨(-1), (-1), rfl, rfl, 0, za0_1_3, za0_2_4, za0_3_5, za0_43_f_6, atB ht hP9, va_K.moved hW.alike hK9, hD9⟩, hS.F ht⟩) hS.2.2 dX9_reason_25
  · have c14_8 : ¬ (r7.toInt = 0) := mt (cv_eq rfl (by decide)).mpr c14_8
    refine lv_iload_n hx hb dX9_reason_17 rfl (lv_at hl 2 rfl) ?_
    have hPc := (rgP14_13c4e7a hP)
    have hKc := (rgK13_332f5b0 hK)
    refine vp_callSi ((va_runS (As := [.int a2]) (rest := []) ⟨hx, hb, hml, hown, hts⟩ (k_X9_areReaders l dC dI g (a2) ) (va_cwS 1 hts (gwS qw_546 qw_547 qw_386 qw_545) rfl rfl rfl (by decide +kernel) ⟨Nat.le_of_ble_eq_true rfl, Nat.le_of_ble_eq_true rfl⟩) ⟨fun a U g9 mk q => ⟨q.1, q.2.1, va_K.moved (u := U) (U := U.calling g9 mk a) (Vm.Alike.refl U.vm) q.2.2.1, Ev.bl q.2.2.2⟩, fun U hU hW => ⟨rfl, atB hU hPc, va_K.moved hW.alike hKc, hE.go hS (fun _ h => h.elim) hU hW⟩⟩ rfl rfl hl.1 rfl (lv_room (Nat.le_of_ble_eq_true rfl)) dX9_reason_18 ⟨Nat.le_of_ble_eq_true rfl, Nat.le_of_ble_eq_true rfl⟩)).run (fun r9 h_r9 => ?_)
    have h_r9 : (r9 = 0 ∨ r9 = 1) := h_r9
    have b_r9 := z01 (show r9 = 0 ∨ r9 = 1 from h_r9)
    refine lv_if_ne (tgt := 26) hx hb dX9_reason_21 (by decide) (fun c21_10 => ?_) (fun c21_10 => ?_)
    · have c21_10 : ¬ (r9.toInt = 0) := mt (cv_eq rfl (by decide)).mpr c21_10
      refine lv_aload_n hx hb dX9_reason_26 rfl (lv_at hl 0 rfl) ?_
      refine lv_iload_n hx hb dX9_reason_27 rfl (lv_at hl 1 rfl) ?_
      refine lv_iload_n hx hb dX9_reason_28 rfl (lv_at hl 2 rfl) ?_
      refine lv_iconst (v := 0) hx hb dX9_reason_29 (by decide) ?_
      have qc0 : (0 : Int32).toInt = 0 := by decide
      have hPc := (rgP14_910b6ce hP)
      have hKc := (rgK13_829f201 hK)
      refine vp_callSi ((va_runV (As := [.int a1, .int a2, .int 0]) (rest := []) ⟨hx, hb, hml, hown, hts⟩ (k_X9_opensOf l dC dI g (a0) (a1) (a2) (0) (0) (za0_1_3) (za0_2_4) (za0_3_5) (a0_4) (a0_5) (a0_6) (a0_7) (a0_8) (a0_9) (a0_10) (a0_11) (a0_12) (a0_13) (a0_14) (a0_15) (a0_16) (a0_17) (a0_18) (a0_19) (a0_20) (a0_21) (a0_22) (a0_23) (a0_24) (a0_25) (a0_26) (a0_27) (a0_28) (a0_29) (a0_30) (a0_31) (a0_32) (a0_33) (a0_34) (a0_35) (a0_36) (a0_37) (a0_38) (a0_39) (a0_40) (a0_41) (a0_42) (a0_43) (a0_21_c) (a0_21_f) (a0_32_c) (a0_32_f) (a0_43_c) (za0_43_f_6) (by omega) (by omega) (by omega) (by omega) (by omega) (by omega) (by omega) h_a0_21_f (by omega)) (cwV 3 hts (gwV qw_542 qw_543 qw_544 qw_386 qw_541) rfl rfl rfl (by decide +kernel) ⟨Nat.le_of_ble_eq_true rfl, Nat.le_of_ble_eq_true rfl⟩) ⟨fun a U g9 mk q => ⟨q.1, q.2.1, va_K.moved (u := U) (U := U.calling g9 mk a) (Vm.Alike.refl U.vm) q.2.2.1, Ev.bl q.2.2.2⟩, va_recv hK hP (ci := 8) (q0 := 0) rfl rgL14_6e084ec, fun U hU hW => ⟨rfl, atB hU hPc, va_K.moved hW.alike hKc, hE.go hS (fun _ h => h.elim) hU hW⟩⟩ rfl rfl hl.1 rfl (lv_room (Nat.le_of_ble_eq_true rfl)) dX9_reason_30 ⟨Nat.le_of_ble_eq_true rfl, Nat.le_of_ble_eq_true rfl⟩)).run (fun r11 h_r11 => ?_)
      have b_r11 := i32b r11
      refine lv_istore_n (lv' := [(3, .int r11), (0, .ref a0), (1, .int a1), (2, .int a2)]) hx hb dX9_reason_33 rfl hl (by decide) rfl (fun ls hl => ?_)
      refine lv_iconst (v := 0) hx hb dX9_reason_34 (by decide) ?_
      refine lv_istore (lv' := [(4, .int 0), (3, .int r11), (0, .ref a0), (1, .int a1), (2, .int a2)]) hx hb dX9_reason_35 hl (by decide) rfl (fun ls hl => ?_)
      have qc0 : (0 : Int32).toInt = 0 := by decide
      refine wloop (fun n H locs ls => ∃ (l37_4 : Int32) (f37_0_1 : Int32) (f37_0_2 : Int32) (f37_0_3 : Int32), n = (2147483647 - l37_4.toInt).toNat ∧ (0 ≤ l37_4.toInt) ∧ lv_has ls 5 [(4, .int l37_4), (3, .int r11), (0, .ref a0), (1, .int a1), (2, .int a2)] ∧ va_P (dC, dI) vwCl [(a0, .inr (8, [.int 0, .int f37_0_1, .int f37_0_2, .int f37_0_3, .ref a0_4, .int a0_5, .int a0_6, .int a0_7, .int a0_8, .int a0_9, .int a0_10, .long a0_11, .int a0_12, .int a0_13, .int a0_14, .int a0_15, .int a0_16, .int a0_17, .ref a0_18, .ref a0_19, .ref a0_20, .ref a0_21, .ref a0_22, .ref a0_23, .ref a0_24, .ref a0_25, .ref a0_26, .ref a0_27, .ref a0_28, .ref a0_29, .ref a0_30, .ref a0_31, .ref a0_32, .ref a0_33, .ref a0_34, .ref a0_35, .long a0_36, .int a0_37, .ref a0_38, .ref a0_39, .int a0_40, .ref a0_41, .ref a0_42, .ref a0_43])), (a0_20, .inl (a0_20_c, 2, .inl a0_20_f)), (a0_21, .inl (a0_21_c, 2, .inl a0_21_f)), (a0_23, .inl (a0_23_c, 16, .inl a0_23_f)), (a0_26, .inl (a0_26_c, 8, .inl a0_26_f)), (a0_29, .inl (a0_29_c, 48, .inl a0_29_f)), (a0_30, .inl (a0_30_c, 48, .inl a0_30_f)), (a0_31, .inl (a0_31_c, 48, .inl a0_31_f)), (a0_32, .inl (a0_32_c, 24, .inl a0_32_f)), (a0_33, .inl (a0_33_c, 24, .inl a0_33_f)), (a0_34, .inl (a0_34_c, 72, .inl a0_34_f)), (a0_35, .inl (a0_35_c, 24, .inl a0_35_f)), (a0_38, .inl (a0_38_c, 176, .inl a0_38_f)), (a0_43, .inl (a0_43_c, 288, .inl za0_43_f_6))] H ∧ va_D A [(a0, .inr (8, [.int 0, .int f37_0_1, .int f37_0_2, .int f37_0_3, .ref a0_4, .int a0_5, .int a0_6, .int a0_7, .int a0_8, .int a0_9, .int a0_10, .long a0_11, .int a0_12, .int a0_13, .int a0_14, .int a0_15, .int a0_16, .int a0_17, .ref a0_18, .ref a0_19, .ref a0_20, .ref a0_21, .ref a0_22, .ref a0_23, .ref a0_24, .ref a0_25, .ref a0_26, .ref a0_27, .ref a0_28, .ref a0_29, .ref a0_30, .ref a0_31, .ref a0_32, .ref a0_33, .ref a0_34, .ref a0_35, .long a0_36, .int a0_37, .ref a0_38, .ref a0_39, .int a0_40, .ref a0_41, .ref a0_42, .ref a0_43])), (a0_20, .inl (a0_20_c, 2, .inl a0_20_f)), (a0_21, .inl (a0_21_c, 2, .inl a0_21_f)), (a0_23, .inl (a0_23_c, 16, .inl a0_23_f)), (a0_26, .inl (a0_26_c, 8, .inl a0_26_f)), (a0_29, .inl (a0_29_c, 48, .inl a0_29_f)), (a0_30, .inl (a0_30_c, 48, .inl a0_30_f)), (a0_31, .inl (a0_31_c, 48, .inl a0_31_f)), (a0_32, .inl (a0_32_c, 24, .inl a0_32_f)), (a0_33, .inl (a0_33_c, 24, .inl a0_33_f)), (a0_34, .inl (a0_34_c, 72, .inl a0_34_f)), (a0_35, .inl (a0_35_c, 24, .inl a0_35_f)), (a0_38, .inl (a0_38_c, 176, .inl a0_38_f)), (a0_43, .inl (a0_43_c, 288, .inl za0_43_f_6))] ∧ va_S A s.heap H locs) ?_ ((2147483647 - (0 : Int32).toInt).toNat) _ _ _ ⟨0, za0_1_3, za0_2_4, za0_3_5, rfl, (by omega), lv_sub hl [0, 1, 2, 3, 4] rfl, hP, hD, hS⟩
      intro n37 H locs ls hI ih37
      obtain ⟨l37_4, f37_0_1, f37_0_2, f37_0_3, hn37, g_l37_4, hl, hP, hD, hS⟩ := hI
      have b_l37_4 := i32b l37_4
      have b_f37_0_1 := i32b f37_0_1
      have b_f37_0_2 := i32b f37_0_2
      have b_f37_0_3 := i32b f37_0_3
      refine lv_iload hx hb dX9_reason_37 (lv_at hl 0 rfl) ?_
      refine lv_aload_n hx hb dX9_reason_39 rfl (lv_at hl 2 rfl) ?_
      refine va_get (D := (dC, dI)) (ci := 8) (v := .ref a0_21) (C := RX9) (T := TX9) (N := 44) hx hb hts inlX9 hown hK hP 0 rgL14_6e084ec rfl 21 (by decide) (hts (.fieldLink RX9 23 "ClosedUntilModel" "closures" "[I") qw_501) (fun _ h9 => h9) rfl dX9_reason_40 ?_
      refine lv_iconst (v := 0) hx hb dX9_reason_43 (by decide) ?_
      refine va_iald hx hb hK hP 2 1 rgL14_9aeb737 rgT13_9ecce0a (vin0 (by decide)) dX9_reason_44 ?_
      refine lv_topi (fun x12 e_x12 => ?_)
      have q_x12 : x12.toInt = (a0_21_f 0).toInt := congrArg Int32.toInt e_x12
      have b_x12 : 0 ≤ x12.toInt ∧ x12.toInt ≤ 12 := vr_at (lo := 0) (hi := 12) (f := a0_21_f) h_a0_21_f e_x12
      refine lv_icmp_ge (tgt := 83) hx hb dX9_reason_45 (by decide) (fun c45_13 => ?_) (fun c45_13 => ?_)
      · have c45_13 : x12.toInt ≤ l37_4.toInt := (cv_le rfl rfl).mp c45_13
        refine lv_iconst (v := (-1)) hx hb dX9_reason_83 (by decide) ?_
        have qcm1 : ((-1) : Int32).toInt = (-1) := by decide
        have qc0 : (0 : Int32).toInt = 0 := by decide
        refine W.widen (k := 0) (n := 0) (Nat.le_of_ble_eq_true rfl) (Nat.le_of_ble_eq_true rfl) ?_
        have hP9 := hP
        have hD9 := hD
        have hK9 := (rgK13_332f5b0 hK)
        exact W.iret (v := (-1)) hx hb hr (fun t ht hW => ⟨⟨(-1), (-1), rfl, rfl, 0, f37_0_1, f37_0_2, f37_0_3, za0_43_f_6, atB ht hP9, va_K.moved hW.alike hK9, hD9⟩, hS.F ht⟩) hS.2.2 dX9_reason_84
      · have c45_13 : ¬ (x12.toInt ≤ l37_4.toInt) := mt (cv_le rfl rfl).mpr c45_13
        refine lv_iload_n hx hb dX9_reason_48 rfl (lv_at hl 1 rfl) ?_
        refine lv_if_le (tgt := 83) hx hb dX9_reason_49 (by decide) (fun c49_14 => ?_) (fun c49_14 => ?_)
        · have c49_14 : r11.toInt ≤ 0 := (cv_le rfl (by decide)).mp c49_14
          refine lv_iconst (v := (-1)) hx hb dX9_reason_83 (by decide) ?_
          have qcm1 : ((-1) : Int32).toInt = (-1) := by decide
          have qc0 : (0 : Int32).toInt = 0 := by decide
          refine W.widen (k := 0) (n := 0) (Nat.le_of_ble_eq_true rfl) (Nat.le_of_ble_eq_true rfl) ?_
          have hP9 := hP
          have hD9 := hD
          have hK9 := (rgK13_332f5b0 hK)
          exact W.iret (v := (-1)) hx hb hr (fun t ht hW => ⟨⟨(-1), (-1), rfl, rfl, 0, f37_0_1, f37_0_2, f37_0_3, za0_43_f_6, atB ht hP9, va_K.moved hW.alike hK9, hD9⟩, hS.F ht⟩) hS.2.2 dX9_reason_84
        · have c49_14 : ¬ (r11.toInt ≤ 0) := mt (cv_le rfl (by decide)).mpr c49_14
          refine lv_aload_n hx hb dX9_reason_52 rfl (lv_at hl 2 rfl) ?_
          refine lv_iload hx hb dX9_reason_53 (lv_at hl 0 rfl) ?_
          refine lv_iload_n hx hb dX9_reason_55 rfl (lv_at hl 4 rfl) ?_
          refine lv_iconst (v := 0) hx hb dX9_reason_56 (by decide) ?_
          have qc0 : (0 : Int32).toInt = 0 := by decide
          have hPc := (rgP14_4dc39f2 hP)
          have hKc := (rgK13_9965260 hK)
          refine vp_callSi ((va_runV (As := [.int l37_4, .int a2, .int 0]) (rest := []) ⟨hx, hb, hml, hown, hts⟩ (k_X9_holds l dC dI g (a0) (l37_4) (a2) (0) (0) (f37_0_1) (f37_0_2) (f37_0_3) (a0_4) (a0_5) (a0_6) (a0_7) (a0_8) (a0_9) (a0_10) (a0_11) (a0_12) (a0_13) (a0_14) (a0_15) (a0_16) (a0_17) (a0_18) (a0_19) (a0_20) (a0_21) (a0_22) (a0_23) (a0_24) (a0_25) (a0_26) (a0_27) (a0_28) (a0_29) (a0_30) (a0_31) (a0_32) (a0_33) (a0_34) (a0_35) (a0_36) (a0_37) (a0_38) (a0_39) (a0_40) (a0_41) (a0_42) (a0_43) (a0_32_c) (a0_32_f) (by omega) (by omega) (by omega) (by omega) (by omega) (by omega) (by omega) (by omega)) (cwV 3 hts (gwV qw_537 qw_538 qw_539 qw_386 qw_536) rfl rfl rfl (by decide +kernel) ⟨Nat.le_of_ble_eq_true rfl, Nat.le_of_ble_eq_true rfl⟩) ⟨fun a U g9 mk q => ⟨q.1, q.2.1, va_K.moved (u := U) (U := U.calling g9 mk a) (Vm.Alike.refl U.vm) q.2.2.1, Ev.bl q.2.2.2⟩, va_recv hK hP (ci := 8) (q0 := 0) rfl rgL14_6e084ec, fun U hU hW => ⟨rfl, atB hU hPc, va_K.moved hW.alike hKc, hE.go hS (fun _ h => h.elim) hU hW⟩⟩ rfl rfl hl.1 rfl (lv_room (Nat.le_of_ble_eq_true rfl)) dX9_reason_57 ⟨Nat.le_of_ble_eq_true rfl, Nat.le_of_ble_eq_true rfl⟩)).run (fun r15 h_r15 => ?_)
          have h_r15 : (r15 = 0 ∨ r15 = 1) := h_r15
          have b_r15 := z01 (show r15 = 0 ∨ r15 = 1 from h_r15)
          refine lv_if_eq (tgt := 77) hx hb dX9_reason_60 (by decide) (fun c60_16 => ?_) (fun c60_16 => ?_)
          · have c60_16 : r15.toInt = 0 := (cv_eq rfl (by decide)).mp c60_16
            obtain ⟨x17, e_x17⟩ : ∃ y : Int32, y = l37_4 + 1 := ⟨_, rfl⟩
            refine lv_iinc (v := x17) (lv' := [(4, .int x17), (3, .int r11), (0, .ref a0), (1, .int a1), (2, .int a2)]) hx hb dX9_reason_77 hl (k := 0) rfl (by rw [e_x17]; rfl) (by decide) rfl (fun ls hl => ?_)
            try have e_x17 := ti_add e_x17 rfl (show (1 : Int32).toInt = 1 by decide) (by omega)
            refine lv_goto (tgt := 37) hx hb dX9_reason_80 (by decide) ?_
            exact ih37 ((2147483647 - x17.toInt).toNat) _ _ _ (by omega) ⟨x17, f37_0_1, f37_0_2, f37_0_3, rfl, (by omega), lv_sub hl [0, 1, 2, 3, 4] rfl, hP, hD, hS⟩
          · have c60_16 : ¬ (r15.toInt = 0) := mt (cv_eq rfl (by decide)).mpr c60_16
            refine lv_aload_n hx hb dX9_reason_63 rfl (lv_at hl 2 rfl) ?_
            refine lv_iload hx hb dX9_reason_64 (lv_at hl 0 rfl) ?_
            refine lv_iload_n hx hb dX9_reason_66 rfl (lv_at hl 3 rfl) ?_
            have qc0 : (0 : Int32).toInt = 0 := by decide
            have hPc := (rgP14_be048c4 hP)
            have hKc := (rgK13_51a369b hK)
            have hDc := (rgD14_b2e6295 hD)
            have hFc := freeW hDc hS hA
            refine va_calli (va_runV (As := [.int l37_4, .int a1]) (rest := []) ⟨hx, hb, hml, hown, hts⟩ (k_X9_endsOf l dC dI g H.size (a0) (l37_4) (a1) (0) (f37_0_1) (f37_0_2) (f37_0_3) (a0_4) (a0_5) (a0_6) (a0_7) (a0_8) (a0_9) (a0_10) (a0_11) (a0_12) (a0_13) (a0_14) (a0_15) (a0_16) (a0_17) (a0_18) (a0_19) (a0_20) (a0_21) (a0_22) (a0_23) (a0_24) (a0_25) (a0_26) (a0_27) (a0_28) (a0_29) (a0_30) (a0_31) (a0_32) (a0_33) (a0_34) (a0_35) (a0_36) (a0_37) (a0_38) (a0_39) (a0_40) (a0_41) (a0_42) (a0_43) (a0_23_c) (a0_23_f) (a0_26_c) (a0_26_f) (a0_29_c) (a0_29_f) (a0_30_c) (a0_30_f) (a0_31_c) (a0_31_f) (a0_32_c) (a0_32_f) (a0_33_c) (a0_33_f) (a0_34_c) (a0_34_f) (a0_35_c) (a0_35_f) (a0_38_c) (a0_38_f) ((a0_20_f 0).toInt) ((a0_21_f 0).toInt) (by omega) (by omega) (by omega) (by omega) (by omega) (by omega) (by omega) (by omega) (by assumption) (by omega) (by assumption) (by omega) (by omega)) (cwV 2 hts (gwV qw_532 qw_533 qw_534 qw_386 qw_531) rfl rfl rfl (by decide +kernel) ⟨Nat.le_of_ble_eq_true rfl, Nat.le_of_ble_eq_true rfl⟩) ⟨fun a U g9 mk q => ⟨q.1, q.2.1, q.2.2.1, va_K.moved (u := U) (U := U.calling g9 mk a) (Vm.Alike.refl U.vm) q.2.2.2.1, q.2.2.2.2.1, Ev.bl q.2.2.2.2.2⟩, va_recv hK hP (ci := 8) (q0 := 0) rfl rgL14_6e084ec, fun U hU hW => ⟨rfl, by rw [hU], atB hU hPc, va_K.moved hW.alike hKc, hDc.weaken (fun _ _ _ _ => trivial), hE.go hS hFc hU hW⟩⟩ rfl rfl hl.1 rfl (lv_room (Nat.le_of_ble_eq_true rfl)) dX9_reason_67 ⟨Nat.le_of_ble_eq_true rfl, Nat.le_of_ble_eq_true rfl⟩) hS (fun q _ h => hFc q h) hFc (fun r19 u18 t H1 locs ht hvm h_u18 hB hz1 hk1 hS => ?_)
            obtain ⟨za0_1_20, za0_2_21, za0_3_22, hP1, hK1, hD1⟩ := hB
            have hK1 := va_K.moved hvm.symm hK1
            have hJ9 := rgJ14_d16c674 hP hD hk1 hFc (atH ht hP1) hD1
            clear hP hD hPc hKc hDc hFc hP1 hD1 hk1 hz1
            obtain ⟨hP, hD⟩ := hJ9
            clear hK1
            generalize H1 = H at hP hS ⊢
            refine W.widen (k := 0) (n := 0) (Nat.le_of_ble_eq_true rfl) (Nat.le_of_ble_eq_true rfl) ?_
            have h_r19 := congrArg Int32.toInt h_u18
            have b_r19 := i32b r19
            refine lv_iload_n hx hb dX9_reason_70 rfl (lv_at hl 1 rfl) ?_
            refine lv_icmp_ne (tgt := 77) hx hb dX9_reason_71 (by decide) (fun c71_23 => ?_) (fun c71_23 => ?_)
            · have c71_23 : ¬ (r19.toInt = r11.toInt) := mt (cv_eq rfl rfl).mpr c71_23
              obtain ⟨x24, e_x24⟩ : ∃ y : Int32, y = l37_4 + 1 := ⟨_, rfl⟩
              refine lv_iinc (v := x24) (lv' := [(4, .int x24), (3, .int r11), (0, .ref a0), (1, .int a1), (2, .int a2)]) hx hb dX9_reason_77 hl (k := 0) rfl (by rw [e_x24]; rfl) (by decide) rfl (fun ls hl => ?_)
              try have e_x24 := ti_add e_x24 rfl (show (1 : Int32).toInt = 1 by decide) (by omega)
              refine lv_goto (tgt := 37) hx hb dX9_reason_80 (by decide) ?_
              exact ih37 ((2147483647 - x24.toInt).toNat) _ _ _ (by omega) ⟨x24, za0_1_20, za0_2_21, za0_3_22, rfl, (by omega), lv_sub hl [0, 1, 2, 3, 4] rfl, hP, hD, hS⟩
            · have c71_23 : r19.toInt = r11.toInt := (cv_eq rfl rfl).mp c71_23
              refine lv_iload hx hb dX9_reason_74 (lv_at hl 0 rfl) ?_
              have qc0 : (0 : Int32).toInt = 0 := by decide
              refine W.widen (k := 0) (n := 0) (Nat.le_of_ble_eq_true rfl) (Nat.le_of_ble_eq_true rfl) ?_
              have hP9 := hP
              have hD9 := hD
              have hK9 := (rgK13_332f5b0 hK)
              exact W.iret (v := l37_4) hx hb hr (fun t ht hW => ⟨⟨l37_4, l37_4, rfl, rfl, 0, za0_1_20, za0_2_21, za0_3_22, za0_43_f_6, atB ht hP9, va_K.moved hW.alike hK9, hD9⟩, hS.F ht⟩) hS.2.2 dX9_reason_76
    · have c21_10 : r9.toInt = 0 := (cv_eq rfl (by decide)).mp c21_10
      refine lv_iconst (v := (-1)) hx hb dX9_reason_24 (by decide) ?_
      have qcm1 : ((-1) : Int32).toInt = (-1) := by decide
      have qc0 : (0 : Int32).toInt = 0 := by decide
      refine W.widen (k := 0) (n := 0) (Nat.le_of_ble_eq_true rfl) (Nat.le_of_ble_eq_true rfl) ?_
      have hP9 := hP
      have hD9 := hD
      have hK9 := (rgK13_332f5b0 hK)
      exact W.iret (v := (-1)) hx hb hr (fun t ht hW => ⟨⟨(-1), (-1), rfl, rfl, 0, za0_1_3, za0_2_4, za0_3_5, za0_43_f_6, atB ht hP9, va_K.moved hW.alike hK9, hD9⟩, hS.F ht⟩) hS.2.2 dX9_reason_25
set_option maxHeartbeats 4000000 in
set_option maxRecDepth 100000 in
theorem k_X9_closedBy (l : Launch) (dC : Nat → ClassId) (dI : Nat → Nat → Nat) (g : Gv) (sz : Nat) (a0 : Nat) (a1 : Int32) (a2 : Int32) (a0_0 : Int32) (a0_1 : Int32) (a0_2 : Int32) (a0_3 : Int32) (a0_4 : Nat) (a0_5 : Int32) (a0_6 : Int32) (a0_7 : Int32) (a0_8 : Int32) (a0_9 : Int32) (a0_10 : Int32) (a0_11 : Int64) (a0_12 : Int32) (a0_13 : Int32) (a0_14 : Int32) (a0_15 : Int32) (a0_16 : Int32) (a0_17 : Int32) (a0_18 : Nat) (a0_19 : Nat) (a0_20 : Nat) (a0_21 : Nat) (a0_22 : Nat) (a0_23 : Nat) (a0_24 : Nat) (a0_25 : Nat) (a0_26 : Nat) (a0_27 : Nat) (a0_28 : Nat) (a0_29 : Nat) (a0_30 : Nat) (a0_31 : Nat) (a0_32 : Nat) (a0_33 : Nat) (a0_34 : Nat) (a0_35 : Nat) (a0_36 : Int64) (a0_37 : Int32) (a0_38 : Nat) (a0_39 : Nat) (a0_40 : Int32) (a0_41 : Nat) (a0_42 : Nat) (a0_43 : Nat) (a0_20_c : ClassId) (a0_20_f : Nat → Int32) (a0_21_c : ClassId) (a0_21_f : Nat → Int32) (a0_23_c : ClassId) (a0_23_f : Nat → Int32) (a0_26_c : ClassId) (a0_26_f : Nat → Int32) (a0_29_c : ClassId) (a0_29_f : Nat → Int32) (a0_30_c : ClassId) (a0_30_f : Nat → Int32) (a0_31_c : ClassId) (a0_31_f : Nat → Int32) (a0_32_c : ClassId) (a0_32_f : Nat → Int32) (a0_33_c : ClassId) (a0_33_f : Nat → Int32) (a0_34_c : ClassId) (a0_34_f : Nat → Int32) (a0_35_c : ClassId) (a0_35_f : Nat → Int32) (a0_38_c : ClassId) (a0_38_f : Nat → Int32) (h_a0_5 : 0 ≤ a0_5.toInt ∧ a0_5.toInt ≤ 1000) (h_a0_6 : 0 ≤ a0_6.toInt ∧ a0_6.toInt ≤ 1000) (h_a0_7 : 0 ≤ a0_7.toInt ∧ a0_7.toInt ≤ 1000) (h_a0_8 : 0 ≤ a0_8.toInt ∧ a0_8.toInt ≤ 1000) (h_a0_17 : 0 ≤ a0_17.toInt ∧ a0_17.toInt ≤ 1) (h_a0_37 : (-1) ≤ a0_37.toInt ∧ a0_37.toInt ≤ 23) (h_a0_40 : 0 ≤ a0_40.toInt ∧ a0_40.toInt ≤ 12) (h_a0_20_f : vr 0 24 a0_20_f) (h_a0_21_f : vr 0 12 a0_21_f) (hms : RowOk (a0_20_f 0).toInt a0_38_f 0) (hmw : WOk a0_32_f a0_33_f 0 (a0_21_f 0).toInt) : Met l yX9_closedBy (.code yX9_closedBy cX9_closedBy 5 (some .int) :: TBL) ({ frames := 7, cells := 0, slots := 0, locals := 164 }) (va_Pc [.ref a0, .int a1, .int a2] (fun U => U.heap.size = sz ∧ va_P (dC, dI) vwCl [(a0, .inr (8, [.int a0_0, .int a0_1, .int a0_2, .int a0_3, .ref a0_4, .int a0_5, .int a0_6, .int a0_7, .int a0_8, .int a0_9, .int a0_10, .long a0_11, .int a0_12, .int a0_13, .int a0_14, .int a0_15, .int a0_16, .int a0_17, .ref a0_18, .ref a0_19, .ref a0_20, .ref a0_21, .ref a0_22, .ref a0_23, .ref a0_24, .ref a0_25, .ref a0_26, .ref a0_27, .ref a0_28, .ref a0_29, .ref a0_30, .ref a0_31, .ref a0_32, .ref a0_33, .ref a0_34, .ref a0_35, .long a0_36, .int a0_37, .ref a0_38, .ref a0_39, .int a0_40, .ref a0_41, .ref a0_42, .ref a0_43])), (a0_20, .inl (a0_20_c, 2, .inl a0_20_f)), (a0_21, .inl (a0_21_c, 2, .inl a0_21_f)), (a0_23, .inl (a0_23_c, 16, .inl a0_23_f)), (a0_26, .inl (a0_26_c, 8, .inl a0_26_f)), (a0_29, .inl (a0_29_c, 48, .inl a0_29_f)), (a0_30, .inl (a0_30_c, 48, .inl a0_30_f)), (a0_31, .inl (a0_31_c, 48, .inl a0_31_f)), (a0_32, .inl (a0_32_c, 24, .inl a0_32_f)), (a0_33, .inl (a0_33_c, 24, .inl a0_33_f)), (a0_34, .inl (a0_34_c, 72, .inl a0_34_f)), (a0_35, .inl (a0_35_c, 24, .inl a0_35_f)), (a0_38, .inl (a0_38_c, 176, .inl a0_38_f))] U.heap ∧ va_K (dC, dI) vwCl [(a0_20_c, .int), (a0_21_c, .int), (a0_23_c, .int), (a0_26_c, .int), (a0_29_c, .int), (a0_30_c, .int), (a0_31_c, .int), (a0_32_c, .int), (a0_33_c, .int), (a0_34_c, .int), (a0_35_c, .boolean), (a0_38_c, .int)] U ∧ va_D (fun _ => True) [(a0, .inr (8, [.int a0_0, .int a0_1, .int a0_2, .int a0_3, .ref a0_4, .int a0_5, .int a0_6, .int a0_7, .int a0_8, .int a0_9, .int a0_10, .long a0_11, .int a0_12, .int a0_13, .int a0_14, .int a0_15, .int a0_16, .int a0_17, .ref a0_18, .ref a0_19, .ref a0_20, .ref a0_21, .ref a0_22, .ref a0_23, .ref a0_24, .ref a0_25, .ref a0_26, .ref a0_27, .ref a0_28, .ref a0_29, .ref a0_30, .ref a0_31, .ref a0_32, .ref a0_33, .ref a0_34, .ref a0_35, .long a0_36, .int a0_37, .ref a0_38, .ref a0_39, .int a0_40, .ref a0_41, .ref a0_42, .ref a0_43])), (a0_20, .inl (a0_20_c, 2, .inl a0_20_f)), (a0_21, .inl (a0_21_c, 2, .inl a0_21_f)), (a0_23, .inl (a0_23_c, 16, .inl a0_23_f)), (a0_26, .inl (a0_26_c, 8, .inl a0_26_f)), (a0_29, .inl (a0_29_c, 48, .inl a0_29_f)), (a0_30, .inl (a0_30_c, 48, .inl a0_30_f)), (a0_31, .inl (a0_31_c, 48, .inl a0_31_f)), (a0_32, .inl (a0_32_c, 24, .inl a0_32_f)), (a0_33, .inl (a0_33_c, 24, .inl a0_33_f)), (a0_34, .inl (a0_34_c, 72, .inl a0_34_f)), (a0_35, .inl (a0_35_c, 24, .inl a0_35_f)), (a0_38, .inl (a0_38_c, 176, .inl a0_38_f))] ∧ Ev g (va_A [(a0, .inr (8, [.int a0_0, .int a0_1, .int a0_2, .int a0_3, .ref a0_4, .int a0_5, .int a0_6, .int a0_7, .int a0_8, .int a0_9, .int a0_10, .long a0_11, .int a0_12, .int a0_13, .int a0_14, .int a0_15, .int a0_16, .int a0_17, .ref a0_18, .ref a0_19, .ref a0_20, .ref a0_21, .ref a0_22, .ref a0_23, .ref a0_24, .ref a0_25, .ref a0_26, .ref a0_27, .ref a0_28, .ref a0_29, .ref a0_30, .ref a0_31, .ref a0_32, .ref a0_33, .ref a0_34, .ref a0_35, .long a0_36, .int a0_37, .ref a0_38, .ref a0_39, .int a0_40, .ref a0_41, .ref a0_42, .ref a0_43])), (a0_20, .inl (a0_20_c, 2, .inl a0_20_f)), (a0_21, .inl (a0_21_c, 2, .inl a0_21_f)), (a0_23, .inl (a0_23_c, 16, .inl a0_23_f)), (a0_26, .inl (a0_26_c, 8, .inl a0_26_f)), (a0_29, .inl (a0_29_c, 48, .inl a0_29_f)), (a0_30, .inl (a0_30_c, 48, .inl a0_30_f)), (a0_31, .inl (a0_31_c, 48, .inl a0_31_f)), (a0_32, .inl (a0_32_c, 24, .inl a0_32_f)), (a0_33, .inl (a0_33_c, 24, .inl a0_33_f)), (a0_34, .inl (a0_34_c, 72, .inl a0_34_f)), (a0_35, .inl (a0_35_c, 24, .inl a0_35_f)), (a0_38, .inl (a0_38_c, 176, .inl a0_38_f))] sz) U)) (va_Qi (fun (r : Int32) (u : Int32) => u = r) (fun (u : Int32) (t : State) => ∃ (za0_0 : Int32) (za0_1 : Int32) (za0_2 : Int32) (za0_3 : Int32), va_P (dC, dI) vwCl [(a0, .inr (8, [.int za0_0, .int za0_1, .int za0_2, .int za0_3, .ref a0_4, .int a0_5, .int a0_6, .int a0_7, .int a0_8, .int a0_9, .int a0_10, .long a0_11, .int a0_12, .int a0_13, .int a0_14, .int a0_15, .int a0_16, .int a0_17, .ref a0_18, .ref a0_19, .ref a0_20, .ref a0_21, .ref a0_22, .ref a0_23, .ref a0_24, .ref a0_25, .ref a0_26, .ref a0_27, .ref a0_28, .ref a0_29, .ref a0_30, .ref a0_31, .ref a0_32, .ref a0_33, .ref a0_34, .ref a0_35, .long a0_36, .int a0_37, .ref a0_38, .ref a0_39, .int a0_40, .ref a0_41, .ref a0_42, .ref a0_43])), (a0_20, .inl (a0_20_c, 2, .inl a0_20_f)), (a0_21, .inl (a0_21_c, 2, .inl a0_21_f)), (a0_23, .inl (a0_23_c, 16, .inl a0_23_f)), (a0_26, .inl (a0_26_c, 8, .inl a0_26_f)), (a0_29, .inl (a0_29_c, 48, .inl a0_29_f)), (a0_30, .inl (a0_30_c, 48, .inl a0_30_f)), (a0_31, .inl (a0_31_c, 48, .inl a0_31_f)), (a0_32, .inl (a0_32_c, 24, .inl a0_32_f)), (a0_33, .inl (a0_33_c, 24, .inl a0_33_f)), (a0_34, .inl (a0_34_c, 72, .inl a0_34_f)), (a0_35, .inl (a0_35_c, 24, .inl a0_35_f)), (a0_38, .inl (a0_38_c, 176, .inl a0_38_f))] t.heap ∧ va_K (dC, dI) vwCl [] t ∧ va_D (va_A [(a0, .inr (8, [.int a0_0, .int a0_1, .int a0_2, .int a0_3, .ref a0_4, .int a0_5, .int a0_6, .int a0_7, .int a0_8, .int a0_9, .int a0_10, .long a0_11, .int a0_12, .int a0_13, .int a0_14, .int a0_15, .int a0_16, .int a0_17, .ref a0_18, .ref a0_19, .ref a0_20, .ref a0_21, .ref a0_22, .ref a0_23, .ref a0_24, .ref a0_25, .ref a0_26, .ref a0_27, .ref a0_28, .ref a0_29, .ref a0_30, .ref a0_31, .ref a0_32, .ref a0_33, .ref a0_34, .ref a0_35, .long a0_36, .int a0_37, .ref a0_38, .ref a0_39, .int a0_40, .ref a0_41, .ref a0_42, .ref a0_43])), (a0_20, .inl (a0_20_c, 2, .inl a0_20_f)), (a0_21, .inl (a0_21_c, 2, .inl a0_21_f)), (a0_23, .inl (a0_23_c, 16, .inl a0_23_f)), (a0_26, .inl (a0_26_c, 8, .inl a0_26_f)), (a0_29, .inl (a0_29_c, 48, .inl a0_29_f)), (a0_30, .inl (a0_30_c, 48, .inl a0_30_f)), (a0_31, .inl (a0_31_c, 48, .inl a0_31_f)), (a0_32, .inl (a0_32_c, 24, .inl a0_32_f)), (a0_33, .inl (a0_33_c, 24, .inl a0_33_f)), (a0_34, .inl (a0_34_c, 72, .inl a0_34_f)), (a0_35, .inl (a0_35_c, 24, .inl a0_35_f)), (a0_38, .inl (a0_38_c, 176, .inl a0_38_f))] sz) [(a0, .inr (8, [.int za0_0, .int za0_1, .int za0_2, .int za0_3, .ref a0_4, .int a0_5, .int a0_6, .int a0_7, .int a0_8, .int a0_9, .int a0_10, .long a0_11, .int a0_12, .int a0_13, .int a0_14, .int a0_15, .int a0_16, .int a0_17, .ref a0_18, .ref a0_19, .ref a0_20, .ref a0_21, .ref a0_22, .ref a0_23, .ref a0_24, .ref a0_25, .ref a0_26, .ref a0_27, .ref a0_28, .ref a0_29, .ref a0_30, .ref a0_31, .ref a0_32, .ref a0_33, .ref a0_34, .ref a0_35, .long a0_36, .int a0_37, .ref a0_38, .ref a0_39, .int a0_40, .ref a0_41, .ref a0_42, .ref a0_43])), (a0_20, .inl (a0_20_c, 2, .inl a0_20_f)), (a0_21, .inl (a0_21_c, 2, .inl a0_21_f)), (a0_23, .inl (a0_23_c, 16, .inl a0_23_f)), (a0_26, .inl (a0_26_c, 8, .inl a0_26_f)), (a0_29, .inl (a0_29_c, 48, .inl a0_29_f)), (a0_30, .inl (a0_30_c, 48, .inl a0_30_f)), (a0_31, .inl (a0_31_c, 48, .inl a0_31_f)), (a0_32, .inl (a0_32_c, 24, .inl a0_32_f)), (a0_33, .inl (a0_33_c, 24, .inl a0_33_f)), (a0_34, .inl (a0_34_c, 72, .inl a0_34_f)), (a0_35, .inl (a0_35_c, 24, .inl a0_35_f)), (a0_38, .inl (a0_38_c, 176, .inl a0_38_f))]) (va_A [(a0, .inr (8, [.int a0_0, .int a0_1, .int a0_2, .int a0_3, .ref a0_4, .int a0_5, .int a0_6, .int a0_7, .int a0_8, .int a0_9, .int a0_10, .long a0_11, .int a0_12, .int a0_13, .int a0_14, .int a0_15, .int a0_16, .int a0_17, .ref a0_18, .ref a0_19, .ref a0_20, .ref a0_21, .ref a0_22, .ref a0_23, .ref a0_24, .ref a0_25, .ref a0_26, .ref a0_27, .ref a0_28, .ref a0_29, .ref a0_30, .ref a0_31, .ref a0_32, .ref a0_33, .ref a0_34, .ref a0_35, .long a0_36, .int a0_37, .ref a0_38, .ref a0_39, .int a0_40, .ref a0_41, .ref a0_42, .ref a0_43])), (a0_20, .inl (a0_20_c, 2, .inl a0_20_f)), (a0_21, .inl (a0_21_c, 2, .inl a0_21_f)), (a0_23, .inl (a0_23_c, 16, .inl a0_23_f)), (a0_26, .inl (a0_26_c, 8, .inl a0_26_f)), (a0_29, .inl (a0_29_c, 48, .inl a0_29_f)), (a0_30, .inl (a0_30_c, 48, .inl a0_30_f)), (a0_31, .inl (a0_31_c, 48, .inl a0_31_f)), (a0_32, .inl (a0_32_c, 24, .inl a0_32_f)), (a0_33, .inl (a0_33_c, 24, .inl a0_33_f)), (a0_34, .inl (a0_34_c, 72, .inl a0_34_f)), (a0_35, .inl (a0_35_c, 24, .inl a0_35_f)), (a0_38, .inl (a0_38_c, 176, .inl a0_38_f))] sz)) 0 0 (va_A [(a0, .inr (8, [.int a0_0, .int a0_1, .int a0_2, .int a0_3, .ref a0_4, .int a0_5, .int a0_6, .int a0_7, .int a0_8, .int a0_9, .int a0_10, .long a0_11, .int a0_12, .int a0_13, .int a0_14, .int a0_15, .int a0_16, .int a0_17, .ref a0_18, .ref a0_19, .ref a0_20, .ref a0_21, .ref a0_22, .ref a0_23, .ref a0_24, .ref a0_25, .ref a0_26, .ref a0_27, .ref a0_28, .ref a0_29, .ref a0_30, .ref a0_31, .ref a0_32, .ref a0_33, .ref a0_34, .ref a0_35, .long a0_36, .int a0_37, .ref a0_38, .ref a0_39, .int a0_40, .ref a0_41, .ref a0_42, .ref a0_43])), (a0_20, .inl (a0_20_c, 2, .inl a0_20_f)), (a0_21, .inl (a0_21_c, 2, .inl a0_21_f)), (a0_23, .inl (a0_23_c, 16, .inl a0_23_f)), (a0_26, .inl (a0_26_c, 8, .inl a0_26_f)), (a0_29, .inl (a0_29_c, 48, .inl a0_29_f)), (a0_30, .inl (a0_30_c, 48, .inl a0_30_f)), (a0_31, .inl (a0_31_c, 48, .inl a0_31_f)), (a0_32, .inl (a0_32_c, 24, .inl a0_32_f)), (a0_33, .inl (a0_33_c, 24, .inl a0_33_f)), (a0_34, .inl (a0_34_c, 72, .inl a0_34_f)), (a0_35, .inl (a0_35_c, 24, .inl a0_35_f)), (a0_38, .inl (a0_38_c, 176, .inl a0_38_f))] sz) := by
  refine Met.ofW (cc := cX9_closedBy) (maxL := 5) (ret := (some .int)) (by decide) rfl ?_
  intro p e s m args below meth c s₁ B hml hv
  obtain ⟨rfl, hsz, hP, hK, hD0, hE⟩ := hv
  have hx := B.exec
  have hb := B.bytes
  have hr := B.returns
  have hts0 := atoms_spec (ws := (.code yX9_closedBy cX9_closedBy 5 (some .int) :: TBL)) B.pre
  have hts := fun (w : Cond) (h : w ∈ TBL) => hts0 w (List.mem_cons_of_mem _ h)
  have hown : s.vm.findClass RX9 = some m.cls := findClass_of_methodNamed B.named
  have hlocks := B.notSynchronized
  have hN := hE.1
  subst hsz
  have hD := hD0.self (sz := s.heap.size)
  generalize hAe : va_A [(a0, .inr (8, [.int a0_0, .int a0_1, .int a0_2, .int a0_3, .ref a0_4, .int a0_5, .int a0_6, .int a0_7, .int a0_8, .int a0_9, .int a0_10, .long a0_11, .int a0_12, .int a0_13, .int a0_14, .int a0_15, .int a0_16, .int a0_17, .ref a0_18, .ref a0_19, .ref a0_20, .ref a0_21, .ref a0_22, .ref a0_23, .ref a0_24, .ref a0_25, .ref a0_26, .ref a0_27, .ref a0_28, .ref a0_29, .ref a0_30, .ref a0_31, .ref a0_32, .ref a0_33, .ref a0_34, .ref a0_35, .long a0_36, .int a0_37, .ref a0_38, .ref a0_39, .int a0_40, .ref a0_41, .ref a0_42, .ref a0_43])), (a0_20, .inl (a0_20_c, 2, .inl a0_20_f)), (a0_21, .inl (a0_21_c, 2, .inl a0_21_f)), (a0_23, .inl (a0_23_c, 16, .inl a0_23_f)), (a0_26, .inl (a0_26_c, 8, .inl a0_26_f)), (a0_29, .inl (a0_29_c, 48, .inl a0_29_f)), (a0_30, .inl (a0_30_c, 48, .inl a0_30_f)), (a0_31, .inl (a0_31_c, 48, .inl a0_31_f)), (a0_32, .inl (a0_32_c, 24, .inl a0_32_f)), (a0_33, .inl (a0_33_c, 24, .inl a0_33_f)), (a0_34, .inl (a0_34_c, 72, .inl a0_34_f)), (a0_35, .inl (a0_35_c, 24, .inl a0_35_f)), (a0_38, .inl (a0_38_c, 176, .inl a0_38_f))] s.heap.size = A at hD hE ⊢
  have hA : ∀ q : Nat, s.heap.size ≤ q → A q := fun q h => by rw [← hAe]; exact Or.inr h
  have hS : va_S A s.heap s.heap [] := va_S.rf
  replace hP : va_P (dC, dI) vwCl [(a0, .inr (8, [.int a0_0, .int a0_1, .int a0_2, .int a0_3, .ref a0_4, .int a0_5, .int a0_6, .int a0_7, .int a0_8, .int a0_9, .int a0_10, .long a0_11, .int a0_12, .int a0_13, .int a0_14, .int a0_15, .int a0_16, .int a0_17, .ref a0_18, .ref a0_19, .ref a0_20, .ref a0_21, .ref a0_22, .ref a0_23, .ref a0_24, .ref a0_25, .ref a0_26, .ref a0_27, .ref a0_28, .ref a0_29, .ref a0_30, .ref a0_31, .ref a0_32, .ref a0_33, .ref a0_34, .ref a0_35, .long a0_36, .int a0_37, .ref a0_38, .ref a0_39, .int a0_40, .ref a0_41, .ref a0_42, .ref a0_43])), (a0_20, .inl (a0_20_c, 2, .inl a0_20_f)), (a0_21, .inl (a0_21_c, 2, .inl a0_21_f)), (a0_23, .inl (a0_23_c, 16, .inl a0_23_f)), (a0_26, .inl (a0_26_c, 8, .inl a0_26_f)), (a0_29, .inl (a0_29_c, 48, .inl a0_29_f)), (a0_30, .inl (a0_30_c, 48, .inl a0_30_f)), (a0_31, .inl (a0_31_c, 48, .inl a0_31_f)), (a0_32, .inl (a0_32_c, 24, .inl a0_32_f)), (a0_33, .inl (a0_33_c, 24, .inl a0_33_f)), (a0_34, .inl (a0_34_c, 72, .inl a0_34_f)), (a0_35, .inl (a0_35_c, 24, .inl a0_35_f)), (a0_38, .inl (a0_38_c, 176, .inl a0_38_f))] s.heap := hP
  have hl := lv_entry ([.ref a0, .int a1, .int a2]) (n := 5) (Nat.le_of_ble_eq_true rfl)
  rw [lg_entry_eq]
  generalize (lg_sl ([.ref a0, .int a1, .int a2]) ++ List.replicate (5 - (lg_sl ([.ref a0, .int a1, .int a2])).length) Slot.unset).toArray = ls at hl ⊢
  have hl : lv_has ls 5 [(0, .ref a0), (1, .int a1), (2, .int a2)] := hl
  have b_a1 := i32b a1
  have b_a2 := i32b a2
  have b_a0_0 := i32b a0_0
  have b_a0_1 := i32b a0_1
  have b_a0_2 := i32b a0_2
  have b_a0_3 := i32b a0_3
  have b_a0_9 := i32b a0_9
  have b_a0_10 := i32b a0_10
  have b_a0_12 := i32b a0_12
  have b_a0_13 := i32b a0_13
  have b_a0_14 := i32b a0_14
  have b_a0_15 := i32b a0_15
  have b_a0_16 := i32b a0_16
  have hp20 := vr_at h_a0_20_f (k := 0) rfl
  have hp21 := vr_at h_a0_21_f (k := 0) rfl
  refine lv_aload_n hx hb dX9_closedBy_0 rfl (lv_at hl 0 rfl) ?_
  refine lv_iconst (v := 0) hx hb dX9_closedBy_1 (by decide) ?_
  refine va_put (D := (dC, dI)) (ci := 8) (v := .int 0) (ty := .int) (C := RX9) (T := TX9) (N := 44) hx hb hts inlX9 tyX9 tyX9_ok nmX9 hown hK hP hD hS 0 rgL13_890e5ad rfl 0 (by decide) (hts (.fieldLink RX9 85 "ClosedUntilModel" "thrown" "I") qw_408) (fun _ h9 => h9) rfl (by decide +kernel) rfl rfl (Nat.le_of_ble_eq_true rfl) dX9_closedBy_2 (fun H locs hP9 hD9 hS9 => ?_)
  clear hP hD hS
  obtain ⟨hP, hD⟩ := rgS13_d750318 (e := (a0, .inr (8, [.int 0, .int a0_1, .int a0_2, .int a0_3, .ref a0_4, .int a0_5, .int a0_6, .int a0_7, .int a0_8, .int a0_9, .int a0_10, .long a0_11, .int a0_12, .int a0_13, .int a0_14, .int a0_15, .int a0_16, .int a0_17, .ref a0_18, .ref a0_19, .ref a0_20, .ref a0_21, .ref a0_22, .ref a0_23, .ref a0_24, .ref a0_25, .ref a0_26, .ref a0_27, .ref a0_28, .ref a0_29, .ref a0_30, .ref a0_31, .ref a0_32, .ref a0_33, .ref a0_34, .ref a0_35, .long a0_36, .int a0_37, .ref a0_38, .ref a0_39, .int a0_40, .ref a0_41, .ref a0_42, .ref a0_43]))) hP9 hD9 rfl
  have hS := hS9; clear hP9 hD9 hS9
  refine lv_aload_n hx hb dX9_closedBy_5 rfl (lv_at hl 0 rfl) ?_
  refine lv_iload_n hx hb dX9_closedBy_6 rfl (lv_at hl 1 rfl) ?_
  have qc0 : (0 : Int32).toInt = 0 := by decide
  have hPc := (rgP13_e9f0d34 hP)
  have hKc := (rgK12_2fc2b8d hK)
  refine vp_callSi ((va_runV (As := [.int a1]) (rest := []) ⟨hx, hb, hml, hown, hts⟩ (k_X9_isPiece l dC dI g (a0) (a1) (0) (a0_1) (a0_2) (a0_3) (a0_4) (a0_5) (a0_6) (a0_7) (a0_8) (a0_9) (a0_10) (a0_11) (a0_12) (a0_13) (a0_14) (a0_15) (a0_16) (a0_17) (a0_18) (a0_19) (a0_20) (a0_21) (a0_22) (a0_23) (a0_24) (a0_25) (a0_26) (a0_27) (a0_28) (a0_29) (a0_30) (a0_31) (a0_32) (a0_33) (a0_34) (a0_35) (a0_36) (a0_37) (a0_38) (a0_39) (a0_40) (a0_41) (a0_42) (a0_43) (a0_20_c) (a0_20_f) (by omega) (by omega) (by omega) (by omega) (by omega) (by omega) (by omega) h_a0_20_f) (cwV 1 hts (gwV qw_602 qw_603 qw_604 qw_386 qw_601) rfl rfl rfl (by decide +kernel) ⟨Nat.le_of_ble_eq_true rfl, Nat.le_of_ble_eq_true rfl⟩) ⟨fun a U g9 mk q => ⟨q.1, q.2.1, va_K.moved (u := U) (U := U.calling g9 mk a) (Vm.Alike.refl U.vm) q.2.2.1, Ev.bl q.2.2.2⟩, va_recv hK hP (ci := 8) (q0 := 0) rfl rgL13_890e5ad, fun U hU hW => ⟨rfl, atB hU hPc, va_K.moved hW.alike hKc, hE.go hS (fun _ h => h.elim) hU hW⟩⟩ rfl rfl hl.1 rfl (lv_room (Nat.le_of_ble_eq_true rfl)) dX9_closedBy_7 ⟨Nat.le_of_ble_eq_true rfl, Nat.le_of_ble_eq_true rfl⟩)).run (fun r1 h_r1 => ?_)
  have h_r1 : (r1 = 0 ∨ r1 = 1) ∧ ((r1.toInt = 1 ∧ 0 ≤ a1.toInt ∧ a1.toInt < (a0_20_f 0).toInt) ∨ r1.toInt = 0) := h_r1
  have b_r1 := z01 (show r1 = 0 ∨ r1 = 1 from h_r1.1)
  refine lv_if_eq (tgt := 25) hx hb dX9_closedBy_10 (by decide) (fun c10_2 => ?_) (fun c10_2 => ?_)
  · have c10_2 : r1.toInt = 0 := (cv_eq rfl (by decide)).mp c10_2
    refine lv_iconst (v := (-1)) hx hb dX9_closedBy_25 (by decide) ?_
    have qcm1 : ((-1) : Int32).toInt = (-1) := by decide
    have qc0 : (0 : Int32).toInt = 0 := by decide
    refine W.widen (k := 0) (n := 0) (Nat.le_of_ble_eq_true rfl) (Nat.le_of_ble_eq_true rfl) ?_
    have hP9 := hP
    have hD9 := hD
    have hK9 := (rgK12_8728a0f hK)
    exact W.iret (v := (-1)) hx hb hr (fun t ht hW => ⟨⟨(-1), (-1), rfl, rfl, 0, a0_1, a0_2, a0_3, atB ht hP9, va_K.moved hW.alike hK9, hD9⟩, hS.F ht⟩) hS.2.2 dX9_closedBy_26
  · have c10_2 : ¬ (r1.toInt = 0) := mt (cv_eq rfl (by decide)).mpr c10_2
    refine lv_iload_n hx hb dX9_closedBy_13 rfl (lv_at hl 2 rfl) ?_
    refine lv_i2l hx hb dX9_closedBy_14 rfl ?_
    refine lv_lconst (v := 0) hx hb dX9_closedBy_15 (by decide) ?_
    refine lv_ldc2 (v := 219145) hx hb hown (hts (.constantLong RX9 133 (219145)) qw_449) dX9_closedBy_16 ?_
    have hPc := (rgP13_cd0f0b0 hP)
    have hKc := (rgK12_8728a0f hK)
    refine vp_callSi ((va_runS (As := [.long (a2.toInt64), .long 0, .long 219145]) (rest := []) ⟨hx, hb, hml, hown, hts⟩ (k_X9_within l dC dI g ((a2.toInt64)) (0) (219145) (a2.toInt) (0) (219145) (w_li rfl) (by decide) (by decide)) (va_cwS 3 hts (gwS qw_444 qw_445 qw_386 qw_443) rfl rfl rfl (by decide +kernel) ⟨Nat.le_of_ble_eq_true rfl, Nat.le_of_ble_eq_true rfl⟩) ⟨fun a U g9 mk q => ⟨q.1, q.2.1, va_K.moved (u := U) (U := U.calling g9 mk a) (Vm.Alike.refl U.vm) q.2.2.1, Ev.bl q.2.2.2⟩, fun U hU hW => ⟨rfl, atB hU hPc, va_K.moved hW.alike hKc, hE.go hS (fun _ h => h.elim) hU hW⟩⟩ rfl rfl hl.1 rfl (lv_room (Nat.le_of_ble_eq_true rfl)) dX9_closedBy_19 ⟨Nat.le_of_ble_eq_true rfl, Nat.le_of_ble_eq_true rfl⟩)).run (fun r3 h_r3 => ?_)
    have h_r3 : (r3 = 0 ∨ r3 = 1) ∧ ((r3.toInt = 1 ∧ 0 ≤ a2.toInt ∧ a2.toInt ≤ 219145) ∨ (r3.toInt = 0 ∧ ¬ (0 ≤ a2.toInt ∧ a2.toInt ≤ 219145))) := h_r3
    have b_r3 := z01 h_r3.1
    refine lv_if_ne (tgt := 27) hx hb dX9_closedBy_22 (by decide) (fun c22_4 => ?_) (fun c22_4 => ?_)
    · have c22_4 : ¬ (r3.toInt = 0) := mt (cv_eq rfl (by decide)).mpr c22_4
      refine lv_iconst (v := 0) hx hb dX9_closedBy_27 (by decide) ?_
      refine lv_istore_n (lv' := [(3, .int 0), (0, .ref a0), (1, .int a1), (2, .int a2)]) hx hb dX9_closedBy_28 rfl hl (by decide) rfl (fun ls hl => ?_)
      refine lv_iconst (v := 0) hx hb dX9_closedBy_29 (by decide) ?_
      refine lv_istore (lv' := [(4, .int 0), (3, .int 0), (0, .ref a0), (1, .int a1), (2, .int a2)]) hx hb dX9_closedBy_30 hl (by decide) rfl (fun ls hl => ?_)
      have qc0 : (0 : Int32).toInt = 0 := by decide
      refine wloop (fun n H locs ls => ∃ (l32_4 : Int32) (l32_3 : Int32) (f32_0_1 : Int32) (f32_0_2 : Int32) (f32_0_3 : Int32), n = (2147483647 - l32_4.toInt).toNat ∧ (0 ≤ l32_4.toInt) ∧ lv_has ls 5 [(4, .int l32_4), (3, .int l32_3), (0, .ref a0), (1, .int a1), (2, .int a2)] ∧ va_P (dC, dI) vwCl [(a0, .inr (8, [.int 0, .int f32_0_1, .int f32_0_2, .int f32_0_3, .ref a0_4, .int a0_5, .int a0_6, .int a0_7, .int a0_8, .int a0_9, .int a0_10, .long a0_11, .int a0_12, .int a0_13, .int a0_14, .int a0_15, .int a0_16, .int a0_17, .ref a0_18, .ref a0_19, .ref a0_20, .ref a0_21, .ref a0_22, .ref a0_23, .ref a0_24, .ref a0_25, .ref a0_26, .ref a0_27, .ref a0_28, .ref a0_29, .ref a0_30, .ref a0_31, .ref a0_32, .ref a0_33, .ref a0_34, .ref a0_35, .long a0_36, .int a0_37, .ref a0_38, .ref a0_39, .int a0_40, .ref a0_41, .ref a0_42, .ref a0_43])), (a0_20, .inl (a0_20_c, 2, .inl a0_20_f)), (a0_21, .inl (a0_21_c, 2, .inl a0_21_f)), (a0_23, .inl (a0_23_c, 16, .inl a0_23_f)), (a0_26, .inl (a0_26_c, 8, .inl a0_26_f)), (a0_29, .inl (a0_29_c, 48, .inl a0_29_f)), (a0_30, .inl (a0_30_c, 48, .inl a0_30_f)), (a0_31, .inl (a0_31_c, 48, .inl a0_31_f)), (a0_32, .inl (a0_32_c, 24, .inl a0_32_f)), (a0_33, .inl (a0_33_c, 24, .inl a0_33_f)), (a0_34, .inl (a0_34_c, 72, .inl a0_34_f)), (a0_35, .inl (a0_35_c, 24, .inl a0_35_f)), (a0_38, .inl (a0_38_c, 176, .inl a0_38_f))] H ∧ va_D A [(a0, .inr (8, [.int 0, .int f32_0_1, .int f32_0_2, .int f32_0_3, .ref a0_4, .int a0_5, .int a0_6, .int a0_7, .int a0_8, .int a0_9, .int a0_10, .long a0_11, .int a0_12, .int a0_13, .int a0_14, .int a0_15, .int a0_16, .int a0_17, .ref a0_18, .ref a0_19, .ref a0_20, .ref a0_21, .ref a0_22, .ref a0_23, .ref a0_24, .ref a0_25, .ref a0_26, .ref a0_27, .ref a0_28, .ref a0_29, .ref a0_30, .ref a0_31, .ref a0_32, .ref a0_33, .ref a0_34, .ref a0_35, .long a0_36, .int a0_37, .ref a0_38, .ref a0_39, .int a0_40, .ref a0_41, .ref a0_42, .ref a0_43])), (a0_20, .inl (a0_20_c, 2, .inl a0_20_f)), (a0_21, .inl (a0_21_c, 2, .inl a0_21_f)), (a0_23, .inl (a0_23_c, 16, .inl a0_23_f)), (a0_26, .inl (a0_26_c, 8, .inl a0_26_f)), (a0_29, .inl (a0_29_c, 48, .inl a0_29_f)), (a0_30, .inl (a0_30_c, 48, .inl a0_30_f)), (a0_31, .inl (a0_31_c, 48, .inl a0_31_f)), (a0_32, .inl (a0_32_c, 24, .inl a0_32_f)), (a0_33, .inl (a0_33_c, 24, .inl a0_33_f)), (a0_34, .inl (a0_34_c, 72, .inl a0_34_f)), (a0_35, .inl (a0_35_c, 24, .inl a0_35_f)), (a0_38, .inl (a0_38_c, 176, .inl a0_38_f))] ∧ va_S A s.heap H locs) ?_ ((2147483647 - (0 : Int32).toInt).toNat) _ _ _ ⟨0, 0, a0_1, a0_2, a0_3, rfl, (by omega), lv_sub hl [0, 1, 2, 3, 4] rfl, hP, hD, hS⟩
      intro n32 H locs ls hI ih32
      obtain ⟨l32_4, l32_3, f32_0_1, f32_0_2, f32_0_3, hn32, g_l32_4, hl, hP, hD, hS⟩ := hI
      have b_l32_4 := i32b l32_4
      have b_l32_3 := i32b l32_3
      have b_f32_0_1 := i32b f32_0_1
      have b_f32_0_2 := i32b f32_0_2
      have b_f32_0_3 := i32b f32_0_3
      refine lv_iload hx hb dX9_closedBy_32 (lv_at hl 0 rfl) ?_
      refine lv_aload_n hx hb dX9_closedBy_34 rfl (lv_at hl 2 rfl) ?_
      refine va_get (D := (dC, dI)) (ci := 8) (v := .ref a0_21) (C := RX9) (T := TX9) (N := 44) hx hb hts inlX9 hown hK hP 0 rgL13_890e5ad rfl 21 (by decide) (hts (.fieldLink RX9 23 "ClosedUntilModel" "closures" "[I") qw_501) (fun _ h9 => h9) rfl dX9_closedBy_35 ?_
      refine lv_iconst (v := 0) hx hb dX9_closedBy_38 (by decide) ?_
      refine va_iald hx hb hK hP 2 1 rgL13_d2ab6f9 rgT12_9de3ffa (vin0 (by decide)) dX9_closedBy_39 ?_
      refine lv_topi (fun x5 e_x5 => ?_)
      have q_x5 : x5.toInt = (a0_21_f 0).toInt := congrArg Int32.toInt e_x5
      have b_x5 : 0 ≤ x5.toInt ∧ x5.toInt ≤ 12 := vr_at (lo := 0) (hi := 12) (f := a0_21_f) h_a0_21_f e_x5
      refine lv_icmp_ge (tgt := 71) hx hb dX9_closedBy_40 (by decide) (fun c40_6 => ?_) (fun c40_6 => ?_)
      · have c40_6 : x5.toInt ≤ l32_4.toInt := (cv_le rfl rfl).mp c40_6
        refine lv_iload_n hx hb dX9_closedBy_71 rfl (lv_at hl 1 rfl) ?_
        have qc0 : (0 : Int32).toInt = 0 := by decide
        refine W.widen (k := 0) (n := 0) (Nat.le_of_ble_eq_true rfl) (Nat.le_of_ble_eq_true rfl) ?_
        have hP9 := hP
        have hD9 := hD
        have hK9 := (rgK12_8728a0f hK)
        exact W.iret (v := l32_3) hx hb hr (fun t ht hW => ⟨⟨l32_3, l32_3, rfl, rfl, 0, f32_0_1, f32_0_2, f32_0_3, atB ht hP9, va_K.moved hW.alike hK9, hD9⟩, hS.F ht⟩) hS.2.2 dX9_closedBy_72
      · have c40_6 : ¬ (x5.toInt ≤ l32_4.toInt) := mt (cv_le rfl rfl).mpr c40_6
        refine lv_iload_n hx hb dX9_closedBy_43 rfl (lv_at hl 1 rfl) ?_
        refine lv_aload_n hx hb dX9_closedBy_44 rfl (lv_at hl 2 rfl) ?_
        refine lv_iload hx hb dX9_closedBy_45 (lv_at hl 0 rfl) ?_
        refine lv_iload_n hx hb dX9_closedBy_47 rfl (lv_at hl 3 rfl) ?_
        have qc0 : (0 : Int32).toInt = 0 := by decide
        have hPc := (rgP13_87d50a7 hP)
        have hKc := (rgK12_948a3ee hK)
        have hDc := (rgD13_53497a6 hD)
        have hFc := freeW hDc hS hA
        refine va_calli (va_runV (As := [.int l32_4, .int a1]) (rest := [.int l32_3]) ⟨hx, hb, hml, hown, hts⟩ (k_X9_endsOf l dC dI g H.size (a0) (l32_4) (a1) (0) (f32_0_1) (f32_0_2) (f32_0_3) (a0_4) (a0_5) (a0_6) (a0_7) (a0_8) (a0_9) (a0_10) (a0_11) (a0_12) (a0_13) (a0_14) (a0_15) (a0_16) (a0_17) (a0_18) (a0_19) (a0_20) (a0_21) (a0_22) (a0_23) (a0_24) (a0_25) (a0_26) (a0_27) (a0_28) (a0_29) (a0_30) (a0_31) (a0_32) (a0_33) (a0_34) (a0_35) (a0_36) (a0_37) (a0_38) (a0_39) (a0_40) (a0_41) (a0_42) (a0_43) (a0_23_c) (a0_23_f) (a0_26_c) (a0_26_f) (a0_29_c) (a0_29_f) (a0_30_c) (a0_30_f) (a0_31_c) (a0_31_f) (a0_32_c) (a0_32_f) (a0_33_c) (a0_33_f) (a0_34_c) (a0_34_f) (a0_35_c) (a0_35_f) (a0_38_c) (a0_38_f) ((a0_20_f 0).toInt) ((a0_21_f 0).toInt) (by omega) (by omega) (by omega) (by omega) (by omega) (by omega) (by omega) (by omega) (by assumption) (by omega) (by assumption) (by omega) (by omega)) (cwV 2 hts (gwV qw_532 qw_533 qw_534 qw_386 qw_531) rfl rfl rfl (by decide +kernel) ⟨Nat.le_of_ble_eq_true rfl, Nat.le_of_ble_eq_true rfl⟩) ⟨fun a U g9 mk q => ⟨q.1, q.2.1, q.2.2.1, va_K.moved (u := U) (U := U.calling g9 mk a) (Vm.Alike.refl U.vm) q.2.2.2.1, q.2.2.2.2.1, Ev.bl q.2.2.2.2.2⟩, va_recv hK hP (ci := 8) (q0 := 0) rfl rgL13_890e5ad, fun U hU hW => ⟨rfl, by rw [hU], atB hU hPc, va_K.moved hW.alike hKc, hDc.weaken (fun _ _ _ _ => trivial), hE.go hS hFc hU hW⟩⟩ rfl rfl hl.1 rfl (lv_room (Nat.le_of_ble_eq_true rfl)) dX9_closedBy_48 ⟨Nat.le_of_ble_eq_true rfl, Nat.le_of_ble_eq_true rfl⟩) hS (fun q _ h => hFc q h) hFc (fun r8 u7 t H1 locs ht hvm h_u7 hB hz1 hk1 hS => ?_)
        obtain ⟨za0_1_9, za0_2_10, za0_3_11, hP1, hK1, hD1⟩ := hB
        have hK1 := va_K.moved hvm.symm hK1
        have hJ9 := rgJ13_1725318 hP hD hk1 hFc (atH ht hP1) hD1
        clear hP hD hPc hKc hDc hFc hP1 hD1 hk1 hz1
        obtain ⟨hP, hD⟩ := hJ9
        clear hK1
        generalize H1 = H at hP hS ⊢
        refine W.widen (k := 0) (n := 0) (Nat.le_of_ble_eq_true rfl) (Nat.le_of_ble_eq_true rfl) ?_
        have h_r8 := congrArg Int32.toInt h_u7
        have b_r8 := i32b r8
        refine lv_iload_n hx hb dX9_closedBy_51 rfl (lv_at hl 4 rfl) ?_
        refine lv_icmp_le (tgt := 62) hx hb dX9_closedBy_52 (by decide) (fun c52_12 => ?_) (fun c52_12 => ?_)
        · have c52_12 : r8.toInt ≤ a2.toInt := (cv_le rfl rfl).mp c52_12
          refine lv_iconst (v := 0) hx hb dX9_closedBy_62 (by decide) ?_
          refine lv_ior hx hb dX9_closedBy_63 ?_
          refine lv_topi (fun x13 e_x13 => ?_)
          refine lv_istore_n (lv' := [(3, .int x13), (4, .int l32_4), (0, .ref a0), (1, .int a1), (2, .int a2)]) hx hb dX9_closedBy_64 rfl hl (by decide) rfl (fun ls hl => ?_)
          obtain ⟨x14, e_x14⟩ : ∃ y : Int32, y = l32_4 + 1 := ⟨_, rfl⟩
          refine lv_iinc (v := x14) (lv' := [(4, .int x14), (3, .int x13), (0, .ref a0), (1, .int a1), (2, .int a2)]) hx hb dX9_closedBy_65 hl (k := 1) rfl (by rw [e_x14]; rfl) (by decide) rfl (fun ls hl => ?_)
          try have e_x14 := ti_add e_x14 rfl (show (1 : Int32).toInt = 1 by decide) (by omega)
          refine lv_goto (tgt := 32) hx hb dX9_closedBy_68 (by decide) ?_
          exact ih32 ((2147483647 - x14.toInt).toNat) _ _ _ (by omega) ⟨x14, x13, za0_1_9, za0_2_10, za0_3_11, rfl, (by omega), lv_sub hl [0, 1, 2, 3, 4] rfl, hP, hD, hS⟩
        · have c52_12 : ¬ (r8.toInt ≤ a2.toInt) := mt (cv_le rfl rfl).mpr c52_12
          refine lv_iconst (v := 1) hx hb dX9_closedBy_55 (by decide) ?_
          refine lv_iload hx hb dX9_closedBy_56 (lv_at hl 0 rfl) ?_
          refine lv_ishl hx hb dX9_closedBy_58 ?_
          refine lv_topi (fun x15 e_x15 => ?_)
          refine lv_goto (tgt := 63) hx hb dX9_closedBy_59 (by decide) ?_
          refine lv_ior hx hb dX9_closedBy_63 ?_
          refine lv_topi (fun x16 e_x16 => ?_)
          refine lv_istore_n (lv' := [(3, .int x16), (4, .int l32_4), (0, .ref a0), (1, .int a1), (2, .int a2)]) hx hb dX9_closedBy_64 rfl hl (by decide) rfl (fun ls hl => ?_)
          obtain ⟨x17, e_x17⟩ : ∃ y : Int32, y = l32_4 + 1 := ⟨_, rfl⟩
          refine lv_iinc (v := x17) (lv' := [(4, .int x17), (3, .int x16), (0, .ref a0), (1, .int a1), (2, .int a2)]) hx hb dX9_closedBy_65 hl (k := 1) rfl (by rw [e_x17]; rfl) (by decide) rfl (fun ls hl => ?_)
          try have e_x17 := ti_add e_x17 rfl (show (1 : Int32).toInt = 1 by decide) (by omega)
          refine lv_goto (tgt := 32) hx hb dX9_closedBy_68 (by decide) ?_
          exact ih32 ((2147483647 - x17.toInt).toNat) _ _ _ (by omega) ⟨x17, x16, za0_1_9, za0_2_10, za0_3_11, rfl, (by omega), lv_sub hl [0, 1, 2, 3, 4] rfl, hP, hD, hS⟩
    · have c22_4 : r3.toInt = 0 := (cv_eq rfl (by decide)).mp c22_4
      refine lv_iconst (v := (-1)) hx hb dX9_closedBy_25 (by decide) ?_
      have qcm1 : ((-1) : Int32).toInt = (-1) := by decide
      have qc0 : (0 : Int32).toInt = 0 := by decide
      refine W.widen (k := 0) (n := 0) (Nat.le_of_ble_eq_true rfl) (Nat.le_of_ble_eq_true rfl) ?_
      have hP9 := hP
      have hD9 := hD
      have hK9 := (rgK12_8728a0f hK)
      exact W.iret (v := (-1)) hx hb hr (fun t ht hW => ⟨⟨(-1), (-1), rfl, rfl, 0, a0_1, a0_2, a0_3, atB ht hP9, va_K.moved hW.alike hK9, hD9⟩, hS.F ht⟩) hS.2.2 dX9_closedBy_26
set_option maxHeartbeats 4000000 in
set_option maxRecDepth 100000 in
theorem k_X9_sooner (l : Launch) (dC : Nat → ClassId) (dI : Nat → Nat → Nat) (g : Gv) (sz : Nat) (a0 : Nat) (a1 : Int32) (a2 : Int32) (a3 : Int32) (a0_0 : Int32) (a0_1 : Int32) (a0_2 : Int32) (a0_3 : Int32) (a0_4 : Nat) (a0_5 : Int32) (a0_6 : Int32) (a0_7 : Int32) (a0_8 : Int32) (a0_9 : Int32) (a0_10 : Int32) (a0_11 : Int64) (a0_12 : Int32) (a0_13 : Int32) (a0_14 : Int32) (a0_15 : Int32) (a0_16 : Int32) (a0_17 : Int32) (a0_18 : Nat) (a0_19 : Nat) (a0_20 : Nat) (a0_21 : Nat) (a0_22 : Nat) (a0_23 : Nat) (a0_24 : Nat) (a0_25 : Nat) (a0_26 : Nat) (a0_27 : Nat) (a0_28 : Nat) (a0_29 : Nat) (a0_30 : Nat) (a0_31 : Nat) (a0_32 : Nat) (a0_33 : Nat) (a0_34 : Nat) (a0_35 : Nat) (a0_36 : Int64) (a0_37 : Int32) (a0_38 : Nat) (a0_39 : Nat) (a0_40 : Int32) (a0_41 : Nat) (a0_42 : Nat) (a0_43 : Nat) (a0_20_c : ClassId) (a0_20_f : Nat → Int32) (a0_21_c : ClassId) (a0_21_f : Nat → Int32) (a0_23_c : ClassId) (a0_23_f : Nat → Int32) (a0_26_c : ClassId) (a0_26_f : Nat → Int32) (a0_29_c : ClassId) (a0_29_f : Nat → Int32) (a0_30_c : ClassId) (a0_30_f : Nat → Int32) (a0_31_c : ClassId) (a0_31_f : Nat → Int32) (a0_32_c : ClassId) (a0_32_f : Nat → Int32) (a0_33_c : ClassId) (a0_33_f : Nat → Int32) (a0_34_c : ClassId) (a0_34_f : Nat → Int32) (a0_35_c : ClassId) (a0_35_f : Nat → Int32) (a0_38_c : ClassId) (a0_38_f : Nat → Int32) (a0_43_c : ClassId) (a0_43_f : Nat → Int32) (h_a0_5 : 0 ≤ a0_5.toInt ∧ a0_5.toInt ≤ 1000) (h_a0_6 : 0 ≤ a0_6.toInt ∧ a0_6.toInt ≤ 1000) (h_a0_7 : 0 ≤ a0_7.toInt ∧ a0_7.toInt ≤ 1000) (h_a0_8 : 0 ≤ a0_8.toInt ∧ a0_8.toInt ≤ 1000) (h_a0_17 : 0 ≤ a0_17.toInt ∧ a0_17.toInt ≤ 1) (h_a0_37 : (-1) ≤ a0_37.toInt ∧ a0_37.toInt ≤ 23) (h_a0_40 : 0 ≤ a0_40.toInt ∧ a0_40.toInt ≤ 12) (h_a0_20_f : vr 0 24 a0_20_f) (h_a0_21_f : vr 0 12 a0_21_f) (hms : RowOk (a0_20_f 0).toInt a0_38_f 0) (hmw : WOk a0_32_f a0_33_f 0 (a0_21_f 0).toInt) : Met l yX9_sooner (.code yX9_sooner cX9_sooner 4 (some .int) :: TBL) ({ frames := 8, cells := 0, slots := 0, locals := 186 }) (va_Pc [.ref a0, .int a1, .int a2, .int a3] (fun U => U.heap.size = sz ∧ va_P (dC, dI) vwCl [(a0, .inr (8, [.int a0_0, .int a0_1, .int a0_2, .int a0_3, .ref a0_4, .int a0_5, .int a0_6, .int a0_7, .int a0_8, .int a0_9, .int a0_10, .long a0_11, .int a0_12, .int a0_13, .int a0_14, .int a0_15, .int a0_16, .int a0_17, .ref a0_18, .ref a0_19, .ref a0_20, .ref a0_21, .ref a0_22, .ref a0_23, .ref a0_24, .ref a0_25, .ref a0_26, .ref a0_27, .ref a0_28, .ref a0_29, .ref a0_30, .ref a0_31, .ref a0_32, .ref a0_33, .ref a0_34, .ref a0_35, .long a0_36, .int a0_37, .ref a0_38, .ref a0_39, .int a0_40, .ref a0_41, .ref a0_42, .ref a0_43])), (a0_20, .inl (a0_20_c, 2, .inl a0_20_f)), (a0_21, .inl (a0_21_c, 2, .inl a0_21_f)), (a0_23, .inl (a0_23_c, 16, .inl a0_23_f)), (a0_26, .inl (a0_26_c, 8, .inl a0_26_f)), (a0_29, .inl (a0_29_c, 48, .inl a0_29_f)), (a0_30, .inl (a0_30_c, 48, .inl a0_30_f)), (a0_31, .inl (a0_31_c, 48, .inl a0_31_f)), (a0_32, .inl (a0_32_c, 24, .inl a0_32_f)), (a0_33, .inl (a0_33_c, 24, .inl a0_33_f)), (a0_34, .inl (a0_34_c, 72, .inl a0_34_f)), (a0_35, .inl (a0_35_c, 24, .inl a0_35_f)), (a0_38, .inl (a0_38_c, 176, .inl a0_38_f)), (a0_43, .inl (a0_43_c, 288, .inl a0_43_f))] U.heap ∧ va_K (dC, dI) vwCl [(a0_20_c, .int), (a0_21_c, .int), (a0_23_c, .int), (a0_26_c, .int), (a0_29_c, .int), (a0_30_c, .int), (a0_31_c, .int), (a0_32_c, .int), (a0_33_c, .int), (a0_34_c, .int), (a0_35_c, .boolean), (a0_38_c, .int), (a0_43_c, .int)] U ∧ va_D (fun _ => True) [(a0, .inr (8, [.int a0_0, .int a0_1, .int a0_2, .int a0_3, .ref a0_4, .int a0_5, .int a0_6, .int a0_7, .int a0_8, .int a0_9, .int a0_10, .long a0_11, .int a0_12, .int a0_13, .int a0_14, .int a0_15, .int a0_16, .int a0_17, .ref a0_18, .ref a0_19, .ref a0_20, .ref a0_21, .ref a0_22, .ref a0_23, .ref a0_24, .ref a0_25, .ref a0_26, .ref a0_27, .ref a0_28, .ref a0_29, .ref a0_30, .ref a0_31, .ref a0_32, .ref a0_33, .ref a0_34, .ref a0_35, .long a0_36, .int a0_37, .ref a0_38, .ref a0_39, .int a0_40, .ref a0_41, .ref a0_42, .ref a0_43])), (a0_20, .inl (a0_20_c, 2, .inl a0_20_f)), (a0_21, .inl (a0_21_c, 2, .inl a0_21_f)), (a0_23, .inl (a0_23_c, 16, .inl a0_23_f)), (a0_26, .inl (a0_26_c, 8, .inl a0_26_f)), (a0_29, .inl (a0_29_c, 48, .inl a0_29_f)), (a0_30, .inl (a0_30_c, 48, .inl a0_30_f)), (a0_31, .inl (a0_31_c, 48, .inl a0_31_f)), (a0_32, .inl (a0_32_c, 24, .inl a0_32_f)), (a0_33, .inl (a0_33_c, 24, .inl a0_33_f)), (a0_34, .inl (a0_34_c, 72, .inl a0_34_f)), (a0_35, .inl (a0_35_c, 24, .inl a0_35_f)), (a0_38, .inl (a0_38_c, 176, .inl a0_38_f)), (a0_43, .inl (a0_43_c, 288, .inl a0_43_f))] ∧ Ev g (va_A [(a0, .inr (8, [.int a0_0, .int a0_1, .int a0_2, .int a0_3, .ref a0_4, .int a0_5, .int a0_6, .int a0_7, .int a0_8, .int a0_9, .int a0_10, .long a0_11, .int a0_12, .int a0_13, .int a0_14, .int a0_15, .int a0_16, .int a0_17, .ref a0_18, .ref a0_19, .ref a0_20, .ref a0_21, .ref a0_22, .ref a0_23, .ref a0_24, .ref a0_25, .ref a0_26, .ref a0_27, .ref a0_28, .ref a0_29, .ref a0_30, .ref a0_31, .ref a0_32, .ref a0_33, .ref a0_34, .ref a0_35, .long a0_36, .int a0_37, .ref a0_38, .ref a0_39, .int a0_40, .ref a0_41, .ref a0_42, .ref a0_43])), (a0_20, .inl (a0_20_c, 2, .inl a0_20_f)), (a0_21, .inl (a0_21_c, 2, .inl a0_21_f)), (a0_23, .inl (a0_23_c, 16, .inl a0_23_f)), (a0_26, .inl (a0_26_c, 8, .inl a0_26_f)), (a0_29, .inl (a0_29_c, 48, .inl a0_29_f)), (a0_30, .inl (a0_30_c, 48, .inl a0_30_f)), (a0_31, .inl (a0_31_c, 48, .inl a0_31_f)), (a0_32, .inl (a0_32_c, 24, .inl a0_32_f)), (a0_33, .inl (a0_33_c, 24, .inl a0_33_f)), (a0_34, .inl (a0_34_c, 72, .inl a0_34_f)), (a0_35, .inl (a0_35_c, 24, .inl a0_35_f)), (a0_38, .inl (a0_38_c, 176, .inl a0_38_f)), (a0_43, .inl (a0_43_c, 288, .inl a0_43_f))] sz) U)) (va_Qi (fun (r : Int32) (u : Int32) => u = r) (fun (u : Int32) (t : State) => ∃ (za0_0 : Int32) (za0_1 : Int32) (za0_2 : Int32) (za0_3 : Int32) (za0_43_f : Nat → Int32), va_P (dC, dI) vwCl [(a0, .inr (8, [.int za0_0, .int za0_1, .int za0_2, .int za0_3, .ref a0_4, .int a0_5, .int a0_6, .int a0_7, .int a0_8, .int a0_9, .int a0_10, .long a0_11, .int a0_12, .int a0_13, .int a0_14, .int a0_15, .int a0_16, .int a0_17, .ref a0_18, .ref a0_19, .ref a0_20, .ref a0_21, .ref a0_22, .ref a0_23, .ref a0_24, .ref a0_25, .ref a0_26, .ref a0_27, .ref a0_28, .ref a0_29, .ref a0_30, .ref a0_31, .ref a0_32, .ref a0_33, .ref a0_34, .ref a0_35, .long a0_36, .int a0_37, .ref a0_38, .ref a0_39, .int a0_40, .ref a0_41, .ref a0_42, .ref a0_43])), (a0_20, .inl (a0_20_c, 2, .inl a0_20_f)), (a0_21, .inl (a0_21_c, 2, .inl a0_21_f)), (a0_23, .inl (a0_23_c, 16, .inl a0_23_f)), (a0_26, .inl (a0_26_c, 8, .inl a0_26_f)), (a0_29, .inl (a0_29_c, 48, .inl a0_29_f)), (a0_30, .inl (a0_30_c, 48, .inl a0_30_f)), (a0_31, .inl (a0_31_c, 48, .inl a0_31_f)), (a0_32, .inl (a0_32_c, 24, .inl a0_32_f)), (a0_33, .inl (a0_33_c, 24, .inl a0_33_f)), (a0_34, .inl (a0_34_c, 72, .inl a0_34_f)), (a0_35, .inl (a0_35_c, 24, .inl a0_35_f)), (a0_38, .inl (a0_38_c, 176, .inl a0_38_f)), (a0_43, .inl (a0_43_c, 288, .inl za0_43_f))] t.heap ∧ va_K (dC, dI) vwCl [] t ∧ va_D (va_A [(a0, .inr (8, [.int a0_0, .int a0_1, .int a0_2, .int a0_3, .ref a0_4, .int a0_5, .int a0_6, .int a0_7, .int a0_8, .int a0_9, .int a0_10, .long a0_11, .int a0_12, .int a0_13, .int a0_14, .int a0_15, .int a0_16, .int a0_17, .ref a0_18, .ref a0_19, .ref a0_20, .ref a0_21, .ref a0_22, .ref a0_23, .ref a0_24, .ref a0_25, .ref a0_26, .ref a0_27, .ref a0_28, .ref a0_29, .ref a0_30, .ref a0_31, .ref a0_32, .ref a0_33, .ref a0_34, .ref a0_35, .long a0_36, .int a0_37, .ref a0_38, .ref a0_39, .int a0_40, .ref a0_41, .ref a0_42, .ref a0_43])), (a0_20, .inl (a0_20_c, 2, .inl a0_20_f)), (a0_21, .inl (a0_21_c, 2, .inl a0_21_f)), (a0_23, .inl (a0_23_c, 16, .inl a0_23_f)), (a0_26, .inl (a0_26_c, 8, .inl a0_26_f)), (a0_29, .inl (a0_29_c, 48, .inl a0_29_f)), (a0_30, .inl (a0_30_c, 48, .inl a0_30_f)), (a0_31, .inl (a0_31_c, 48, .inl a0_31_f)), (a0_32, .inl (a0_32_c, 24, .inl a0_32_f)), (a0_33, .inl (a0_33_c, 24, .inl a0_33_f)), (a0_34, .inl (a0_34_c, 72, .inl a0_34_f)), (a0_35, .inl (a0_35_c, 24, .inl a0_35_f)), (a0_38, .inl (a0_38_c, 176, .inl a0_38_f)), (a0_43, .inl (a0_43_c, 288, .inl a0_43_f))] sz) [(a0, .inr (8, [.int za0_0, .int za0_1, .int za0_2, .int za0_3, .ref a0_4, .int a0_5, .int a0_6, .int a0_7, .int a0_8, .int a0_9, .int a0_10, .long a0_11, .int a0_12, .int a0_13, .int a0_14, .int a0_15, .int a0_16, .int a0_17, .ref a0_18, .ref a0_19, .ref a0_20, .ref a0_21, .ref a0_22, .ref a0_23, .ref a0_24, .ref a0_25, .ref a0_26, .ref a0_27, .ref a0_28, .ref a0_29, .ref a0_30, .ref a0_31, .ref a0_32, .ref a0_33, .ref a0_34, .ref a0_35, .long a0_36, .int a0_37, .ref a0_38, .ref a0_39, .int a0_40, .ref a0_41, .ref a0_42, .ref a0_43])), (a0_20, .inl (a0_20_c, 2, .inl a0_20_f)), (a0_21, .inl (a0_21_c, 2, .inl a0_21_f)), (a0_23, .inl (a0_23_c, 16, .inl a0_23_f)), (a0_26, .inl (a0_26_c, 8, .inl a0_26_f)), (a0_29, .inl (a0_29_c, 48, .inl a0_29_f)), (a0_30, .inl (a0_30_c, 48, .inl a0_30_f)), (a0_31, .inl (a0_31_c, 48, .inl a0_31_f)), (a0_32, .inl (a0_32_c, 24, .inl a0_32_f)), (a0_33, .inl (a0_33_c, 24, .inl a0_33_f)), (a0_34, .inl (a0_34_c, 72, .inl a0_34_f)), (a0_35, .inl (a0_35_c, 24, .inl a0_35_f)), (a0_38, .inl (a0_38_c, 176, .inl a0_38_f)), (a0_43, .inl (a0_43_c, 288, .inl za0_43_f))]) (va_A [(a0, .inr (8, [.int a0_0, .int a0_1, .int a0_2, .int a0_3, .ref a0_4, .int a0_5, .int a0_6, .int a0_7, .int a0_8, .int a0_9, .int a0_10, .long a0_11, .int a0_12, .int a0_13, .int a0_14, .int a0_15, .int a0_16, .int a0_17, .ref a0_18, .ref a0_19, .ref a0_20, .ref a0_21, .ref a0_22, .ref a0_23, .ref a0_24, .ref a0_25, .ref a0_26, .ref a0_27, .ref a0_28, .ref a0_29, .ref a0_30, .ref a0_31, .ref a0_32, .ref a0_33, .ref a0_34, .ref a0_35, .long a0_36, .int a0_37, .ref a0_38, .ref a0_39, .int a0_40, .ref a0_41, .ref a0_42, .ref a0_43])), (a0_20, .inl (a0_20_c, 2, .inl a0_20_f)), (a0_21, .inl (a0_21_c, 2, .inl a0_21_f)), (a0_23, .inl (a0_23_c, 16, .inl a0_23_f)), (a0_26, .inl (a0_26_c, 8, .inl a0_26_f)), (a0_29, .inl (a0_29_c, 48, .inl a0_29_f)), (a0_30, .inl (a0_30_c, 48, .inl a0_30_f)), (a0_31, .inl (a0_31_c, 48, .inl a0_31_f)), (a0_32, .inl (a0_32_c, 24, .inl a0_32_f)), (a0_33, .inl (a0_33_c, 24, .inl a0_33_f)), (a0_34, .inl (a0_34_c, 72, .inl a0_34_f)), (a0_35, .inl (a0_35_c, 24, .inl a0_35_f)), (a0_38, .inl (a0_38_c, 176, .inl a0_38_f)), (a0_43, .inl (a0_43_c, 288, .inl a0_43_f))] sz)) 0 0 (va_A [(a0, .inr (8, [.int a0_0, .int a0_1, .int a0_2, .int a0_3, .ref a0_4, .int a0_5, .int a0_6, .int a0_7, .int a0_8, .int a0_9, .int a0_10, .long a0_11, .int a0_12, .int a0_13, .int a0_14, .int a0_15, .int a0_16, .int a0_17, .ref a0_18, .ref a0_19, .ref a0_20, .ref a0_21, .ref a0_22, .ref a0_23, .ref a0_24, .ref a0_25, .ref a0_26, .ref a0_27, .ref a0_28, .ref a0_29, .ref a0_30, .ref a0_31, .ref a0_32, .ref a0_33, .ref a0_34, .ref a0_35, .long a0_36, .int a0_37, .ref a0_38, .ref a0_39, .int a0_40, .ref a0_41, .ref a0_42, .ref a0_43])), (a0_20, .inl (a0_20_c, 2, .inl a0_20_f)), (a0_21, .inl (a0_21_c, 2, .inl a0_21_f)), (a0_23, .inl (a0_23_c, 16, .inl a0_23_f)), (a0_26, .inl (a0_26_c, 8, .inl a0_26_f)), (a0_29, .inl (a0_29_c, 48, .inl a0_29_f)), (a0_30, .inl (a0_30_c, 48, .inl a0_30_f)), (a0_31, .inl (a0_31_c, 48, .inl a0_31_f)), (a0_32, .inl (a0_32_c, 24, .inl a0_32_f)), (a0_33, .inl (a0_33_c, 24, .inl a0_33_f)), (a0_34, .inl (a0_34_c, 72, .inl a0_34_f)), (a0_35, .inl (a0_35_c, 24, .inl a0_35_f)), (a0_38, .inl (a0_38_c, 176, .inl a0_38_f)), (a0_43, .inl (a0_43_c, 288, .inl a0_43_f))] sz) := by
  refine Met.ofW (cc := cX9_sooner) (maxL := 4) (ret := (some .int)) (by decide) rfl ?_
  intro p e s m args below meth c s₁ B hml hv
  obtain ⟨rfl, hsz, hP, hK, hD0, hE⟩ := hv
  have hx := B.exec
  have hb := B.bytes
  have hr := B.returns
  have hts0 := atoms_spec (ws := (.code yX9_sooner cX9_sooner 4 (some .int) :: TBL)) B.pre
  have hts := fun (w : Cond) (h : w ∈ TBL) => hts0 w (List.mem_cons_of_mem _ h)
  have hown : s.vm.findClass RX9 = some m.cls := findClass_of_methodNamed B.named
  have hlocks := B.notSynchronized
  have hN := hE.1
  subst hsz
  have hD := hD0.self (sz := s.heap.size)
  generalize hAe : va_A [(a0, .inr (8, [.int a0_0, .int a0_1, .int a0_2, .int a0_3, .ref a0_4, .int a0_5, .int a0_6, .int a0_7, .int a0_8, .int a0_9, .int a0_10, .long a0_11, .int a0_12, .int a0_13, .int a0_14, .int a0_15, .int a0_16, .int a0_17, .ref a0_18, .ref a0_19, .ref a0_20, .ref a0_21, .ref a0_22, .ref a0_23, .ref a0_24, .ref a0_25, .ref a0_26, .ref a0_27, .ref a0_28, .ref a0_29, .ref a0_30, .ref a0_31, .ref a0_32, .ref a0_33, .ref a0_34, .ref a0_35, .long a0_36, .int a0_37, .ref a0_38, .ref a0_39, .int a0_40, .ref a0_41, .ref a0_42, .ref a0_43])), (a0_20, .inl (a0_20_c, 2, .inl a0_20_f)), (a0_21, .inl (a0_21_c, 2, .inl a0_21_f)), (a0_23, .inl (a0_23_c, 16, .inl a0_23_f)), (a0_26, .inl (a0_26_c, 8, .inl a0_26_f)), (a0_29, .inl (a0_29_c, 48, .inl a0_29_f)), (a0_30, .inl (a0_30_c, 48, .inl a0_30_f)), (a0_31, .inl (a0_31_c, 48, .inl a0_31_f)), (a0_32, .inl (a0_32_c, 24, .inl a0_32_f)), (a0_33, .inl (a0_33_c, 24, .inl a0_33_f)), (a0_34, .inl (a0_34_c, 72, .inl a0_34_f)), (a0_35, .inl (a0_35_c, 24, .inl a0_35_f)), (a0_38, .inl (a0_38_c, 176, .inl a0_38_f)), (a0_43, .inl (a0_43_c, 288, .inl a0_43_f))] s.heap.size = A at hD hE ⊢
  have hA : ∀ q : Nat, s.heap.size ≤ q → A q := fun q h => by rw [← hAe]; exact Or.inr h
  have hS : va_S A s.heap s.heap [] := va_S.rf
  replace hP : va_P (dC, dI) vwCl [(a0, .inr (8, [.int a0_0, .int a0_1, .int a0_2, .int a0_3, .ref a0_4, .int a0_5, .int a0_6, .int a0_7, .int a0_8, .int a0_9, .int a0_10, .long a0_11, .int a0_12, .int a0_13, .int a0_14, .int a0_15, .int a0_16, .int a0_17, .ref a0_18, .ref a0_19, .ref a0_20, .ref a0_21, .ref a0_22, .ref a0_23, .ref a0_24, .ref a0_25, .ref a0_26, .ref a0_27, .ref a0_28, .ref a0_29, .ref a0_30, .ref a0_31, .ref a0_32, .ref a0_33, .ref a0_34, .ref a0_35, .long a0_36, .int a0_37, .ref a0_38, .ref a0_39, .int a0_40, .ref a0_41, .ref a0_42, .ref a0_43])), (a0_20, .inl (a0_20_c, 2, .inl a0_20_f)), (a0_21, .inl (a0_21_c, 2, .inl a0_21_f)), (a0_23, .inl (a0_23_c, 16, .inl a0_23_f)), (a0_26, .inl (a0_26_c, 8, .inl a0_26_f)), (a0_29, .inl (a0_29_c, 48, .inl a0_29_f)), (a0_30, .inl (a0_30_c, 48, .inl a0_30_f)), (a0_31, .inl (a0_31_c, 48, .inl a0_31_f)), (a0_32, .inl (a0_32_c, 24, .inl a0_32_f)), (a0_33, .inl (a0_33_c, 24, .inl a0_33_f)), (a0_34, .inl (a0_34_c, 72, .inl a0_34_f)), (a0_35, .inl (a0_35_c, 24, .inl a0_35_f)), (a0_38, .inl (a0_38_c, 176, .inl a0_38_f)), (a0_43, .inl (a0_43_c, 288, .inl a0_43_f))] s.heap := hP
  have hl := lv_entry ([.ref a0, .int a1, .int a2, .int a3]) (n := 4) (Nat.le_of_ble_eq_true rfl)
  rw [lg_entry_eq]
  generalize (lg_sl ([.ref a0, .int a1, .int a2, .int a3]) ++ List.replicate (4 - (lg_sl ([.ref a0, .int a1, .int a2, .int a3])).length) Slot.unset).toArray = ls at hl ⊢
  have hl : lv_has ls 4 [(0, .ref a0), (1, .int a1), (2, .int a2), (3, .int a3)] := hl
  have b_a1 := i32b a1
  have b_a2 := i32b a2
  have b_a3 := i32b a3
  have b_a0_0 := i32b a0_0
  have b_a0_1 := i32b a0_1
  have b_a0_2 := i32b a0_2
  have b_a0_3 := i32b a0_3
  have b_a0_9 := i32b a0_9
  have b_a0_10 := i32b a0_10
  have b_a0_12 := i32b a0_12
  have b_a0_13 := i32b a0_13
  have b_a0_14 := i32b a0_14
  have b_a0_15 := i32b a0_15
  have b_a0_16 := i32b a0_16
  have hp20 := vr_at h_a0_20_f (k := 0) rfl
  have hp21 := vr_at h_a0_21_f (k := 0) rfl
  refine lv_aload_n hx hb dX9_sooner_0 rfl (lv_at hl 0 rfl) ?_
  refine lv_aload_n hx hb dX9_sooner_1 rfl (lv_at hl 0 rfl) ?_
  refine lv_iload_n hx hb dX9_sooner_2 rfl (lv_at hl 1 rfl) ?_
  have hPc := (rgP14_f407ee8 hP)
  have hKc := (rgK13_b433afa hK)
  refine vp_callSi ((va_runV (As := [.int a1]) (rest := [.ref a0]) ⟨hx, hb, hml, hown, hts⟩ (k_X9_isClosure l dC dI g (a0) (a1) (a0_0) (a0_1) (a0_2) (a0_3) (a0_4) (a0_5) (a0_6) (a0_7) (a0_8) (a0_9) (a0_10) (a0_11) (a0_12) (a0_13) (a0_14) (a0_15) (a0_16) (a0_17) (a0_18) (a0_19) (a0_20) (a0_21) (a0_22) (a0_23) (a0_24) (a0_25) (a0_26) (a0_27) (a0_28) (a0_29) (a0_30) (a0_31) (a0_32) (a0_33) (a0_34) (a0_35) (a0_36) (a0_37) (a0_38) (a0_39) (a0_40) (a0_41) (a0_42) (a0_43) (a0_21_c) (a0_21_f) (by omega) (by omega) (by omega) (by omega) (by omega) (by omega) (by omega) h_a0_21_f) (cwV 1 hts (gwV qw_618 qw_619 qw_620 qw_386 qw_617) rfl rfl rfl (by decide +kernel) ⟨Nat.le_of_ble_eq_true rfl, Nat.le_of_ble_eq_true rfl⟩) ⟨fun a U g9 mk q => ⟨q.1, q.2.1, va_K.moved (u := U) (U := U.calling g9 mk a) (Vm.Alike.refl U.vm) q.2.2.1, Ev.bl q.2.2.2⟩, va_recv hK hP (ci := 8) (q0 := 0) rfl rgL14_6e084ec, fun U hU hW => ⟨rfl, atB hU hPc, va_K.moved hW.alike hKc, hE.go hS (fun _ h => h.elim) hU hW⟩⟩ rfl rfl hl.1 rfl (lv_room (Nat.le_of_ble_eq_true rfl)) dX9_sooner_3 ⟨Nat.le_of_ble_eq_true rfl, Nat.le_of_ble_eq_true rfl⟩)).run (fun r1 h_r1 => ?_)
  have h_r1 : (r1 = 0 ∨ r1 = 1) ∧ ((r1.toInt = 1 ∧ 0 ≤ a1.toInt ∧ a1.toInt < (a0_21_f 0).toInt) ∨ r1.toInt = 0) := h_r1
  have b_r1 := z01 (show r1 = 0 ∨ r1 = 1 from h_r1.1)
  refine lv_if_eq (tgt := 28) hx hb dX9_sooner_6 (by decide) (fun c6_2 => ?_) (fun c6_2 => ?_)
  · have c6_2 : r1.toInt = 0 := (cv_eq rfl (by decide)).mp c6_2
    refine lv_iconst (v := 1) hx hb dX9_sooner_28 (by decide) ?_
    refine va_put (D := (dC, dI)) (ci := 8) (v := .int 1) (ty := .int) (C := RX9) (T := TX9) (N := 44) hx hb hts inlX9 tyX9 tyX9_ok nmX9 hown hK hP hD hS 0 rgL14_6e084ec rfl 0 (by decide) (hts (.fieldLink RX9 85 "ClosedUntilModel" "thrown" "I") qw_408) (fun _ h9 => h9) rfl (by decide +kernel) rfl rfl (Nat.le_of_ble_eq_true rfl) dX9_sooner_29 (fun H locs hP9 hD9 hS9 => ?_)
    clear hP hD hS
    obtain ⟨hP, hD⟩ := rgS14_947ddd8 (e := (a0, .inr (8, [.int 1, .int a0_1, .int a0_2, .int a0_3, .ref a0_4, .int a0_5, .int a0_6, .int a0_7, .int a0_8, .int a0_9, .int a0_10, .long a0_11, .int a0_12, .int a0_13, .int a0_14, .int a0_15, .int a0_16, .int a0_17, .ref a0_18, .ref a0_19, .ref a0_20, .ref a0_21, .ref a0_22, .ref a0_23, .ref a0_24, .ref a0_25, .ref a0_26, .ref a0_27, .ref a0_28, .ref a0_29, .ref a0_30, .ref a0_31, .ref a0_32, .ref a0_33, .ref a0_34, .ref a0_35, .long a0_36, .int a0_37, .ref a0_38, .ref a0_39, .int a0_40, .ref a0_41, .ref a0_42, .ref a0_43]))) hP9 hD9 rfl
    have hS := hS9; clear hP9 hD9 hS9
    refine lv_aload_n hx hb dX9_sooner_32 rfl (lv_at hl 0 rfl) ?_
    have qc1 : (1 : Int32).toInt = 1 := by decide
    have hPc := hP
    have hKc := hK
    have hDc := hD
    have hFc := freeW hDc hS hA
    refine va_callv (va_runV (As := []) (rest := []) ⟨hx, hb, hml, hown, hts⟩ (k_X9_laysEnds l dC dI g H.size (a0) (1) (a0_1) (a0_2) (a0_3) (a0_4) (a0_5) (a0_6) (a0_7) (a0_8) (a0_9) (a0_10) (a0_11) (a0_12) (a0_13) (a0_14) (a0_15) (a0_16) (a0_17) (a0_18) (a0_19) (a0_20) (a0_21) (a0_22) (a0_23) (a0_24) (a0_25) (a0_26) (a0_27) (a0_28) (a0_29) (a0_30) (a0_31) (a0_32) (a0_33) (a0_34) (a0_35) (a0_36) (a0_37) (a0_38) (a0_39) (a0_40) (a0_41) (a0_42) (a0_43) (a0_20_c) (a0_20_f) (a0_21_c) (a0_21_f) (a0_23_c) (a0_23_f) (a0_26_c) (a0_26_f) (a0_29_c) (a0_29_f) (a0_30_c) (a0_30_f) (a0_31_c) (a0_31_f) (a0_32_c) (a0_32_f) (a0_33_c) (a0_33_f) (a0_34_c) (a0_34_f) (a0_35_c) (a0_35_f) (a0_38_c) (a0_38_f) (a0_43_c) (a0_43_f) (by omega) (by omega) (by omega) (by omega) (by omega) (by omega) (by omega) h_a0_20_f h_a0_21_f (by assumption) (by assumption)) (cwV 0 hts (gwV qw_630 qw_631 qw_632 qw_386 qw_629) rfl rfl rfl (by decide +kernel) ⟨Nat.le_of_ble_eq_true rfl, Nat.le_of_ble_eq_true rfl⟩) ⟨fun a U g9 mk q => ⟨q.1, q.2.1, q.2.2.1, va_K.moved (u := U) (U := U.calling g9 mk a) (Vm.Alike.refl U.vm) q.2.2.2.1, q.2.2.2.2.1, Ev.bl q.2.2.2.2.2⟩, va_recv hK hP (ci := 8) (q0 := 0) rfl rgL14_6e084ec, fun U hU hW => ⟨rfl, by rw [hU], atB hU hPc, va_K.moved hW.alike hKc, hDc.weaken (fun _ _ _ _ => trivial), hE.go hS hFc hU hW⟩⟩ rfl rfl hl.1 rfl (lv_room (Nat.le_of_ble_eq_true rfl)) dX9_sooner_33 ⟨Nat.le_of_ble_eq_true rfl, Nat.le_of_ble_eq_true rfl⟩) hS (fun q _ h => hFc q h) hFc (fun u3 t H1 locs ht hvm h_u3 hB hz1 hk1 hS => ?_)
    obtain ⟨za0_1_5, za0_2_6, za0_3_7, za0_43_f_8, hP1, hK1, hD1⟩ := hB
    have hK1 := va_K.moved hvm.symm hK1
    have hJ9 := rgJ14_93bd4e1 hP hD hk1 hFc (atH ht hP1) hD1
    clear hP hD hPc hKc hDc hFc hP1 hD1 hk1 hz1
    obtain ⟨hP, hD⟩ := hJ9
    clear hK1
    generalize H1 = H at hP hS ⊢
    refine W.widen (k := 0) (n := 0) (Nat.le_of_ble_eq_true rfl) (Nat.le_of_ble_eq_true rfl) ?_
    refine lv_aload_n hx hb dX9_sooner_36 rfl (lv_at hl 0 rfl) ?_
    refine va_get (D := (dC, dI)) (ci := 8) (v := .int 1) (C := RX9) (T := TX9) (N := 44) hx hb hts inlX9 hown hK hP 0 rgL14_6e084ec rfl 0 (by decide) (hts (.fieldLink RX9 85 "ClosedUntilModel" "thrown" "I") qw_408) (fun _ h9 => h9) rfl dX9_sooner_37 ?_
    refine lv_iconst (v := 1) hx hb dX9_sooner_40 (by decide) ?_
    refine lv_icmp_ne (tgt := 48) hx hb dX9_sooner_41 (by decide) (fun c41_9 => by exfalso; exact absurd c41_9 (by decide)) (fun c41_9 => ?_)
    refine lv_iconst (v := 0) hx hb dX9_sooner_44 (by decide) ?_
    refine lv_goto (tgt := 65) hx hb dX9_sooner_45 (by decide) ?_
    have qc0 : (0 : Int32).toInt = 0 := by decide
    have qc1 : (1 : Int32).toInt = 1 := by decide
    refine W.widen (k := 0) (n := 0) (Nat.le_of_ble_eq_true rfl) (Nat.le_of_ble_eq_true rfl) ?_
    have hP9 := hP
    have hD9 := hD
    have hK9 := (rgK13_332f5b0 hK)
    exact W.iret (v := 0) hx hb hr (fun t ht hW => ⟨⟨0, 0, rfl, rfl, 1, za0_1_5, za0_2_6, za0_3_7, za0_43_f_8, atB ht hP9, va_K.moved hW.alike hK9, hD9⟩, hS.F ht⟩) hS.2.2 dX9_sooner_65
  · have c6_2 : ¬ (r1.toInt = 0) := mt (cv_eq rfl (by decide)).mpr c6_2
    refine lv_aload_n hx hb dX9_sooner_9 rfl (lv_at hl 0 rfl) ?_
    refine lv_iload_n hx hb dX9_sooner_10 rfl (lv_at hl 2 rfl) ?_
    have hPc := (rgP14_dbed6f8 hP)
    have hKc := (rgK13_c419d91 hK)
    refine vp_callSi ((va_runV (As := [.int a2]) (rest := [.ref a0]) ⟨hx, hb, hml, hown, hts⟩ (k_X9_isPiece l dC dI g (a0) (a2) (a0_0) (a0_1) (a0_2) (a0_3) (a0_4) (a0_5) (a0_6) (a0_7) (a0_8) (a0_9) (a0_10) (a0_11) (a0_12) (a0_13) (a0_14) (a0_15) (a0_16) (a0_17) (a0_18) (a0_19) (a0_20) (a0_21) (a0_22) (a0_23) (a0_24) (a0_25) (a0_26) (a0_27) (a0_28) (a0_29) (a0_30) (a0_31) (a0_32) (a0_33) (a0_34) (a0_35) (a0_36) (a0_37) (a0_38) (a0_39) (a0_40) (a0_41) (a0_42) (a0_43) (a0_20_c) (a0_20_f) (by omega) (by omega) (by omega) (by omega) (by omega) (by omega) (by omega) h_a0_20_f) (cwV 1 hts (gwV qw_602 qw_603 qw_604 qw_386 qw_601) rfl rfl rfl (by decide +kernel) ⟨Nat.le_of_ble_eq_true rfl, Nat.le_of_ble_eq_true rfl⟩) ⟨fun a U g9 mk q => ⟨q.1, q.2.1, va_K.moved (u := U) (U := U.calling g9 mk a) (Vm.Alike.refl U.vm) q.2.2.1, Ev.bl q.2.2.2⟩, va_recv hK hP (ci := 8) (q0 := 0) rfl rgL14_6e084ec, fun U hU hW => ⟨rfl, atB hU hPc, va_K.moved hW.alike hKc, hE.go hS (fun _ h => h.elim) hU hW⟩⟩ rfl rfl hl.1 rfl (lv_room (Nat.le_of_ble_eq_true rfl)) dX9_sooner_11 ⟨Nat.le_of_ble_eq_true rfl, Nat.le_of_ble_eq_true rfl⟩)).run (fun r10 h_r10 => ?_)
    have h_r10 : (r10 = 0 ∨ r10 = 1) ∧ ((r10.toInt = 1 ∧ 0 ≤ a2.toInt ∧ a2.toInt < (a0_20_f 0).toInt) ∨ r10.toInt = 0) := h_r10
    have b_r10 := z01 (show r10 = 0 ∨ r10 = 1 from h_r10.1)
    refine lv_if_eq (tgt := 28) hx hb dX9_sooner_14 (by decide) (fun c14_11 => ?_) (fun c14_11 => ?_)
    · have c14_11 : r10.toInt = 0 := (cv_eq rfl (by decide)).mp c14_11
      refine lv_iconst (v := 1) hx hb dX9_sooner_28 (by decide) ?_
      refine va_put (D := (dC, dI)) (ci := 8) (v := .int 1) (ty := .int) (C := RX9) (T := TX9) (N := 44) hx hb hts inlX9 tyX9 tyX9_ok nmX9 hown hK hP hD hS 0 rgL14_6e084ec rfl 0 (by decide) (hts (.fieldLink RX9 85 "ClosedUntilModel" "thrown" "I") qw_408) (fun _ h9 => h9) rfl (by decide +kernel) rfl rfl (Nat.le_of_ble_eq_true rfl) dX9_sooner_29 (fun H locs hP9 hD9 hS9 => ?_)
      clear hP hD hS
      obtain ⟨hP, hD⟩ := rgS14_947ddd8 (e := (a0, .inr (8, [.int 1, .int a0_1, .int a0_2, .int a0_3, .ref a0_4, .int a0_5, .int a0_6, .int a0_7, .int a0_8, .int a0_9, .int a0_10, .long a0_11, .int a0_12, .int a0_13, .int a0_14, .int a0_15, .int a0_16, .int a0_17, .ref a0_18, .ref a0_19, .ref a0_20, .ref a0_21, .ref a0_22, .ref a0_23, .ref a0_24, .ref a0_25, .ref a0_26, .ref a0_27, .ref a0_28, .ref a0_29, .ref a0_30, .ref a0_31, .ref a0_32, .ref a0_33, .ref a0_34, .ref a0_35, .long a0_36, .int a0_37, .ref a0_38, .ref a0_39, .int a0_40, .ref a0_41, .ref a0_42, .ref a0_43]))) hP9 hD9 rfl
      have hS := hS9; clear hP9 hD9 hS9
      refine lv_aload_n hx hb dX9_sooner_32 rfl (lv_at hl 0 rfl) ?_
      have qc1 : (1 : Int32).toInt = 1 := by decide
      have hPc := hP
      have hKc := hK
      have hDc := hD
      have hFc := freeW hDc hS hA
      refine va_callv (va_runV (As := []) (rest := []) ⟨hx, hb, hml, hown, hts⟩ (k_X9_laysEnds l dC dI g H.size (a0) (1) (a0_1) (a0_2) (a0_3) (a0_4) (a0_5) (a0_6) (a0_7) (a0_8) (a0_9) (a0_10) (a0_11) (a0_12) (a0_13) (a0_14) (a0_15) (a0_16) (a0_17) (a0_18) (a0_19) (a0_20) (a0_21) (a0_22) (a0_23) (a0_24) (a0_25) (a0_26) (a0_27) (a0_28) (a0_29) (a0_30) (a0_31) (a0_32) (a0_33) (a0_34) (a0_35) (a0_36) (a0_37) (a0_38) (a0_39) (a0_40) (a0_41) (a0_42) (a0_43) (a0_20_c) (a0_20_f) (a0_21_c) (a0_21_f) (a0_23_c) (a0_23_f) (a0_26_c) (a0_26_f) (a0_29_c) (a0_29_f) (a0_30_c) (a0_30_f) (a0_31_c) (a0_31_f) (a0_32_c) (a0_32_f) (a0_33_c) (a0_33_f) (a0_34_c) (a0_34_f) (a0_35_c) (a0_35_f) (a0_38_c) (a0_38_f) (a0_43_c) (a0_43_f) (by omega) (by omega) (by omega) (by omega) (by omega) (by omega) (by omega) h_a0_20_f h_a0_21_f (by assumption) (by assumption)) (cwV 0 hts (gwV qw_630 qw_631 qw_632 qw_386 qw_629) rfl rfl rfl (by decide +kernel) ⟨Nat.le_of_ble_eq_true rfl, Nat.le_of_ble_eq_true rfl⟩) ⟨fun a U g9 mk q => ⟨q.1, q.2.1, q.2.2.1, va_K.moved (u := U) (U := U.calling g9 mk a) (Vm.Alike.refl U.vm) q.2.2.2.1, q.2.2.2.2.1, Ev.bl q.2.2.2.2.2⟩, va_recv hK hP (ci := 8) (q0 := 0) rfl rgL14_6e084ec, fun U hU hW => ⟨rfl, by rw [hU], atB hU hPc, va_K.moved hW.alike hKc, hDc.weaken (fun _ _ _ _ => trivial), hE.go hS hFc hU hW⟩⟩ rfl rfl hl.1 rfl (lv_room (Nat.le_of_ble_eq_true rfl)) dX9_sooner_33 ⟨Nat.le_of_ble_eq_true rfl, Nat.le_of_ble_eq_true rfl⟩) hS (fun q _ h => hFc q h) hFc (fun u12 t H1 locs ht hvm h_u12 hB hz1 hk1 hS => ?_)
      obtain ⟨za0_1_14, za0_2_15, za0_3_16, za0_43_f_17, hP1, hK1, hD1⟩ := hB
      have hK1 := va_K.moved hvm.symm hK1
      have hJ9 := rgJ14_93bd4e1 hP hD hk1 hFc (atH ht hP1) hD1
      clear hP hD hPc hKc hDc hFc hP1 hD1 hk1 hz1
      obtain ⟨hP, hD⟩ := hJ9
      clear hK1
      generalize H1 = H at hP hS ⊢
      refine W.widen (k := 0) (n := 0) (Nat.le_of_ble_eq_true rfl) (Nat.le_of_ble_eq_true rfl) ?_
      refine lv_aload_n hx hb dX9_sooner_36 rfl (lv_at hl 0 rfl) ?_
      refine va_get (D := (dC, dI)) (ci := 8) (v := .int 1) (C := RX9) (T := TX9) (N := 44) hx hb hts inlX9 hown hK hP 0 rgL14_6e084ec rfl 0 (by decide) (hts (.fieldLink RX9 85 "ClosedUntilModel" "thrown" "I") qw_408) (fun _ h9 => h9) rfl dX9_sooner_37 ?_
      refine lv_iconst (v := 1) hx hb dX9_sooner_40 (by decide) ?_
      refine lv_icmp_ne (tgt := 48) hx hb dX9_sooner_41 (by decide) (fun c41_18 => by exfalso; exact absurd c41_18 (by decide)) (fun c41_18 => ?_)
      refine lv_iconst (v := 0) hx hb dX9_sooner_44 (by decide) ?_
      refine lv_goto (tgt := 65) hx hb dX9_sooner_45 (by decide) ?_
      have qc0 : (0 : Int32).toInt = 0 := by decide
      have qc1 : (1 : Int32).toInt = 1 := by decide
      refine W.widen (k := 0) (n := 0) (Nat.le_of_ble_eq_true rfl) (Nat.le_of_ble_eq_true rfl) ?_
      have hP9 := hP
      have hD9 := hD
      have hK9 := (rgK13_332f5b0 hK)
      exact W.iret (v := 0) hx hb hr (fun t ht hW => ⟨⟨0, 0, rfl, rfl, 1, za0_1_14, za0_2_15, za0_3_16, za0_43_f_17, atB ht hP9, va_K.moved hW.alike hK9, hD9⟩, hS.F ht⟩) hS.2.2 dX9_sooner_65
    · have c14_11 : ¬ (r10.toInt = 0) := mt (cv_eq rfl (by decide)).mpr c14_11
      refine lv_iload_n hx hb dX9_sooner_17 rfl (lv_at hl 3 rfl) ?_
      have hPc := (rgP14_13c4e7a hP)
      have hKc := (rgK13_332f5b0 hK)
      refine vp_callSi ((va_runS (As := [.int a3]) (rest := [.ref a0]) ⟨hx, hb, hml, hown, hts⟩ (k_X9_areReaders l dC dI g (a3) ) (va_cwS 1 hts (gwS qw_546 qw_547 qw_386 qw_545) rfl rfl rfl (by decide +kernel) ⟨Nat.le_of_ble_eq_true rfl, Nat.le_of_ble_eq_true rfl⟩) ⟨fun a U g9 mk q => ⟨q.1, q.2.1, va_K.moved (u := U) (U := U.calling g9 mk a) (Vm.Alike.refl U.vm) q.2.2.1, Ev.bl q.2.2.2⟩, fun U hU hW => ⟨rfl, atB hU hPc, va_K.moved hW.alike hKc, hE.go hS (fun _ h => h.elim) hU hW⟩⟩ rfl rfl hl.1 rfl (lv_room (Nat.le_of_ble_eq_true rfl)) dX9_sooner_18 ⟨Nat.le_of_ble_eq_true rfl, Nat.le_of_ble_eq_true rfl⟩)).run (fun r19 h_r19 => ?_)
      have h_r19 : (r19 = 0 ∨ r19 = 1) := h_r19
      have b_r19 := z01 (show r19 = 0 ∨ r19 = 1 from h_r19)
      refine lv_if_eq (tgt := 28) hx hb dX9_sooner_21 (by decide) (fun c21_20 => ?_) (fun c21_20 => ?_)
      · have c21_20 : r19.toInt = 0 := (cv_eq rfl (by decide)).mp c21_20
        refine lv_iconst (v := 1) hx hb dX9_sooner_28 (by decide) ?_
        refine va_put (D := (dC, dI)) (ci := 8) (v := .int 1) (ty := .int) (C := RX9) (T := TX9) (N := 44) hx hb hts inlX9 tyX9 tyX9_ok nmX9 hown hK hP hD hS 0 rgL14_6e084ec rfl 0 (by decide) (hts (.fieldLink RX9 85 "ClosedUntilModel" "thrown" "I") qw_408) (fun _ h9 => h9) rfl (by decide +kernel) rfl rfl (Nat.le_of_ble_eq_true rfl) dX9_sooner_29 (fun H locs hP9 hD9 hS9 => ?_)
        clear hP hD hS
        obtain ⟨hP, hD⟩ := rgS14_947ddd8 (e := (a0, .inr (8, [.int 1, .int a0_1, .int a0_2, .int a0_3, .ref a0_4, .int a0_5, .int a0_6, .int a0_7, .int a0_8, .int a0_9, .int a0_10, .long a0_11, .int a0_12, .int a0_13, .int a0_14, .int a0_15, .int a0_16, .int a0_17, .ref a0_18, .ref a0_19, .ref a0_20, .ref a0_21, .ref a0_22, .ref a0_23, .ref a0_24, .ref a0_25, .ref a0_26, .ref a0_27, .ref a0_28, .ref a0_29, .ref a0_30, .ref a0_31, .ref a0_32, .ref a0_33, .ref a0_34, .ref a0_35, .long a0_36, .int a0_37, .ref a0_38, .ref a0_39, .int a0_40, .ref a0_41, .ref a0_42, .ref a0_43]))) hP9 hD9 rfl
        have hS := hS9; clear hP9 hD9 hS9
        refine lv_aload_n hx hb dX9_sooner_32 rfl (lv_at hl 0 rfl) ?_
        have qc1 : (1 : Int32).toInt = 1 := by decide
        have hPc := hP
        have hKc := hK
        have hDc := hD
        have hFc := freeW hDc hS hA
        refine va_callv (va_runV (As := []) (rest := []) ⟨hx, hb, hml, hown, hts⟩ (k_X9_laysEnds l dC dI g H.size (a0) (1) (a0_1) (a0_2) (a0_3) (a0_4) (a0_5) (a0_6) (a0_7) (a0_8) (a0_9) (a0_10) (a0_11) (a0_12) (a0_13) (a0_14) (a0_15) (a0_16) (a0_17) (a0_18) (a0_19) (a0_20) (a0_21) (a0_22) (a0_23) (a0_24) (a0_25) (a0_26) (a0_27) (a0_28) (a0_29) (a0_30) (a0_31) (a0_32) (a0_33) (a0_34) (a0_35) (a0_36) (a0_37) (a0_38) (a0_39) (a0_40) (a0_41) (a0_42) (a0_43) (a0_20_c) (a0_20_f) (a0_21_c) (a0_21_f) (a0_23_c) (a0_23_f) (a0_26_c) (a0_26_f) (a0_29_c) (a0_29_f) (a0_30_c) (a0_30_f) (a0_31_c) (a0_31_f) (a0_32_c) (a0_32_f) (a0_33_c) (a0_33_f) (a0_34_c) (a0_34_f) (a0_35_c) (a0_35_f) (a0_38_c) (a0_38_f) (a0_43_c) (a0_43_f) (by omega) (by omega) (by omega) (by omega) (by omega) (by omega) (by omega) h_a0_20_f h_a0_21_f (by assumption) (by assumption)) (cwV 0 hts (gwV qw_630 qw_631 qw_632 qw_386 qw_629) rfl rfl rfl (by decide +kernel) ⟨Nat.le_of_ble_eq_true rfl, Nat.le_of_ble_eq_true rfl⟩) ⟨fun a U g9 mk q => ⟨q.1, q.2.1, q.2.2.1, va_K.moved (u := U) (U := U.calling g9 mk a) (Vm.Alike.refl U.vm) q.2.2.2.1, q.2.2.2.2.1, Ev.bl q.2.2.2.2.2⟩, va_recv hK hP (ci := 8) (q0 := 0) rfl rgL14_6e084ec, fun U hU hW => ⟨rfl, by rw [hU], atB hU hPc, va_K.moved hW.alike hKc, hDc.weaken (fun _ _ _ _ => trivial), hE.go hS hFc hU hW⟩⟩ rfl rfl hl.1 rfl (lv_room (Nat.le_of_ble_eq_true rfl)) dX9_sooner_33 ⟨Nat.le_of_ble_eq_true rfl, Nat.le_of_ble_eq_true rfl⟩) hS (fun q _ h => hFc q h) hFc (fun u21 t H1 locs ht hvm h_u21 hB hz1 hk1 hS => ?_)
        obtain ⟨za0_1_23, za0_2_24, za0_3_25, za0_43_f_26, hP1, hK1, hD1⟩ := hB
        have hK1 := va_K.moved hvm.symm hK1
        have hJ9 := rgJ14_93bd4e1 hP hD hk1 hFc (atH ht hP1) hD1
        clear hP hD hPc hKc hDc hFc hP1 hD1 hk1 hz1
        obtain ⟨hP, hD⟩ := hJ9
        clear hK1
        generalize H1 = H at hP hS ⊢
        refine W.widen (k := 0) (n := 0) (Nat.le_of_ble_eq_true rfl) (Nat.le_of_ble_eq_true rfl) ?_
        refine lv_aload_n hx hb dX9_sooner_36 rfl (lv_at hl 0 rfl) ?_
        refine va_get (D := (dC, dI)) (ci := 8) (v := .int 1) (C := RX9) (T := TX9) (N := 44) hx hb hts inlX9 hown hK hP 0 rgL14_6e084ec rfl 0 (by decide) (hts (.fieldLink RX9 85 "ClosedUntilModel" "thrown" "I") qw_408) (fun _ h9 => h9) rfl dX9_sooner_37 ?_
        refine lv_iconst (v := 1) hx hb dX9_sooner_40 (by decide) ?_
        refine lv_icmp_ne (tgt := 48) hx hb dX9_sooner_41 (by decide) (fun c41_27 => by exfalso; exact absurd c41_27 (by decide)) (fun c41_27 => ?_)
        refine lv_iconst (v := 0) hx hb dX9_sooner_44 (by decide) ?_
        refine lv_goto (tgt := 65) hx hb dX9_sooner_45 (by decide) ?_
        have qc0 : (0 : Int32).toInt = 0 := by decide
        have qc1 : (1 : Int32).toInt = 1 := by decide
        refine W.widen (k := 0) (n := 0) (Nat.le_of_ble_eq_true rfl) (Nat.le_of_ble_eq_true rfl) ?_
        have hP9 := hP
        have hD9 := hD
        have hK9 := (rgK13_332f5b0 hK)
        exact W.iret (v := 0) hx hb hr (fun t ht hW => ⟨⟨0, 0, rfl, rfl, 1, za0_1_23, za0_2_24, za0_3_25, za0_43_f_26, atB ht hP9, va_K.moved hW.alike hK9, hD9⟩, hS.F ht⟩) hS.2.2 dX9_sooner_65
      · have c21_20 : ¬ (r19.toInt = 0) := mt (cv_eq rfl (by decide)).mpr c21_20
        refine lv_iconst (v := 0) hx hb dX9_sooner_24 (by decide) ?_
        refine lv_goto (tgt := 29) hx hb dX9_sooner_25 (by decide) ?_
        refine va_put (D := (dC, dI)) (ci := 8) (v := .int 0) (ty := .int) (C := RX9) (T := TX9) (N := 44) hx hb hts inlX9 tyX9 tyX9_ok nmX9 hown hK hP hD hS 0 rgL14_6e084ec rfl 0 (by decide) (hts (.fieldLink RX9 85 "ClosedUntilModel" "thrown" "I") qw_408) (fun _ h9 => h9) rfl (by decide +kernel) rfl rfl (Nat.le_of_ble_eq_true rfl) dX9_sooner_29 (fun H locs hP9 hD9 hS9 => ?_)
        clear hP hD hS
        obtain ⟨hP, hD⟩ := rgS14_947ddd8 (e := (a0, .inr (8, [.int 0, .int a0_1, .int a0_2, .int a0_3, .ref a0_4, .int a0_5, .int a0_6, .int a0_7, .int a0_8, .int a0_9, .int a0_10, .long a0_11, .int a0_12, .int a0_13, .int a0_14, .int a0_15, .int a0_16, .int a0_17, .ref a0_18, .ref a0_19, .ref a0_20, .ref a0_21, .ref a0_22, .ref a0_23, .ref a0_24, .ref a0_25, .ref a0_26, .ref a0_27, .ref a0_28, .ref a0_29, .ref a0_30, .ref a0_31, .ref a0_32, .ref a0_33, .ref a0_34, .ref a0_35, .long a0_36, .int a0_37, .ref a0_38, .ref a0_39, .int a0_40, .ref a0_41, .ref a0_42, .ref a0_43]))) hP9 hD9 rfl
        have hS := hS9; clear hP9 hD9 hS9
        refine lv_aload_n hx hb dX9_sooner_32 rfl (lv_at hl 0 rfl) ?_
        have qc0 : (0 : Int32).toInt = 0 := by decide
        have hPc := hP
        have hKc := hK
        have hDc := hD
        have hFc := freeW hDc hS hA
        refine va_callv (va_runV (As := []) (rest := []) ⟨hx, hb, hml, hown, hts⟩ (k_X9_laysEnds l dC dI g H.size (a0) (0) (a0_1) (a0_2) (a0_3) (a0_4) (a0_5) (a0_6) (a0_7) (a0_8) (a0_9) (a0_10) (a0_11) (a0_12) (a0_13) (a0_14) (a0_15) (a0_16) (a0_17) (a0_18) (a0_19) (a0_20) (a0_21) (a0_22) (a0_23) (a0_24) (a0_25) (a0_26) (a0_27) (a0_28) (a0_29) (a0_30) (a0_31) (a0_32) (a0_33) (a0_34) (a0_35) (a0_36) (a0_37) (a0_38) (a0_39) (a0_40) (a0_41) (a0_42) (a0_43) (a0_20_c) (a0_20_f) (a0_21_c) (a0_21_f) (a0_23_c) (a0_23_f) (a0_26_c) (a0_26_f) (a0_29_c) (a0_29_f) (a0_30_c) (a0_30_f) (a0_31_c) (a0_31_f) (a0_32_c) (a0_32_f) (a0_33_c) (a0_33_f) (a0_34_c) (a0_34_f) (a0_35_c) (a0_35_f) (a0_38_c) (a0_38_f) (a0_43_c) (a0_43_f) (by omega) (by omega) (by omega) (by omega) (by omega) (by omega) (by omega) h_a0_20_f h_a0_21_f (by assumption) (by assumption)) (cwV 0 hts (gwV qw_630 qw_631 qw_632 qw_386 qw_629) rfl rfl rfl (by decide +kernel) ⟨Nat.le_of_ble_eq_true rfl, Nat.le_of_ble_eq_true rfl⟩) ⟨fun a U g9 mk q => ⟨q.1, q.2.1, q.2.2.1, va_K.moved (u := U) (U := U.calling g9 mk a) (Vm.Alike.refl U.vm) q.2.2.2.1, q.2.2.2.2.1, Ev.bl q.2.2.2.2.2⟩, va_recv hK hP (ci := 8) (q0 := 0) rfl rgL14_6e084ec, fun U hU hW => ⟨rfl, by rw [hU], atB hU hPc, va_K.moved hW.alike hKc, hDc.weaken (fun _ _ _ _ => trivial), hE.go hS hFc hU hW⟩⟩ rfl rfl hl.1 rfl (lv_room (Nat.le_of_ble_eq_true rfl)) dX9_sooner_33 ⟨Nat.le_of_ble_eq_true rfl, Nat.le_of_ble_eq_true rfl⟩) hS (fun q _ h => hFc q h) hFc (fun u28 t H1 locs ht hvm h_u28 hB hz1 hk1 hS => ?_)
        obtain ⟨za0_1_30, za0_2_31, za0_3_32, za0_43_f_33, hP1, hK1, hD1⟩ := hB
        have hK1 := va_K.moved hvm.symm hK1
        have hJ9 := rgJ14_93bd4e1 hP hD hk1 hFc (atH ht hP1) hD1
        clear hP hD hPc hKc hDc hFc hP1 hD1 hk1 hz1
        obtain ⟨hP, hD⟩ := hJ9
        clear hK1
        generalize H1 = H at hP hS ⊢
        refine W.widen (k := 0) (n := 0) (Nat.le_of_ble_eq_true rfl) (Nat.le_of_ble_eq_true rfl) ?_
        refine lv_aload_n hx hb dX9_sooner_36 rfl (lv_at hl 0 rfl) ?_
        refine va_get (D := (dC, dI)) (ci := 8) (v := .int 0) (C := RX9) (T := TX9) (N := 44) hx hb hts inlX9 hown hK hP 0 rgL14_6e084ec rfl 0 (by decide) (hts (.fieldLink RX9 85 "ClosedUntilModel" "thrown" "I") qw_408) (fun _ h9 => h9) rfl dX9_sooner_37 ?_
        refine lv_iconst (v := 1) hx hb dX9_sooner_40 (by decide) ?_
        refine lv_icmp_ne (tgt := 48) hx hb dX9_sooner_41 (by decide) (fun c41_34 => ?_) (fun c41_34 => by exfalso; exact absurd c41_34 (by decide))
        refine lv_aload_n hx hb dX9_sooner_48 rfl (lv_at hl 0 rfl) ?_
        refine lv_iload_n hx hb dX9_sooner_49 rfl (lv_at hl 2 rfl) ?_
        refine lv_iload_n hx hb dX9_sooner_50 rfl (lv_at hl 3 rfl) ?_
        refine lv_iconst (v := 0) hx hb dX9_sooner_51 (by decide) ?_
        have qc0 : (0 : Int32).toInt = 0 := by decide
        have hPc := (rgP14_910b6ce hP)
        have hKc := (rgK13_829f201 hK)
        refine vp_callSi ((va_runV (As := [.int a2, .int a3, .int 0]) (rest := []) ⟨hx, hb, hml, hown, hts⟩ (k_X9_opensOf l dC dI g (a0) (a2) (a3) (0) (0) (za0_1_30) (za0_2_31) (za0_3_32) (a0_4) (a0_5) (a0_6) (a0_7) (a0_8) (a0_9) (a0_10) (a0_11) (a0_12) (a0_13) (a0_14) (a0_15) (a0_16) (a0_17) (a0_18) (a0_19) (a0_20) (a0_21) (a0_22) (a0_23) (a0_24) (a0_25) (a0_26) (a0_27) (a0_28) (a0_29) (a0_30) (a0_31) (a0_32) (a0_33) (a0_34) (a0_35) (a0_36) (a0_37) (a0_38) (a0_39) (a0_40) (a0_41) (a0_42) (a0_43) (a0_21_c) (a0_21_f) (a0_32_c) (a0_32_f) (a0_43_c) (za0_43_f_33) (by omega) (by omega) (by omega) (by omega) (by omega) (by omega) (by omega) h_a0_21_f (by omega)) (cwV 3 hts (gwV qw_542 qw_543 qw_544 qw_386 qw_541) rfl rfl rfl (by decide +kernel) ⟨Nat.le_of_ble_eq_true rfl, Nat.le_of_ble_eq_true rfl⟩) ⟨fun a U g9 mk q => ⟨q.1, q.2.1, va_K.moved (u := U) (U := U.calling g9 mk a) (Vm.Alike.refl U.vm) q.2.2.1, Ev.bl q.2.2.2⟩, va_recv hK hP (ci := 8) (q0 := 0) rfl rgL14_6e084ec, fun U hU hW => ⟨rfl, atB hU hPc, va_K.moved hW.alike hKc, hE.go hS (fun _ h => h.elim) hU hW⟩⟩ rfl rfl hl.1 rfl (lv_room (Nat.le_of_ble_eq_true rfl)) dX9_sooner_52 ⟨Nat.le_of_ble_eq_true rfl, Nat.le_of_ble_eq_true rfl⟩)).run (fun r35 h_r35 => ?_)
        have b_r35 := i32b r35
        refine lv_aload_n hx hb dX9_sooner_55 rfl (lv_at hl 0 rfl) ?_
        refine lv_iload_n hx hb dX9_sooner_56 rfl (lv_at hl 2 rfl) ?_
        refine lv_iload_n hx hb dX9_sooner_57 rfl (lv_at hl 3 rfl) ?_
        refine lv_iconst (v := 1) hx hb dX9_sooner_58 (by decide) ?_
        refine lv_iload_n hx hb dX9_sooner_59 rfl (lv_at hl 1 rfl) ?_
        refine lv_ishl hx hb dX9_sooner_60 ?_
        refine lv_topi (fun x36 e_x36 => ?_)
        have qc0 : (0 : Int32).toInt = 0 := by decide
        have hPc := (rgP14_910b6ce hP)
        have hKc := (rgK13_829f201 hK)
        refine vp_callSi ((va_runV (As := [.int a2, .int a3, .int x36]) (rest := [.int r35]) ⟨hx, hb, hml, hown, hts⟩ (k_X9_opensOf l dC dI g (a0) (a2) (a3) (x36) (0) (za0_1_30) (za0_2_31) (za0_3_32) (a0_4) (a0_5) (a0_6) (a0_7) (a0_8) (a0_9) (a0_10) (a0_11) (a0_12) (a0_13) (a0_14) (a0_15) (a0_16) (a0_17) (a0_18) (a0_19) (a0_20) (a0_21) (a0_22) (a0_23) (a0_24) (a0_25) (a0_26) (a0_27) (a0_28) (a0_29) (a0_30) (a0_31) (a0_32) (a0_33) (a0_34) (a0_35) (a0_36) (a0_37) (a0_38) (a0_39) (a0_40) (a0_41) (a0_42) (a0_43) (a0_21_c) (a0_21_f) (a0_32_c) (a0_32_f) (a0_43_c) (za0_43_f_33) (by omega) (by omega) (by omega) (by omega) (by omega) (by omega) (by omega) h_a0_21_f (by omega)) (cwV 3 hts (gwV qw_542 qw_543 qw_544 qw_386 qw_541) rfl rfl rfl (by decide +kernel) ⟨Nat.le_of_ble_eq_true rfl, Nat.le_of_ble_eq_true rfl⟩) ⟨fun a U g9 mk q => ⟨q.1, q.2.1, va_K.moved (u := U) (U := U.calling g9 mk a) (Vm.Alike.refl U.vm) q.2.2.1, Ev.bl q.2.2.2⟩, va_recv hK hP (ci := 8) (q0 := 0) rfl rgL14_6e084ec, fun U hU hW => ⟨rfl, atB hU hPc, va_K.moved hW.alike hKc, hE.go hS (fun _ h => h.elim) hU hW⟩⟩ rfl rfl hl.1 rfl (lv_room (Nat.le_of_ble_eq_true rfl)) dX9_sooner_61 ⟨Nat.le_of_ble_eq_true rfl, Nat.le_of_ble_eq_true rfl⟩)).run (fun r37 h_r37 => ?_)
        have b_r37 := i32b r37
        refine lv_isub hx hb dX9_sooner_64 ?_
        refine lv_topi (fun x38 e_x38 => ?_)
        have qc0 : (0 : Int32).toInt = 0 := by decide
        refine W.widen (k := 0) (n := 0) (Nat.le_of_ble_eq_true rfl) (Nat.le_of_ble_eq_true rfl) ?_
        have hP9 := hP
        have hD9 := hD
        have hK9 := (rgK13_332f5b0 hK)
        exact W.iret (v := x38) hx hb hr (fun t ht hW => ⟨⟨x38, x38, rfl, rfl, 0, za0_1_30, za0_2_31, za0_3_32, za0_43_f_33, atB ht hP9, va_K.moved hW.alike hK9, hD9⟩, hS.F ht⟩) hS.2.2 dX9_sooner_65
