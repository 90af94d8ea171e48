theorem dX8_piece_0 : decode cX8_piece 0 = .ok (.aload_n 0, 1) := by decide +kernel
theorem dX8_piece_1 : decode cX8_piece 1 = .ok (.getfield 51, 3) := by decide +kernel
theorem dX8_piece_4 : decode cX8_piece 4 = .ok (.iload_n 1, 1) := by decide +kernel
theorem dX8_piece_5 : decode cX8_piece 5 = .ok (.invokevirtual 125, 3) := by decide +kernel
theorem dX8_piece_8 : decode cX8_piece 8 = .ok (.ifCond .ne 6, 3) := by decide +kernel
theorem dX8_piece_11 : decode cX8_piece 11 = .ok (.bipush (-2), 2) := by decide +kernel
theorem dX8_piece_13 : decode cX8_piece 13 = .ok (.ireturn, 1) := by decide +kernel
theorem dX8_piece_14 : decode cX8_piece 14 = .ok (.iload_n 2, 1) := by decide +kernel
theorem dX8_piece_15 : decode cX8_piece 15 = .ok (.tableswitch 97 0 5 #[37, 47, 57, 67, 77, 87], 37) := by decide +kernel
theorem dX8_piece_52 : decode cX8_piece 52 = .ok (.aload_n 0, 1) := by decide +kernel
theorem dX8_piece_53 : decode cX8_piece 53 = .ok (.getfield 58, 3) := by decide +kernel
theorem dX8_piece_56 : decode cX8_piece 56 = .ok (.getfield 128, 3) := by decide +kernel
theorem dX8_piece_59 : decode cX8_piece 59 = .ok (.iload_n 1, 1) := by decide +kernel
theorem dX8_piece_60 : decode cX8_piece 60 = .ok (.iaload, 1) := by decide +kernel
theorem dX8_piece_61 : decode cX8_piece 61 = .ok (.ireturn, 1) := by decide +kernel
theorem dX8_piece_62 : decode cX8_piece 62 = .ok (.aload_n 0, 1) := by decide +kernel
theorem dX8_piece_63 : decode cX8_piece 63 = .ok (.getfield 51, 3) := by decide +kernel
theorem dX8_piece_66 : decode cX8_piece 66 = .ok (.getfield 132, 3) := by decide +kernel
theorem dX8_piece_69 : decode cX8_piece 69 = .ok (.iload_n 1, 1) := by decide +kernel
theorem dX8_piece_70 : decode cX8_piece 70 = .ok (.iaload, 1) := by decide +kernel
theorem dX8_piece_71 : decode cX8_piece 71 = .ok (.ireturn, 1) := by decide +kernel
theorem dX8_piece_72 : decode cX8_piece 72 = .ok (.aload_n 0, 1) := by decide +kernel
theorem dX8_piece_73 : decode cX8_piece 73 = .ok (.getfield 51, 3) := by decide +kernel
theorem dX8_piece_76 : decode cX8_piece 76 = .ok (.getfield 135, 3) := by decide +kernel
theorem dX8_piece_79 : decode cX8_piece 79 = .ok (.iload_n 1, 1) := by decide +kernel
theorem dX8_piece_80 : decode cX8_piece 80 = .ok (.iaload, 1) := by decide +kernel
theorem dX8_piece_81 : decode cX8_piece 81 = .ok (.ireturn, 1) := by decide +kernel
theorem dX8_piece_82 : decode cX8_piece 82 = .ok (.aload_n 0, 1) := by decide +kernel
theorem dX8_piece_83 : decode cX8_piece 83 = .ok (.getfield 51, 3) := by decide +kernel
theorem dX8_piece_86 : decode cX8_piece 86 = .ok (.getfield 138, 3) := by decide +kernel
theorem dX8_piece_89 : decode cX8_piece 89 = .ok (.iload_n 1, 1) := by decide +kernel
theorem dX8_piece_90 : decode cX8_piece 90 = .ok (.iaload, 1) := by decide +kernel
theorem dX8_piece_91 : decode cX8_piece 91 = .ok (.ireturn, 1) := by decide +kernel
theorem dX8_piece_92 : decode cX8_piece 92 = .ok (.aload_n 0, 1) := by decide +kernel
theorem dX8_piece_93 : decode cX8_piece 93 = .ok (.invokevirtual 141, 3) := by decide +kernel
theorem dX8_piece_96 : decode cX8_piece 96 = .ok (.getfield 145, 3) := by decide +kernel
theorem dX8_piece_99 : decode cX8_piece 99 = .ok (.iload_n 1, 1) := by decide +kernel
theorem dX8_piece_100 : decode cX8_piece 100 = .ok (.iaload, 1) := by decide +kernel
theorem dX8_piece_101 : decode cX8_piece 101 = .ok (.ireturn, 1) := by decide +kernel
theorem dX8_piece_102 : decode cX8_piece 102 = .ok (.aload_n 0, 1) := by decide +kernel
theorem dX8_piece_103 : decode cX8_piece 103 = .ok (.invokevirtual 141, 3) := by decide +kernel
theorem dX8_piece_106 : decode cX8_piece 106 = .ok (.getfield 148, 3) := by decide +kernel
theorem dX8_piece_109 : decode cX8_piece 109 = .ok (.iload_n 1, 1) := by decide +kernel
theorem dX8_piece_110 : decode cX8_piece 110 = .ok (.iaload, 1) := by decide +kernel
theorem dX8_piece_111 : decode cX8_piece 111 = .ok (.ireturn, 1) := by decide +kernel
theorem dX8_piece_112 : decode cX8_piece 112 = .ok (.bipush (-2), 2) := by decide +kernel
theorem dX8_piece_114 : decode cX8_piece 114 = .ok (.ireturn, 1) := by decide +kernel
theorem dX8_person_0 : decode cX8_person 0 = .ok (.aload_n 0, 1) := by decide +kernel
theorem dX8_person_1 : decode cX8_person 1 = .ok (.getfield 51, 3) := by decide +kernel
theorem dX8_person_4 : decode cX8_person 4 = .ok (.iload_n 1, 1) := by decide +kernel
theorem dX8_person_5 : decode cX8_person 5 = .ok (.invokevirtual 151, 3) := by decide +kernel
theorem dX8_person_8 : decode cX8_person 8 = .ok (.ifCond .ne 6, 3) := by decide +kernel
theorem dX8_person_11 : decode cX8_person 11 = .ok (.bipush (-2), 2) := by decide +kernel
theorem dX8_person_13 : decode cX8_person 13 = .ok (.ireturn, 1) := by decide +kernel
theorem dX8_person_14 : decode cX8_person 14 = .ok (.iload_n 2, 1) := by decide +kernel
theorem dX8_person_15 : decode cX8_person 15 = .ok (.tableswitch 54 0 2 #[25, 35, 45], 25) := by decide +kernel
theorem dX8_person_40 : decode cX8_person 40 = .ok (.aload_n 0, 1) := by decide +kernel
theorem dX8_person_41 : decode cX8_person 41 = .ok (.getfield 51, 3) := by decide +kernel
theorem dX8_person_44 : decode cX8_person 44 = .ok (.getfield 154, 3) := by decide +kernel
theorem dX8_person_47 : decode cX8_person 47 = .ok (.iload_n 1, 1) := by decide +kernel
theorem dX8_person_48 : decode cX8_person 48 = .ok (.iaload, 1) := by decide +kernel
theorem dX8_person_49 : decode cX8_person 49 = .ok (.ireturn, 1) := by decide +kernel
theorem dX8_person_50 : decode cX8_person 50 = .ok (.aload_n 0, 1) := by decide +kernel
theorem dX8_person_51 : decode cX8_person 51 = .ok (.getfield 58, 3) := by decide +kernel
theorem dX8_person_54 : decode cX8_person 54 = .ok (.getfield 157, 3) := by decide +kernel
theorem dX8_person_57 : decode cX8_person 57 = .ok (.iload_n 1, 1) := by decide +kernel
theorem dX8_person_58 : decode cX8_person 58 = .ok (.iaload, 1) := by decide +kernel
theorem dX8_person_59 : decode cX8_person 59 = .ok (.ireturn, 1) := by decide +kernel
theorem dX8_person_60 : decode cX8_person 60 = .ok (.aload_n 0, 1) := by decide +kernel
theorem dX8_person_61 : decode cX8_person 61 = .ok (.getfield 51, 3) := by decide +kernel
theorem dX8_person_64 : decode cX8_person 64 = .ok (.iload_n 1, 1) := by decide +kernel
theorem dX8_person_65 : decode cX8_person 65 = .ok (.invokevirtual 160, 3) := by decide +kernel
theorem dX8_person_68 : decode cX8_person 68 = .ok (.ireturn, 1) := by decide +kernel
theorem dX8_person_69 : decode cX8_person 69 = .ok (.bipush (-2), 2) := by decide +kernel
theorem dX8_person_71 : decode cX8_person 71 = .ok (.ireturn, 1) := by decide +kernel
theorem dX8_closure_0 : decode cX8_closure 0 = .ok (.aload_n 0, 1) := by decide +kernel
theorem dX8_closure_1 : decode cX8_closure 1 = .ok (.getfield 51, 3) := by decide +kernel
theorem dX8_closure_4 : decode cX8_closure 4 = .ok (.iload_n 1, 1) := by decide +kernel
theorem dX8_closure_5 : decode cX8_closure 5 = .ok (.invokevirtual 163, 3) := by decide +kernel
theorem dX8_closure_8 : decode cX8_closure 8 = .ok (.ifCond .ne 6, 3) := by decide +kernel
theorem dX8_closure_11 : decode cX8_closure 11 = .ok (.bipush (-2), 2) := by decide +kernel
theorem dX8_closure_13 : decode cX8_closure 13 = .ok (.ireturn, 1) := by decide +kernel
theorem dX8_closure_14 : decode cX8_closure 14 = .ok (.iload_n 2, 1) := by decide +kernel
theorem dX8_closure_15 : decode cX8_closure 15 = .ok (.tableswitch 117 0 6 #[41, 51, 61, 79, 89, 99, 108], 41) := by decide +kernel
theorem dX8_closure_56 : decode cX8_closure 56 = .ok (.aload_n 0, 1) := by decide +kernel
theorem dX8_closure_57 : decode cX8_closure 57 = .ok (.getfield 51, 3) := by decide +kernel
theorem dX8_closure_60 : decode cX8_closure 60 = .ok (.getfield 166, 3) := by decide +kernel
theorem dX8_closure_63 : decode cX8_closure 63 = .ok (.iload_n 1, 1) := by decide +kernel
theorem dX8_closure_64 : decode cX8_closure 64 = .ok (.iaload, 1) := by decide +kernel
theorem dX8_closure_65 : decode cX8_closure 65 = .ok (.ireturn, 1) := by decide +kernel
theorem dX8_closure_66 : decode cX8_closure 66 = .ok (.aload_n 0, 1) := by decide +kernel
theorem dX8_closure_67 : decode cX8_closure 67 = .ok (.getfield 51, 3) := by decide +kernel
theorem dX8_closure_70 : decode cX8_closure 70 = .ok (.getfield 169, 3) := by decide +kernel
theorem dX8_closure_73 : decode cX8_closure 73 = .ok (.iload_n 1, 1) := by decide +kernel
theorem dX8_closure_74 : decode cX8_closure 74 = .ok (.iaload, 1) := by decide +kernel
theorem dX8_closure_75 : decode cX8_closure 75 = .ok (.ireturn, 1) := by decide +kernel
theorem dX8_closure_76 : decode cX8_closure 76 = .ok (.aload_n 0, 1) := by decide +kernel
theorem dX8_closure_77 : decode cX8_closure 77 = .ok (.getfield 51, 3) := by decide +kernel
theorem dX8_closure_80 : decode cX8_closure 80 = .ok (.getfield 172, 3) := by decide +kernel
theorem dX8_closure_83 : decode cX8_closure 83 = .ok (.iload_n 1, 1) := by decide +kernel
theorem dX8_closure_84 : decode cX8_closure 84 = .ok (.baload, 1) := by decide +kernel
theorem dX8_closure_85 : decode cX8_closure 85 = .ok (.ifCond .eq 7, 3) := by decide +kernel
theorem dX8_closure_88 : decode cX8_closure 88 = .ok (.iconst 1, 1) := by decide +kernel
theorem dX8_closure_89 : decode cX8_closure 89 = .ok (.goto 4, 3) := by decide +kernel
theorem dX8_closure_92 : decode cX8_closure 92 = .ok (.iconst 0, 1) := by decide +kernel
theorem dX8_closure_93 : decode cX8_closure 93 = .ok (.ireturn, 1) := by decide +kernel
theorem dX8_closure_94 : decode cX8_closure 94 = .ok (.aload_n 0, 1) := by decide +kernel
theorem dX8_closure_95 : decode cX8_closure 95 = .ok (.getfield 58, 3) := by decide +kernel
theorem dX8_closure_98 : decode cX8_closure 98 = .ok (.getfield 175, 3) := by decide +kernel
theorem dX8_closure_101 : decode cX8_closure 101 = .ok (.iload_n 1, 1) := by decide +kernel
theorem dX8_closure_102 : decode cX8_closure 102 = .ok (.iaload, 1) := by decide +kernel
theorem dX8_closure_103 : decode cX8_closure 103 = .ok (.ireturn, 1) := by decide +kernel
theorem dX8_closure_104 : decode cX8_closure 104 = .ok (.aload_n 0, 1) := by decide +kernel
theorem dX8_closure_105 : decode cX8_closure 105 = .ok (.getfield 58, 3) := by decide +kernel
theorem dX8_closure_108 : decode cX8_closure 108 = .ok (.getfield 178, 3) := by decide +kernel
theorem dX8_closure_111 : decode cX8_closure 111 = .ok (.iload_n 1, 1) := by decide +kernel
theorem dX8_closure_112 : decode cX8_closure 112 = .ok (.iaload, 1) := by decide +kernel
theorem dX8_closure_113 : decode cX8_closure 113 = .ok (.ireturn, 1) := by decide +kernel
theorem dX8_closure_114 : decode cX8_closure 114 = .ok (.aload_n 0, 1) := by decide +kernel
theorem dX8_closure_115 : decode cX8_closure 115 = .ok (.invokevirtual 141, 3) := by decide +kernel
theorem dX8_closure_118 : decode cX8_closure 118 = .ok (.iload_n 1, 1) := by decide +kernel
theorem dX8_closure_119 : decode cX8_closure 119 = .ok (.invokevirtual 181, 3) := by decide +kernel
theorem dX8_closure_122 : decode cX8_closure 122 = .ok (.ireturn, 1) := by decide +kernel
theorem dX8_closure_123 : decode cX8_closure 123 = .ok (.aload_n 0, 1) := by decide +kernel
theorem dX8_closure_124 : decode cX8_closure 124 = .ok (.invokevirtual 141, 3) := by decide +kernel
theorem dX8_closure_127 : decode cX8_closure 127 = .ok (.iload_n 1, 1) := by decide +kernel
theorem dX8_closure_128 : decode cX8_closure 128 = .ok (.invokevirtual 184, 3) := by decide +kernel
theorem dX8_closure_131 : decode cX8_closure 131 = .ok (.ireturn, 1) := by decide +kernel
theorem dX8_closure_132 : decode cX8_closure 132 = .ok (.bipush (-2), 2) := by decide +kernel
theorem dX8_closure_134 : decode cX8_closure 134 = .ok (.ireturn, 1) := by decide +kernel
theorem dX8_term_0 : decode cX8_term 0 = .ok (.aload_n 0, 1) := by decide +kernel
theorem dX8_term_1 : decode cX8_term 1 = .ok (.getfield 51, 3) := by decide +kernel
theorem dX8_term_4 : decode cX8_term 4 = .ok (.iload_n 1, 1) := by decide +kernel
theorem dX8_term_5 : decode cX8_term 5 = .ok (.invokevirtual 163, 3) := by decide +kernel
theorem dX8_term_8 : decode cX8_term 8 = .ok (.ifCond .eq 14, 3) := by decide +kernel
theorem dX8_term_11 : decode cX8_term 11 = .ok (.aload_n 0, 1) := by decide +kernel
theorem dX8_term_12 : decode cX8_term 12 = .ok (.getfield 51, 3) := by decide +kernel
theorem dX8_term_15 : decode cX8_term 15 = .ok (.iload_n 2, 1) := by decide +kernel
theorem dX8_term_16 : decode cX8_term 16 = .ok (.invokevirtual 125, 3) := by decide +kernel
theorem dX8_term_19 : decode cX8_term 19 = .ok (.ifCond .ne 5, 3) := by decide +kernel
theorem dX8_term_22 : decode cX8_term 22 = .ok (.iconst (-1), 1) := by decide +kernel
theorem dX8_term_23 : decode cX8_term 23 = .ok (.ireturn, 1) := by decide +kernel
theorem dX8_term_24 : decode cX8_term 24 = .ok (.aload_n 0, 1) := by decide +kernel
theorem dX8_term_25 : decode cX8_term 25 = .ok (.invokevirtual 141, 3) := by decide +kernel
theorem dX8_term_28 : decode cX8_term 28 = .ok (.getfield 187, 3) := by decide +kernel
theorem dX8_term_31 : decode cX8_term 31 = .ok (.iload_n 1, 1) := by decide +kernel
theorem dX8_term_32 : decode cX8_term 32 = .ok (.aaload, 1) := by decide +kernel
theorem dX8_term_33 : decode cX8_term 33 = .ok (.iload_n 2, 1) := by decide +kernel
theorem dX8_term_34 : decode cX8_term 34 = .ok (.iaload, 1) := by decide +kernel
theorem dX8_term_35 : decode cX8_term 35 = .ok (.ireturn, 1) := by decide +kernel
theorem dX8_ends_0 : decode cX8_ends 0 = .ok (.aload_n 0, 1) := by decide +kernel
theorem dX8_ends_1 : decode cX8_ends 1 = .ok (.getfield 51, 3) := by decide +kernel
theorem dX8_ends_4 : decode cX8_ends 4 = .ok (.iload_n 1, 1) := by decide +kernel
theorem dX8_ends_5 : decode cX8_ends 5 = .ok (.invokevirtual 163, 3) := by decide +kernel
theorem dX8_ends_8 : decode cX8_ends 8 = .ok (.ifCond .eq 14, 3) := by decide +kernel
theorem dX8_ends_11 : decode cX8_ends 11 = .ok (.aload_n 0, 1) := by decide +kernel
theorem dX8_ends_12 : decode cX8_ends 12 = .ok (.getfield 51, 3) := by decide +kernel
theorem dX8_ends_15 : decode cX8_ends 15 = .ok (.iload_n 2, 1) := by decide +kernel
theorem dX8_ends_16 : decode cX8_ends 16 = .ok (.invokevirtual 125, 3) := by decide +kernel
theorem dX8_ends_19 : decode cX8_ends 19 = .ok (.ifCond .ne 5, 3) := by decide +kernel
theorem dX8_ends_22 : decode cX8_ends 22 = .ok (.iconst (-1), 1) := by decide +kernel
theorem dX8_ends_23 : decode cX8_ends 23 = .ok (.ireturn, 1) := by decide +kernel
theorem dX8_ends_24 : decode cX8_ends 24 = .ok (.aload_n 0, 1) := by decide +kernel
theorem dX8_ends_25 : decode cX8_ends 25 = .ok (.invokevirtual 141, 3) := by decide +kernel
theorem dX8_ends_28 : decode cX8_ends 28 = .ok (.getfield 191, 3) := by decide +kernel
theorem dX8_ends_31 : decode cX8_ends 31 = .ok (.iload_n 1, 1) := by decide +kernel
theorem dX8_ends_32 : decode cX8_ends 32 = .ok (.aaload, 1) := by decide +kernel
theorem dX8_ends_33 : decode cX8_ends 33 = .ok (.iload_n 2, 1) := by decide +kernel
theorem dX8_ends_34 : decode cX8_ends 34 = .ok (.iaload, 1) := by decide +kernel
theorem dX8_ends_35 : decode cX8_ends 35 = .ok (.ireturn, 1) := by decide +kernel
theorem dX8_opens_0 : decode cX8_opens 0 = .ok (.aload_n 0, 1) := by decide +kernel
theorem dX8_opens_1 : decode cX8_opens 1 = .ok (.getfield 51, 3) := by decide +kernel
theorem dX8_opens_4 : decode cX8_opens 4 = .ok (.iload_n 1, 1) := by decide +kernel
theorem dX8_opens_5 : decode cX8_opens 5 = .ok (.invokevirtual 125, 3) := by decide +kernel
theorem dX8_opens_8 : decode cX8_opens 8 = .ok (.ifCond .eq 10, 3) := by decide +kernel
theorem dX8_opens_11 : decode cX8_opens 11 = .ok (.iload_n 2, 1) := by decide +kernel
theorem dX8_opens_12 : decode cX8_opens 12 = .ok (.invokestatic 194, 3) := by decide +kernel
theorem dX8_opens_15 : decode cX8_opens 15 = .ok (.ifCond .ne 5, 3) := by decide +kernel
theorem dX8_opens_18 : decode cX8_opens 18 = .ok (.iconst (-1), 1) := by decide +kernel
theorem dX8_opens_19 : decode cX8_opens 19 = .ok (.ireturn, 1) := by decide +kernel
theorem dX8_opens_20 : decode cX8_opens 20 = .ok (.aload_n 0, 1) := by decide +kernel
theorem dX8_opens_21 : decode cX8_opens 21 = .ok (.invokevirtual 141, 3) := by decide +kernel
theorem dX8_opens_24 : decode cX8_opens 24 = .ok (.iload_n 1, 1) := by decide +kernel
theorem dX8_opens_25 : decode cX8_opens 25 = .ok (.aload_n 0, 1) := by decide +kernel
theorem dX8_opens_26 : decode cX8_opens 26 = .ok (.getfield 51, 3) := by decide +kernel
theorem dX8_opens_29 : decode cX8_opens 29 = .ok (.iload_n 2, 1) := by decide +kernel
theorem dX8_opens_30 : decode cX8_opens 30 = .ok (.invokevirtual 197, 3) := by decide +kernel
theorem dX8_opens_33 : decode cX8_opens 33 = .ok (.invokevirtual 200, 3) := by decide +kernel
theorem dX8_opens_36 : decode cX8_opens 36 = .ok (.ireturn, 1) := by decide +kernel
theorem dX8_allOf_0 : decode cX8_allOf 0 = .ok (.aload_n 0, 1) := by decide +kernel
theorem dX8_allOf_1 : decode cX8_allOf 1 = .ok (.getfield 51, 3) := by decide +kernel
theorem dX8_allOf_4 : decode cX8_allOf 4 = .ok (.iload_n 1, 1) := by decide +kernel
theorem dX8_allOf_5 : decode cX8_allOf 5 = .ok (.invokevirtual 125, 3) := by decide +kernel
theorem dX8_allOf_8 : decode cX8_allOf 8 = .ok (.ifCond .eq 10, 3) := by decide +kernel
theorem dX8_allOf_11 : decode cX8_allOf 11 = .ok (.iload_n 2, 1) := by decide +kernel
theorem dX8_allOf_12 : decode cX8_allOf 12 = .ok (.invokestatic 194, 3) := by decide +kernel
theorem dX8_allOf_15 : decode cX8_allOf 15 = .ok (.ifCond .ne 5, 3) := by decide +kernel
theorem dX8_allOf_18 : decode cX8_allOf 18 = .ok (.iconst (-1), 1) := by decide +kernel
theorem dX8_allOf_19 : decode cX8_allOf 19 = .ok (.ireturn, 1) := by decide +kernel
theorem dX8_allOf_20 : decode cX8_allOf 20 = .ok (.aload_n 0, 1) := by decide +kernel
theorem dX8_allOf_21 : decode cX8_allOf 21 = .ok (.invokevirtual 141, 3) := by decide +kernel
theorem dX8_allOf_24 : decode cX8_allOf 24 = .ok (.astore_n 3, 1) := by decide +kernel
theorem dX8_allOf_25 : decode cX8_allOf 25 = .ok (.aload_n 0, 1) := by decide +kernel
theorem dX8_allOf_26 : decode cX8_allOf 26 = .ok (.getfield 51, 3) := by decide +kernel
theorem dX8_allOf_29 : decode cX8_allOf 29 = .ok (.iload_n 2, 1) := by decide +kernel
theorem dX8_allOf_30 : decode cX8_allOf 30 = .ok (.invokevirtual 197, 3) := by decide +kernel
theorem dX8_allOf_33 : decode cX8_allOf 33 = .ok (.istore 4, 2) := by decide +kernel
theorem dX8_allOf_35 : decode cX8_allOf 35 = .ok (.iconst 0, 1) := by decide +kernel
theorem dX8_allOf_36 : decode cX8_allOf 36 = .ok (.istore 5, 2) := by decide +kernel
theorem dX8_allOf_38 : decode cX8_allOf 38 = .ok (.iconst 0, 1) := by decide +kernel
theorem dX8_allOf_39 : decode cX8_allOf 39 = .ok (.istore 6, 2) := by decide +kernel
theorem dX8_allOf_41 : decode cX8_allOf 41 = .ok (.iload 6, 2) := by decide +kernel
theorem dX8_allOf_43 : decode cX8_allOf 43 = .ok (.aload_n 0, 1) := by decide +kernel
theorem dX8_allOf_44 : decode cX8_allOf 44 = .ok (.getfield 51, 3) := by decide +kernel
theorem dX8_allOf_47 : decode cX8_allOf 47 = .ok (.getfield 203, 3) := by decide +kernel
theorem dX8_allOf_50 : decode cX8_allOf 50 = .ok (.if_icmp .ge 38, 3) := by decide +kernel
theorem dX8_allOf_53 : decode cX8_allOf 53 = .ok (.aload_n 3, 1) := by decide +kernel
theorem dX8_allOf_54 : decode cX8_allOf 54 = .ok (.getfield 145, 3) := by decide +kernel
theorem dX8_allOf_57 : decode cX8_allOf 57 = .ok (.iload_n 1, 1) := by decide +kernel
theorem dX8_allOf_58 : decode cX8_allOf 58 = .ok (.iaload, 1) := by decide +kernel
theorem dX8_allOf_59 : decode cX8_allOf 59 = .ok (.iload 6, 2) := by decide +kernel
theorem dX8_allOf_61 : decode cX8_allOf 61 = .ok (.invokestatic 206, 3) := by decide +kernel
theorem dX8_allOf_64 : decode cX8_allOf 64 = .ok (.ifCond .eq 18, 3) := by decide +kernel
theorem dX8_allOf_67 : decode cX8_allOf 67 = .ok (.iload 5, 2) := by decide +kernel
theorem dX8_allOf_69 : decode cX8_allOf 69 = .ok (.aload_n 3, 1) := by decide +kernel
theorem dX8_allOf_70 : decode cX8_allOf 70 = .ok (.iload 6, 2) := by decide +kernel
theorem dX8_allOf_72 : decode cX8_allOf 72 = .ok (.iload 4, 2) := by decide +kernel
theorem dX8_allOf_74 : decode cX8_allOf 74 = .ok (.invokevirtual 200, 3) := by decide +kernel
theorem dX8_allOf_77 : decode cX8_allOf 77 = .ok (.invokestatic 210, 3) := by decide +kernel
theorem dX8_allOf_80 : decode cX8_allOf 80 = .ok (.istore 5, 2) := by decide +kernel
theorem dX8_allOf_82 : decode cX8_allOf 82 = .ok (.iinc 6 1, 3) := by decide +kernel
theorem dX8_allOf_85 : decode cX8_allOf 85 = .ok (.goto (-44), 3) := by decide +kernel
theorem dX8_allOf_88 : decode cX8_allOf 88 = .ok (.iload 5, 2) := by decide +kernel
theorem dX8_allOf_90 : decode cX8_allOf 90 = .ok (.ireturn, 1) := by decide +kernel
theorem dX8_reason_0 : decode cX8_reason 0 = .ok (.aload_n 0, 1) := by decide +kernel
theorem dX8_reason_1 : decode cX8_reason 1 = .ok (.getfield 51, 3) := by decide +kernel
theorem dX8_reason_4 : decode cX8_reason 4 = .ok (.iload_n 1, 1) := by decide +kernel
theorem dX8_reason_5 : decode cX8_reason 5 = .ok (.invokevirtual 125, 3) := by decide +kernel
theorem dX8_reason_8 : decode cX8_reason 8 = .ok (.ifCond .eq 10, 3) := by decide +kernel
theorem dX8_reason_11 : decode cX8_reason 11 = .ok (.iload_n 2, 1) := by decide +kernel
theorem dX8_reason_12 : decode cX8_reason 12 = .ok (.invokestatic 194, 3) := by decide +kernel
theorem dX8_reason_15 : decode cX8_reason 15 = .ok (.ifCond .ne 5, 3) := by decide +kernel
theorem dX8_reason_18 : decode cX8_reason 18 = .ok (.iconst (-1), 1) := by decide +kernel
theorem dX8_reason_19 : decode cX8_reason 19 = .ok (.ireturn, 1) := by decide +kernel
theorem dX8_reason_20 : decode cX8_reason 20 = .ok (.aload_n 0, 1) := by decide +kernel
theorem dX8_reason_21 : decode cX8_reason 21 = .ok (.invokevirtual 141, 3) := by decide +kernel
theorem dX8_reason_24 : decode cX8_reason 24 = .ok (.astore_n 3, 1) := by decide +kernel
theorem dX8_reason_25 : decode cX8_reason 25 = .ok (.aload_n 0, 1) := by decide +kernel
theorem dX8_reason_26 : decode cX8_reason 26 = .ok (.getfield 51, 3) := by decide +kernel
theorem dX8_reason_29 : decode cX8_reason 29 = .ok (.iload_n 2, 1) := by decide +kernel
theorem dX8_reason_30 : decode cX8_reason 30 = .ok (.invokevirtual 197, 3) := by decide +kernel
theorem dX8_reason_33 : decode cX8_reason 33 = .ok (.istore 4, 2) := by decide +kernel
theorem dX8_reason_35 : decode cX8_reason 35 = .ok (.aload_n 3, 1) := by decide +kernel
theorem dX8_reason_36 : decode cX8_reason 36 = .ok (.iload_n 1, 1) := by decide +kernel
theorem dX8_reason_37 : decode cX8_reason 37 = .ok (.iload 4, 2) := by decide +kernel
theorem dX8_reason_39 : decode cX8_reason 39 = .ok (.invokevirtual 200, 3) := by decide +kernel
theorem dX8_reason_42 : decode cX8_reason 42 = .ok (.istore 5, 2) := by decide +kernel
theorem dX8_reason_44 : decode cX8_reason 44 = .ok (.iload 5, 2) := by decide +kernel
theorem dX8_reason_46 : decode cX8_reason 46 = .ok (.ifCond .ne 5, 3) := by decide +kernel
theorem dX8_reason_49 : decode cX8_reason 49 = .ok (.iconst (-1), 1) := by decide +kernel
theorem dX8_reason_50 : decode cX8_reason 50 = .ok (.ireturn, 1) := by decide +kernel
theorem dX8_reason_51 : decode cX8_reason 51 = .ok (.iconst 0, 1) := by decide +kernel
theorem dX8_reason_52 : decode cX8_reason 52 = .ok (.istore 6, 2) := by decide +kernel
theorem dX8_reason_54 : decode cX8_reason 54 = .ok (.iload 6, 2) := by decide +kernel
theorem dX8_reason_56 : decode cX8_reason 56 = .ok (.aload_n 0, 1) := by decide +kernel
theorem dX8_reason_57 : decode cX8_reason 57 = .ok (.getfield 51, 3) := by decide +kernel
theorem dX8_reason_60 : decode cX8_reason 60 = .ok (.getfield 215, 3) := by decide +kernel
theorem dX8_reason_63 : decode cX8_reason 63 = .ok (.if_icmp .ge 36, 3) := by decide +kernel
theorem dX8_reason_66 : decode cX8_reason 66 = .ok (.iload 4, 2) := by decide +kernel
theorem dX8_reason_68 : decode cX8_reason 68 = .ok (.iload 6, 2) := by decide +kernel
theorem dX8_reason_70 : decode cX8_reason 70 = .ok (.invokestatic 206, 3) := by decide +kernel
theorem dX8_reason_73 : decode cX8_reason 73 = .ok (.ifCond .eq 20, 3) := by decide +kernel
theorem dX8_reason_76 : decode cX8_reason 76 = .ok (.aload_n 3, 1) := by decide +kernel
theorem dX8_reason_77 : decode cX8_reason 77 = .ok (.getfield 191, 3) := by decide +kernel
theorem dX8_reason_80 : decode cX8_reason 80 = .ok (.iload 6, 2) := by decide +kernel
theorem dX8_reason_82 : decode cX8_reason 82 = .ok (.aaload, 1) := by decide +kernel
theorem dX8_reason_83 : decode cX8_reason 83 = .ok (.iload_n 1, 1) := by decide +kernel
theorem dX8_reason_84 : decode cX8_reason 84 = .ok (.iaload, 1) := by decide +kernel
theorem dX8_reason_85 : decode cX8_reason 85 = .ok (.iload 5, 2) := by decide +kernel
theorem dX8_reason_87 : decode cX8_reason 87 = .ok (.if_icmp .ne 6, 3) := by decide +kernel
theorem dX8_reason_90 : decode cX8_reason 90 = .ok (.iload 6, 2) := by decide +kernel
theorem dX8_reason_92 : decode cX8_reason 92 = .ok (.ireturn, 1) := by decide +kernel
theorem dX8_reason_93 : decode cX8_reason 93 = .ok (.iinc 6 1, 3) := by decide +kernel
theorem dX8_reason_96 : decode cX8_reason 96 = .ok (.goto (-42), 3) := by decide +kernel
theorem dX8_reason_99 : decode cX8_reason 99 = .ok (.iconst (-1), 1) := by decide +kernel
theorem dX8_reason_100 : decode cX8_reason 100 = .ok (.ireturn, 1) := by decide +kernel
theorem dX8_closedBy_0 : decode cX8_closedBy 0 = .ok (.aload_n 0, 1) := by decide +kernel
theorem dX8_closedBy_1 : decode cX8_closedBy 1 = .ok (.getfield 51, 3) := by decide +kernel
theorem dX8_closedBy_4 : decode cX8_closedBy 4 = .ok (.iload_n 1, 1) := by decide +kernel
theorem dX8_closedBy_5 : decode cX8_closedBy 5 = .ok (.invokevirtual 125, 3) := by decide +kernel
theorem dX8_closedBy_8 : decode cX8_closedBy 8 = .ok (.ifCond .eq 10, 3) := by decide +kernel
theorem dX8_closedBy_11 : decode cX8_closedBy 11 = .ok (.iload_n 2, 1) := by decide +kernel
theorem dX8_closedBy_12 : decode cX8_closedBy 12 = .ok (.invokestatic 118, 3) := by decide +kernel
theorem dX8_closedBy_15 : decode cX8_closedBy 15 = .ok (.ifCond .ne 5, 3) := by decide +kernel
theorem dX8_closedBy_18 : decode cX8_closedBy 18 = .ok (.iconst (-1), 1) := by decide +kernel
theorem dX8_closedBy_19 : decode cX8_closedBy 19 = .ok (.ireturn, 1) := by decide +kernel
theorem dX8_closedBy_20 : decode cX8_closedBy 20 = .ok (.aload_n 0, 1) := by decide +kernel
theorem dX8_closedBy_21 : decode cX8_closedBy 21 = .ok (.invokevirtual 141, 3) := by decide +kernel
theorem dX8_closedBy_24 : decode cX8_closedBy 24 = .ok (.iload_n 1, 1) := by decide +kernel
theorem dX8_closedBy_25 : decode cX8_closedBy 25 = .ok (.iload_n 2, 1) := by decide +kernel
theorem dX8_closedBy_26 : decode cX8_closedBy 26 = .ok (.aload_n 0, 1) := by decide +kernel
theorem dX8_closedBy_27 : decode cX8_closedBy 27 = .ok (.getfield 51, 3) := by decide +kernel
theorem dX8_closedBy_30 : decode cX8_closedBy 30 = .ok (.iconst 0, 1) := by decide +kernel
theorem dX8_closedBy_31 : decode cX8_closedBy 31 = .ok (.invokevirtual 197, 3) := by decide +kernel
theorem dX8_closedBy_34 : decode cX8_closedBy 34 = .ok (.invokevirtual 218, 3) := by decide +kernel
theorem dX8_closedBy_37 : decode cX8_closedBy 37 = .ok (.ireturn, 1) := by decide +kernel
theorem dX8_listed_0 : decode cX8_listed 0 = .ok (.aload_n 0, 1) := by decide +kernel
theorem dX8_listed_1 : decode cX8_listed 1 = .ok (.getfield 51, 3) := by decide +kernel
theorem dX8_listed_4 : decode cX8_listed 4 = .ok (.iload_n 1, 1) := by decide +kernel
theorem dX8_listed_5 : decode cX8_listed 5 = .ok (.invokevirtual 125, 3) := by decide +kernel
theorem dX8_listed_8 : decode cX8_listed 8 = .ok (.ifCond .eq 10, 3) := by decide +kernel
theorem dX8_listed_11 : decode cX8_listed 11 = .ok (.iload_n 2, 1) := by decide +kernel
theorem dX8_listed_12 : decode cX8_listed 12 = .ok (.invokestatic 194, 3) := by decide +kernel
theorem dX8_listed_15 : decode cX8_listed 15 = .ok (.ifCond .ne 5, 3) := by decide +kernel
theorem dX8_listed_18 : decode cX8_listed 18 = .ok (.iconst (-1), 1) := by decide +kernel
theorem dX8_listed_19 : decode cX8_listed 19 = .ok (.ireturn, 1) := by decide +kernel
theorem dX8_listed_20 : decode cX8_listed 20 = .ok (.aload_n 0, 1) := by decide +kernel
theorem dX8_listed_21 : decode cX8_listed 21 = .ok (.invokevirtual 141, 3) := by decide +kernel
theorem dX8_listed_24 : decode cX8_listed 24 = .ok (.iload_n 1, 1) := by decide +kernel
theorem dX8_listed_25 : decode cX8_listed 25 = .ok (.aload_n 0, 1) := by decide +kernel
theorem dX8_listed_26 : decode cX8_listed 26 = .ok (.getfield 51, 3) := by decide +kernel
theorem dX8_listed_29 : decode cX8_listed 29 = .ok (.iload_n 2, 1) := by decide +kernel
theorem dX8_listed_30 : decode cX8_listed 30 = .ok (.invokevirtual 197, 3) := by decide +kernel
theorem dX8_listed_33 : decode cX8_listed 33 = .ok (.invokevirtual 231, 3) := by decide +kernel
theorem dX8_listed_36 : decode cX8_listed 36 = .ok (.ireturn, 1) := by decide +kernel
theorem dX8_mustGo_0 : decode cX8_mustGo 0 = .ok (.aload_n 0, 1) := by decide +kernel
theorem dX8_mustGo_1 : decode cX8_mustGo 1 = .ok (.getfield 51, 3) := by decide +kernel
theorem dX8_mustGo_4 : decode cX8_mustGo 4 = .ok (.iload_n 1, 1) := by decide +kernel
theorem dX8_mustGo_5 : decode cX8_mustGo 5 = .ok (.invokevirtual 125, 3) := by decide +kernel
theorem dX8_mustGo_8 : decode cX8_mustGo 8 = .ok (.ifCond .eq 17, 3) := by decide +kernel
theorem dX8_mustGo_11 : decode cX8_mustGo 11 = .ok (.iload_n 2, 1) := by decide +kernel
theorem dX8_mustGo_12 : decode cX8_mustGo 12 = .ok (.invokestatic 118, 3) := by decide +kernel
theorem dX8_mustGo_15 : decode cX8_mustGo 15 = .ok (.ifCond .eq 10, 3) := by decide +kernel
theorem dX8_mustGo_18 : decode cX8_mustGo 18 = .ok (.iload_n 3, 1) := by decide +kernel
theorem dX8_mustGo_19 : decode cX8_mustGo 19 = .ok (.invokestatic 194, 3) := by decide +kernel
theorem dX8_mustGo_22 : decode cX8_mustGo 22 = .ok (.ifCond .ne 5, 3) := by decide +kernel
theorem dX8_mustGo_25 : decode cX8_mustGo 25 = .ok (.iconst (-1), 1) := by decide +kernel
theorem dX8_mustGo_26 : decode cX8_mustGo 26 = .ok (.ireturn, 1) := by decide +kernel
theorem dX8_mustGo_27 : decode cX8_mustGo 27 = .ok (.aload_n 0, 1) := by decide +kernel
theorem dX8_mustGo_28 : decode cX8_mustGo 28 = .ok (.invokevirtual 141, 3) := by decide +kernel
theorem dX8_mustGo_31 : decode cX8_mustGo 31 = .ok (.astore 4, 2) := by decide +kernel
theorem dX8_mustGo_33 : decode cX8_mustGo 33 = .ok (.aload_n 0, 1) := by decide +kernel
theorem dX8_mustGo_34 : decode cX8_mustGo 34 = .ok (.getfield 51, 3) := by decide +kernel
theorem dX8_mustGo_37 : decode cX8_mustGo 37 = .ok (.iload_n 3, 1) := by decide +kernel
theorem dX8_mustGo_38 : decode cX8_mustGo 38 = .ok (.invokevirtual 197, 3) := by decide +kernel
theorem dX8_mustGo_41 : decode cX8_mustGo 41 = .ok (.istore 5, 2) := by decide +kernel
theorem dX8_mustGo_43 : decode cX8_mustGo 43 = .ok (.iconst 0, 1) := by decide +kernel
theorem dX8_mustGo_44 : decode cX8_mustGo 44 = .ok (.istore 6, 2) := by decide +kernel
theorem dX8_mustGo_46 : decode cX8_mustGo 46 = .ok (.iconst 0, 1) := by decide +kernel
theorem dX8_mustGo_47 : decode cX8_mustGo 47 = .ok (.istore 7, 2) := by decide +kernel
theorem dX8_mustGo_49 : decode cX8_mustGo 49 = .ok (.iload 7, 2) := by decide +kernel
theorem dX8_mustGo_51 : decode cX8_mustGo 51 = .ok (.aload_n 0, 1) := by decide +kernel
theorem dX8_mustGo_52 : decode cX8_mustGo 52 = .ok (.getfield 51, 3) := by decide +kernel
theorem dX8_mustGo_55 : decode cX8_mustGo 55 = .ok (.getfield 203, 3) := by decide +kernel
theorem dX8_mustGo_58 : decode cX8_mustGo 58 = .ok (.if_icmp .ge 39, 3) := by decide +kernel
theorem dX8_mustGo_61 : decode cX8_mustGo 61 = .ok (.aload 4, 2) := by decide +kernel
theorem dX8_mustGo_63 : decode cX8_mustGo 63 = .ok (.getfield 145, 3) := by decide +kernel
theorem dX8_mustGo_66 : decode cX8_mustGo 66 = .ok (.iload_n 1, 1) := by decide +kernel
theorem dX8_mustGo_67 : decode cX8_mustGo 67 = .ok (.iaload, 1) := by decide +kernel
theorem dX8_mustGo_68 : decode cX8_mustGo 68 = .ok (.iload 7, 2) := by decide +kernel
theorem dX8_mustGo_70 : decode cX8_mustGo 70 = .ok (.invokestatic 206, 3) := by decide +kernel
theorem dX8_mustGo_73 : decode cX8_mustGo 73 = .ok (.ifCond .eq 18, 3) := by decide +kernel
theorem dX8_mustGo_76 : decode cX8_mustGo 76 = .ok (.iload 6, 2) := by decide +kernel
theorem dX8_mustGo_78 : decode cX8_mustGo 78 = .ok (.aload 4, 2) := by decide +kernel
theorem dX8_mustGo_80 : decode cX8_mustGo 80 = .ok (.iload 7, 2) := by decide +kernel
theorem dX8_mustGo_82 : decode cX8_mustGo 82 = .ok (.iload_n 2, 1) := by decide +kernel
theorem dX8_mustGo_83 : decode cX8_mustGo 83 = .ok (.iload 5, 2) := by decide +kernel
theorem dX8_mustGo_85 : decode cX8_mustGo 85 = .ok (.invokevirtual 218, 3) := by decide +kernel
theorem dX8_mustGo_88 : decode cX8_mustGo 88 = .ok (.ior, 1) := by decide +kernel
theorem dX8_mustGo_89 : decode cX8_mustGo 89 = .ok (.istore 6, 2) := by decide +kernel
theorem dX8_mustGo_91 : decode cX8_mustGo 91 = .ok (.iinc 7 1, 3) := by decide +kernel
theorem dX8_mustGo_94 : decode cX8_mustGo 94 = .ok (.goto (-45), 3) := by decide +kernel
theorem dX8_mustGo_97 : decode cX8_mustGo 97 = .ok (.iload 6, 2) := by decide +kernel
theorem dX8_mustGo_99 : decode cX8_mustGo 99 = .ok (.ireturn, 1) := by decide +kernel
theorem dX8_review_0 : decode cX8_review 0 = .ok (.aload_n 0, 1) := by decide +kernel
theorem dX8_review_1 : decode cX8_review 1 = .ok (.getfield 51, 3) := by decide +kernel
theorem dX8_review_4 : decode cX8_review 4 = .ok (.iload_n 1, 1) := by decide +kernel
theorem dX8_review_5 : decode cX8_review 5 = .ok (.invokevirtual 163, 3) := by decide +kernel
theorem dX8_review_8 : decode cX8_review 8 = .ok (.ifCond .eq 22, 3) := by decide +kernel
theorem dX8_review_11 : decode cX8_review 11 = .ok (.iload_n 2, 1) := by decide +kernel
theorem dX8_review_12 : decode cX8_review 12 = .ok (.invokestatic 101, 3) := by decide +kernel
theorem dX8_review_15 : decode cX8_review 15 = .ok (.ifCond .eq 15, 3) := by decide +kernel
theorem dX8_review_18 : decode cX8_review 18 = .ok (.iload_n 3, 1) := by decide +kernel
theorem dX8_review_19 : decode cX8_review 19 = .ok (.bipush (-50), 2) := by decide +kernel
theorem dX8_review_21 : decode cX8_review 21 = .ok (.if_icmp .lt 9, 3) := by decide +kernel
theorem dX8_review_24 : decode cX8_review 24 = .ok (.iload_n 3, 1) := by decide +kernel
theorem dX8_review_25 : decode cX8_review 25 = .ok (.bipush 50, 2) := by decide +kernel
theorem dX8_review_27 : decode cX8_review 27 = .ok (.if_icmp .le 5, 3) := by decide +kernel
theorem dX8_review_30 : decode cX8_review 30 = .ok (.iconst (-1), 1) := by decide +kernel
theorem dX8_review_31 : decode cX8_review 31 = .ok (.ireturn, 1) := by decide +kernel
theorem dX8_review_32 : decode cX8_review 32 = .ok (.aload_n 0, 1) := by decide +kernel
theorem dX8_review_33 : decode cX8_review 33 = .ok (.getfield 58, 3) := by decide +kernel
theorem dX8_review_36 : decode cX8_review 36 = .ok (.getfield 175, 3) := by decide +kernel
theorem dX8_review_39 : decode cX8_review 39 = .ok (.iload_n 1, 1) := by decide +kernel
theorem dX8_review_40 : decode cX8_review 40 = .ok (.iaload, 1) := by decide +kernel
theorem dX8_review_41 : decode cX8_review 41 = .ok (.iconst 5, 1) := by decide +kernel
theorem dX8_review_42 : decode cX8_review 42 = .ok (.if_icmp .lt 5, 3) := by decide +kernel
theorem dX8_review_45 : decode cX8_review 45 = .ok (.iconst (-1), 1) := by decide +kernel
theorem dX8_review_46 : decode cX8_review 46 = .ok (.ireturn, 1) := by decide +kernel
theorem dX8_review_47 : decode cX8_review 47 = .ok (.aload_n 0, 1) := by decide +kernel
theorem dX8_review_48 : decode cX8_review 48 = .ok (.getfield 58, 3) := by decide +kernel
theorem dX8_review_51 : decode cX8_review 51 = .ok (.iload_n 1, 1) := by decide +kernel
theorem dX8_review_52 : decode cX8_review 52 = .ok (.iload_n 2, 1) := by decide +kernel
theorem dX8_review_53 : decode cX8_review 53 = .ok (.iload_n 3, 1) := by decide +kernel
theorem dX8_review_54 : decode cX8_review 54 = .ok (.invokevirtual 242, 3) := by decide +kernel
theorem dX8_review_57 : decode cX8_review 57 = .ok (.istore 4, 2) := by decide +kernel
theorem dX8_review_59 : decode cX8_review 59 = .ok (.aload_n 0, 1) := by decide +kernel
theorem dX8_review_60 : decode cX8_review 60 = .ok (.iconst 0, 1) := by decide +kernel
theorem dX8_review_61 : decode cX8_review 61 = .ok (.iload_n 1, 1) := by decide +kernel
theorem dX8_review_62 : decode cX8_review 62 = .ok (.iload 4, 2) := by decide +kernel
theorem dX8_review_64 : decode cX8_review 64 = .ok (.invokevirtual 245, 3) := by decide +kernel
theorem dX8_review_67 : decode cX8_review 67 = .ok (.aload_n 0, 1) := by decide +kernel
theorem dX8_review_68 : decode cX8_review 68 = .ok (.getfield 58, 3) := by decide +kernel
theorem dX8_review_71 : decode cX8_review 71 = .ok (.getfield 175, 3) := by decide +kernel
theorem dX8_review_74 : decode cX8_review 74 = .ok (.iload_n 1, 1) := by decide +kernel
theorem dX8_review_75 : decode cX8_review 75 = .ok (.iaload, 1) := by decide +kernel
theorem dX8_review_76 : decode cX8_review 76 = .ok (.ireturn, 1) := by decide +kernel
theorem dX8_lift_0 : decode cX8_lift 0 = .ok (.iload_n 2, 1) := by decide +kernel
theorem dX8_lift_1 : decode cX8_lift 1 = .ok (.iconst (-1), 1) := by decide +kernel
theorem dX8_lift_2 : decode cX8_lift 2 = .ok (.if_icmp .eq 10, 3) := by decide +kernel
theorem dX8_lift_5 : decode cX8_lift 5 = .ok (.iload_n 2, 1) := by decide +kernel
theorem dX8_lift_6 : decode cX8_lift 6 = .ok (.invokestatic 101, 3) := by decide +kernel
theorem dX8_lift_9 : decode cX8_lift 9 = .ok (.ifCond .eq 7, 3) := by decide +kernel
theorem dX8_lift_12 : decode cX8_lift 12 = .ok (.iconst 1, 1) := by decide +kernel
theorem dX8_lift_13 : decode cX8_lift 13 = .ok (.goto 4, 3) := by decide +kernel
theorem dX8_lift_16 : decode cX8_lift 16 = .ok (.iconst 0, 1) := by decide +kernel
theorem dX8_lift_17 : decode cX8_lift 17 = .ok (.istore_n 3, 1) := by decide +kernel
theorem dX8_lift_18 : decode cX8_lift 18 = .ok (.iload_n 3, 1) := by decide +kernel
theorem dX8_lift_19 : decode cX8_lift 19 = .ok (.ifCond .eq 14, 3) := by decide +kernel
theorem dX8_lift_22 : decode cX8_lift 22 = .ok (.aload_n 0, 1) := by decide +kernel
theorem dX8_lift_23 : decode cX8_lift 23 = .ok (.getfield 51, 3) := by decide +kernel
theorem dX8_lift_26 : decode cX8_lift 26 = .ok (.iload_n 1, 1) := by decide +kernel
theorem dX8_lift_27 : decode cX8_lift 27 = .ok (.invokevirtual 163, 3) := by decide +kernel
theorem dX8_lift_30 : decode cX8_lift 30 = .ok (.ifCond .ne 6, 3) := by decide +kernel
theorem dX8_lift_33 : decode cX8_lift 33 = .ok (.bipush (-2), 2) := by decide +kernel
theorem dX8_lift_35 : decode cX8_lift 35 = .ok (.ireturn, 1) := by decide +kernel
theorem dX8_lift_36 : decode cX8_lift 36 = .ok (.aload_n 0, 1) := by decide +kernel
theorem dX8_lift_37 : decode cX8_lift 37 = .ok (.getfield 58, 3) := by decide +kernel
theorem dX8_lift_40 : decode cX8_lift 40 = .ok (.getfield 178, 3) := by decide +kernel
theorem dX8_lift_43 : decode cX8_lift 43 = .ok (.iload_n 1, 1) := by decide +kernel
theorem dX8_lift_44 : decode cX8_lift 44 = .ok (.iaload, 1) := by decide +kernel
theorem dX8_lift_45 : decode cX8_lift 45 = .ok (.istore 4, 2) := by decide +kernel
theorem dX8_lift_47 : decode cX8_lift 47 = .ok (.aload_n 0, 1) := by decide +kernel
theorem dX8_lift_48 : decode cX8_lift 48 = .ok (.getfield 58, 3) := by decide +kernel
theorem dX8_lift_51 : decode cX8_lift 51 = .ok (.getfield 178, 3) := by decide +kernel
theorem dX8_lift_54 : decode cX8_lift 54 = .ok (.iload_n 1, 1) := by decide +kernel
theorem dX8_lift_55 : decode cX8_lift 55 = .ok (.iload_n 2, 1) := by decide +kernel
theorem dX8_lift_56 : decode cX8_lift 56 = .ok (.iastore, 1) := by decide +kernel
theorem dX8_lift_57 : decode cX8_lift 57 = .ok (.aload_n 0, 1) := by decide +kernel
theorem dX8_lift_58 : decode cX8_lift 58 = .ok (.iconst 1, 1) := by decide +kernel
theorem dX8_lift_59 : decode cX8_lift 59 = .ok (.iload_n 1, 1) := by decide +kernel
theorem dX8_lift_60 : decode cX8_lift 60 = .ok (.iload 4, 2) := by decide +kernel
theorem dX8_lift_62 : decode cX8_lift 62 = .ok (.invokevirtual 245, 3) := by decide +kernel
theorem dX8_lift_65 : decode cX8_lift 65 = .ok (.iload 4, 2) := by decide +kernel
theorem dX8_lift_67 : decode cX8_lift 67 = .ok (.ireturn, 1) := by decide +kernel
theorem dX8_died_0 : decode cX8_died 0 = .ok (.iload_n 2, 1) := by decide +kernel
theorem dX8_died_1 : decode cX8_died 1 = .ok (.iconst (-1), 1) := by decide +kernel
theorem dX8_died_2 : decode cX8_died 2 = .ok (.if_icmp .eq 10, 3) := by decide +kernel
theorem dX8_died_5 : decode cX8_died 5 = .ok (.iload_n 2, 1) := by decide +kernel
theorem dX8_died_6 : decode cX8_died 6 = .ok (.invokestatic 101, 3) := by decide +kernel
theorem dX8_died_9 : decode cX8_died 9 = .ok (.ifCond .eq 7, 3) := by decide +kernel
theorem dX8_died_12 : decode cX8_died 12 = .ok (.iconst 1, 1) := by decide +kernel
theorem dX8_died_13 : decode cX8_died 13 = .ok (.goto 4, 3) := by decide +kernel
theorem dX8_died_16 : decode cX8_died 16 = .ok (.iconst 0, 1) := by decide +kernel
theorem dX8_died_17 : decode cX8_died 17 = .ok (.istore_n 3, 1) := by decide +kernel
theorem dX8_died_18 : decode cX8_died 18 = .ok (.iload_n 3, 1) := by decide +kernel
theorem dX8_died_19 : decode cX8_died 19 = .ok (.ifCond .eq 14, 3) := by decide +kernel
theorem dX8_died_22 : decode cX8_died 22 = .ok (.aload_n 0, 1) := by decide +kernel
theorem dX8_died_23 : decode cX8_died 23 = .ok (.getfield 51, 3) := by decide +kernel
theorem dX8_died_26 : decode cX8_died 26 = .ok (.iload_n 1, 1) := by decide +kernel
theorem dX8_died_27 : decode cX8_died 27 = .ok (.invokevirtual 151, 3) := by decide +kernel
theorem dX8_died_30 : decode cX8_died 30 = .ok (.ifCond .ne 6, 3) := by decide +kernel
theorem dX8_died_33 : decode cX8_died 33 = .ok (.bipush (-2), 2) := by decide +kernel
theorem dX8_died_35 : decode cX8_died 35 = .ok (.ireturn, 1) := by decide +kernel
theorem dX8_died_36 : decode cX8_died 36 = .ok (.iload_n 2, 1) := by decide +kernel
theorem dX8_died_37 : decode cX8_died 37 = .ok (.iconst (-1), 1) := by decide +kernel
theorem dX8_died_38 : decode cX8_died 38 = .ok (.if_icmp .eq 19, 3) := by decide +kernel
theorem dX8_died_41 : decode cX8_died 41 = .ok (.iload_n 2, 1) := by decide +kernel
theorem dX8_died_42 : decode cX8_died 42 = .ok (.aload_n 0, 1) := by decide +kernel
theorem dX8_died_43 : decode cX8_died 43 = .ok (.getfield 51, 3) := by decide +kernel
theorem dX8_died_46 : decode cX8_died 46 = .ok (.getfield 154, 3) := by decide +kernel
theorem dX8_died_49 : decode cX8_died 49 = .ok (.iload_n 1, 1) := by decide +kernel
theorem dX8_died_50 : decode cX8_died 50 = .ok (.iaload, 1) := by decide +kernel
theorem dX8_died_51 : decode cX8_died 51 = .ok (.if_icmp .ge 6, 3) := by decide +kernel
theorem dX8_died_54 : decode cX8_died 54 = .ok (.bipush (-2), 2) := by decide +kernel
theorem dX8_died_56 : decode cX8_died 56 = .ok (.ireturn, 1) := by decide +kernel
theorem dX8_died_57 : decode cX8_died 57 = .ok (.aload_n 0, 1) := by decide +kernel
theorem dX8_died_58 : decode cX8_died 58 = .ok (.getfield 58, 3) := by decide +kernel
theorem dX8_died_61 : decode cX8_died 61 = .ok (.getfield 157, 3) := by decide +kernel
theorem dX8_died_64 : decode cX8_died 64 = .ok (.iload_n 1, 1) := by decide +kernel
theorem dX8_died_65 : decode cX8_died 65 = .ok (.iaload, 1) := by decide +kernel
theorem dX8_died_66 : decode cX8_died 66 = .ok (.istore 4, 2) := by decide +kernel
theorem dX8_died_68 : decode cX8_died 68 = .ok (.aload_n 0, 1) := by decide +kernel
theorem dX8_died_69 : decode cX8_died 69 = .ok (.getfield 58, 3) := by decide +kernel
theorem dX8_died_72 : decode cX8_died 72 = .ok (.getfield 157, 3) := by decide +kernel
theorem dX8_died_75 : decode cX8_died 75 = .ok (.iload_n 1, 1) := by decide +kernel
theorem dX8_died_76 : decode cX8_died 76 = .ok (.iload_n 2, 1) := by decide +kernel
theorem dX8_died_77 : decode cX8_died 77 = .ok (.iastore, 1) := by decide +kernel
theorem dX8_died_78 : decode cX8_died 78 = .ok (.aload_n 0, 1) := by decide +kernel
theorem dX8_died_79 : decode cX8_died 79 = .ok (.iconst 2, 1) := by decide +kernel
theorem dX8_died_80 : decode cX8_died 80 = .ok (.iload_n 1, 1) := by decide +kernel
theorem dX8_died_81 : decode cX8_died 81 = .ok (.iload 4, 2) := by decide +kernel
theorem dX8_died_83 : decode cX8_died 83 = .ok (.invokevirtual 245, 3) := by decide +kernel
theorem dX8_died_86 : decode cX8_died 86 = .ok (.iload 4, 2) := by decide +kernel
theorem dX8_died_88 : decode cX8_died 88 = .ok (.ireturn, 1) := by decide +kernel
theorem dX8_put_0 : decode cX8_put 0 = .ok (.iload_n 2, 1) := by decide +kernel
theorem dX8_put_1 : decode cX8_put 1 = .ok (.iconst (-1), 1) := by decide +kernel
theorem dX8_put_2 : decode cX8_put 2 = .ok (.if_icmp .eq 14, 3) := by decide +kernel
theorem dX8_put_5 : decode cX8_put 5 = .ok (.aload_n 0, 1) := by decide +kernel
theorem dX8_put_6 : decode cX8_put 6 = .ok (.getfield 51, 3) := by decide +kernel
theorem dX8_put_9 : decode cX8_put 9 = .ok (.iload_n 2, 1) := by decide +kernel
theorem dX8_put_10 : decode cX8_put 10 = .ok (.invokevirtual 125, 3) := by decide +kernel
theorem dX8_put_13 : decode cX8_put 13 = .ok (.ifCond .eq 7, 3) := by decide +kernel
theorem dX8_put_16 : decode cX8_put 16 = .ok (.iconst 1, 1) := by decide +kernel
theorem dX8_put_17 : decode cX8_put 17 = .ok (.goto 4, 3) := by decide +kernel
theorem dX8_put_20 : decode cX8_put 20 = .ok (.iconst 0, 1) := by decide +kernel
theorem dX8_put_21 : decode cX8_put 21 = .ok (.istore_n 3, 1) := by decide +kernel
theorem dX8_put_22 : decode cX8_put 22 = .ok (.iload_n 3, 1) := by decide +kernel
theorem dX8_put_23 : decode cX8_put 23 = .ok (.ifCond .eq 14, 3) := by decide +kernel
theorem dX8_put_26 : decode cX8_put 26 = .ok (.aload_n 0, 1) := by decide +kernel
theorem dX8_put_27 : decode cX8_put 27 = .ok (.getfield 51, 3) := by decide +kernel
theorem dX8_put_30 : decode cX8_put 30 = .ok (.iload_n 1, 1) := by decide +kernel
theorem dX8_put_31 : decode cX8_put 31 = .ok (.invokevirtual 125, 3) := by decide +kernel
theorem dX8_put_34 : decode cX8_put 34 = .ok (.ifCond .ne 6, 3) := by decide +kernel
theorem dX8_put_37 : decode cX8_put 37 = .ok (.bipush (-2), 2) := by decide +kernel
theorem dX8_put_39 : decode cX8_put 39 = .ok (.ireturn, 1) := by decide +kernel
theorem dX8_put_40 : decode cX8_put 40 = .ok (.iload_n 2, 1) := by decide +kernel
theorem dX8_put_41 : decode cX8_put 41 = .ok (.iconst (-1), 1) := by decide +kernel
theorem dX8_put_42 : decode cX8_put 42 = .ok (.if_icmp .eq 22, 3) := by decide +kernel
theorem dX8_put_45 : decode cX8_put 45 = .ok (.aload_n 0, 1) := by decide +kernel
theorem dX8_put_46 : decode cX8_put 46 = .ok (.invokevirtual 141, 3) := by decide +kernel
theorem dX8_put_49 : decode cX8_put 49 = .ok (.getfield 145, 3) := by decide +kernel
theorem dX8_put_52 : decode cX8_put 52 = .ok (.iload_n 1, 1) := by decide +kernel
theorem dX8_put_53 : decode cX8_put 53 = .ok (.iaload, 1) := by decide +kernel
theorem dX8_put_54 : decode cX8_put 54 = .ok (.iload_n 2, 1) := by decide +kernel
theorem dX8_put_55 : decode cX8_put 55 = .ok (.invokestatic 206, 3) := by decide +kernel
theorem dX8_put_58 : decode cX8_put 58 = .ok (.ifCond .eq 6, 3) := by decide +kernel
theorem dX8_put_61 : decode cX8_put 61 = .ok (.bipush (-2), 2) := by decide +kernel
theorem dX8_put_63 : decode cX8_put 63 = .ok (.ireturn, 1) := by decide +kernel
theorem dX8_put_64 : decode cX8_put 64 = .ok (.aload_n 0, 1) := by decide +kernel
theorem dX8_put_65 : decode cX8_put 65 = .ok (.getfield 58, 3) := by decide +kernel
theorem dX8_put_68 : decode cX8_put 68 = .ok (.getfield 128, 3) := by decide +kernel
theorem dX8_put_71 : decode cX8_put 71 = .ok (.iload_n 1, 1) := by decide +kernel
theorem dX8_put_72 : decode cX8_put 72 = .ok (.iaload, 1) := by decide +kernel
theorem dX8_put_73 : decode cX8_put 73 = .ok (.istore 4, 2) := by decide +kernel
theorem dX8_put_75 : decode cX8_put 75 = .ok (.aload_n 0, 1) := by decide +kernel
theorem dX8_put_76 : decode cX8_put 76 = .ok (.getfield 58, 3) := by decide +kernel
theorem dX8_put_79 : decode cX8_put 79 = .ok (.getfield 128, 3) := by decide +kernel
theorem dX8_put_82 : decode cX8_put 82 = .ok (.iload_n 1, 1) := by decide +kernel
theorem dX8_put_83 : decode cX8_put 83 = .ok (.iload_n 2, 1) := by decide +kernel
theorem dX8_put_84 : decode cX8_put 84 = .ok (.iastore, 1) := by decide +kernel
theorem dX8_put_85 : decode cX8_put 85 = .ok (.aload_n 0, 1) := by decide +kernel
theorem dX8_put_86 : decode cX8_put 86 = .ok (.iconst 3, 1) := by decide +kernel
theorem dX8_put_87 : decode cX8_put 87 = .ok (.iload_n 1, 1) := by decide +kernel
theorem dX8_put_88 : decode cX8_put 88 = .ok (.iload 4, 2) := by decide +kernel
theorem dX8_put_90 : decode cX8_put 90 = .ok (.invokevirtual 245, 3) := by decide +kernel
theorem dX8_put_93 : decode cX8_put 93 = .ok (.iload 4, 2) := by decide +kernel
theorem dX8_put_95 : decode cX8_put 95 = .ok (.ireturn, 1) := by decide +kernel
theorem dX8_undo_0 : decode cX8_undo 0 = .ok (.aload_n 0, 1) := by decide +kernel
theorem dX8_undo_1 : decode cX8_undo 1 = .ok (.getfield 33, 3) := by decide +kernel
theorem dX8_undo_4 : decode cX8_undo 4 = .ok (.getfield 249, 3) := by decide +kernel
theorem dX8_undo_7 : decode cX8_undo 7 = .ok (.ifCond .ne 5, 3) := by decide +kernel
theorem dX8_undo_10 : decode cX8_undo 10 = .ok (.iconst (-1), 1) := by decide +kernel
theorem dX8_undo_11 : decode cX8_undo 11 = .ok (.ireturn, 1) := by decide +kernel
theorem dX8_undo_12 : decode cX8_undo 12 = .ok (.aload_n 0, 1) := by decide +kernel
theorem dX8_undo_13 : decode cX8_undo 13 = .ok (.getfield 33, 3) := by decide +kernel
theorem dX8_undo_16 : decode cX8_undo 16 = .ok (.aload_n 0, 1) := by decide +kernel
theorem dX8_undo_17 : decode cX8_undo 17 = .ok (.getfield 58, 3) := by decide +kernel
theorem dX8_undo_20 : decode cX8_undo 20 = .ok (.invokevirtual 252, 3) := by decide +kernel
theorem dX8_undo_23 : decode cX8_undo 23 = .ok (.aload_n 0, 1) := by decide +kernel
theorem dX8_undo_24 : decode cX8_undo 24 = .ok (.iconst 1, 1) := by decide +kernel
theorem dX8_undo_25 : decode cX8_undo 25 = .ok (.putfield 65, 3) := by decide +kernel
theorem dX8_undo_28 : decode cX8_undo 28 = .ok (.aload_n 0, 1) := by decide +kernel
theorem dX8_undo_29 : decode cX8_undo 29 = .ok (.getfield 33, 3) := by decide +kernel
theorem dX8_undo_32 : decode cX8_undo 32 = .ok (.getfield 249, 3) := by decide +kernel
theorem dX8_undo_35 : decode cX8_undo 35 = .ok (.ireturn, 1) := by decide +kernel
theorem qw_251 : (Cond.code yX1_hasPiece cX1_hasPiece 2 (some .boolean) : Cond) ∈ TBL := List.mem_of_getElem? (i := 552) (by decide +kernel)
theorem qw_252 : (Cond.instanceMethod yX1_hasPiece : Cond) ∈ TBL := List.mem_of_getElem? (i := 550) (by decide +kernel)
theorem qw_253 : (Cond.selects RX1 yX1_hasPiece yX1_hasPiece : Cond) ∈ TBL := List.mem_of_getElem? (i := 551) (by decide +kernel)
theorem qw_254 : (Cond.code yX1_hasPerson cX1_hasPerson 2 (some .boolean) : Cond) ∈ TBL := List.mem_of_getElem? (i := 613) (by decide +kernel)
theorem qw_255 : (Cond.instanceMethod yX1_hasPerson : Cond) ∈ TBL := List.mem_of_getElem? (i := 611) (by decide +kernel)
theorem qw_256 : (Cond.selects RX1 yX1_hasPerson yX1_hasPerson : Cond) ∈ TBL := List.mem_of_getElem? (i := 612) (by decide +kernel)
theorem qw_257 : (Cond.code yX1_hasClosure cX1_hasClosure 2 (some .boolean) : Cond) ∈ TBL := List.mem_of_getElem? (i := 635) (by decide +kernel)
theorem qw_258 : (Cond.instanceMethod yX1_hasClosure : Cond) ∈ TBL := List.mem_of_getElem? (i := 633) (by decide +kernel)
theorem qw_259 : (Cond.selects RX1 yX1_hasClosure yX1_hasClosure : Cond) ∈ TBL := List.mem_of_getElem? (i := 634) (by decide +kernel)
set_option maxHeartbeats 4000000 in
set_option maxRecDepth 100000 in
theorem c_8piece (l : Launch) (dC : Nat → ClassId) (dI : Nat → Nat → Nat) (g : Gv) (x0 : Nat) (b : Nat → Nat) (f4 : Nat → Nat) (c4 : ClassId) (f5 : Nat → Nat) (f7 : Nat → Nat) (f6 : Nat → Nat) (f2 : Nat → Nat) (cK : ClassId) (kf : Nat → Option Nat) (cZ : ClassId) (fT : Nat → Nat) (fU : Nat → Nat) (sa : Nat → Nat) (sf : Nat → Nat → Nat) (sc : Nat → Nat → ClassId) (spf : Nat → Nat → Int32) (sdf : Nat → Nat → Int32) (slf : Nat → Nat → Int32) (srf : Nat → Nat → Int32) (sga : Nat → Nat → Option Nat) (sgb : Nat → Nat → Option Nat) (rows : va_W) (pa : Int32) (pb : Int32)  : Met l yX8_piece (.code yX8_piece cX8_piece 3 (some .int) :: TBL) ({ frames := 1, cells := 0, slots := 0, locals := 40 }) (va_Pc [.ref x0, .int pa, .int pb] (fun U => va_P (dC, dI) vwCl [(x0, .inr (7, [.ref (b 0), .ref (b 1), .ref (b 2), .ref (b 3), .ref (b 4), .ref (b 5), .ref (b 6), .ref (b 7), .ref (b 8), .ref (b 9), .int 1])), ((b 6), .inr (0, [.int 0, .ref (fT 1), .int 0, .ref (fT 3), .int 0, .ref (fT 5), .ref (fT 6), .ref (fT 7), .int 0, .ref (fT 9), .ref (fT 10), .ref (fT 11), .ref (fT 12), .ref (fT 13)]))] U.heap ∧ va_K (dC, dI) vwCl [] U ∧ Ev g (fun _ => False) U)) (vp_Si (fun r => r = (-2))) 0 0 (fun _ => False) := by
  refine Met.ofW (cc := cX8_piece) (maxL := 3) (ret := (some .int)) (by decide) rfl ?_
  intro p e s m args below meth c s₁ B hml hv
  obtain ⟨rfl, hP, hK, hE⟩ := hv
  have hx := B.exec
  have hb := B.bytes
  have hr := B.returns
  have hts0 := atoms_spec (ws := (.code yX8_piece cX8_piece 3 (some .int) :: TBL)) B.pre
  have hts := fun (w : Cond) (h : w ∈ TBL) => hts0 w (List.mem_cons_of_mem _ h)
  have hown : s.vm.findClass RX8 = some m.cls := findClass_of_methodNamed B.named
  have hlocks := B.notSynchronized
  have hN := hE.1
  have hS : va_S (fun _ => False) s.heap s.heap [] := va_S.rf
  have hP : va_P (dC, dI) vwCl [(x0, .inr (7, [.ref (b 0), .ref (b 1), .ref (b 2), .ref (b 3), .ref (b 4), .ref (b 5), .ref (b 6), .ref (b 7), .ref (b 8), .ref (b 9), .int 1])), ((b 6), .inr (0, [.int 0, .ref (fT 1), .int 0, .ref (fT 3), .int 0, .ref (fT 5), .ref (fT 6), .ref (fT 7), .int 0, .ref (fT 9), .ref (fT 10), .ref (fT 11), .ref (fT 12), .ref (fT 13)]))] s.heap := hP
  have hl := lv_entry ([.ref x0, .int pa, .int pb]) (n := 3) (Nat.le_of_ble_eq_true rfl)
  rw [lg_entry_eq]
  generalize (lg_sl ([.ref x0, .int pa, .int pb]) ++ List.replicate (3 - (lg_sl ([.ref x0, .int pa, .int pb])).length) Slot.unset).toArray = ls at hl ⊢
  have hl : lv_has ls 3 [(0, .ref x0), (1, .int pa), (2, .int pb)] := hl
  refine lv_aload_n hx hb dX8_piece_0 rfl (lv_at hl 0 rfl) ?_
  refine va_get (D := (dC, dI)) (ci := 7) (v := .ref (b 6)) (C := RX8) (T := TX8) (N := 11) hx hb hts inlX8 hown hK hP 0 rfl rfl 6 (by decide) (hts (.fieldLink RX8 51 "ClosedUntil" "told" "LClosedUntil$Holdings;") qw_205) (fun _ h9 => h9) rfl dX8_piece_1 ?_
  refine lv_iload_n hx hb dX8_piece_4 rfl (lv_at hl 1 rfl) ?_
  have hPc := hP.sub (ws' := [((b 6), .inr (0, [.int 0, .ref (fT 1), .int 0, .ref (fT 3), .int 0, .ref (fT 5), .ref (fT 6), .ref (fT 7), .int 0, .ref (fT 9), .ref (fT 10), .ref (fT 11), .ref (fT 12), .ref (fT 13)]))]) [1] rfl
  have hKc := hK.sub (tys' := []) [] rfl
  refine vp_callSi ((va_runVN (As := [.int pa]) (rest := []) ⟨hx, hb, hml, hown, hts⟩ (c_hPi l dC dI g ((b 6)) (fT) (pa) ) ⟨va_cnB 1 hts (gwC qw_251) rfl rfl rfl (nm_25 hN) (hts (.initialized RX1) qw_202) (by decide +kernel) ⟨Nat.le_of_ble_eq_true rfl, Nat.le_of_ble_eq_true rfl⟩, (hts (.instanceMethod yX1_hasPiece) qw_252), (hts (.selects RX1 yX1_hasPiece yX1_hasPiece) qw_253)⟩ ⟨fun a U g9 mk q => ⟨q.1, q.2.1, va_K.moved (u := U) (U := U.calling g9 mk a) (Vm.Alike.refl U.vm) q.2.2.1, Ev.bl q.2.2.2⟩, va_recv hK hP (ci := 0) (q0 := 1) rfl rfl, fun U hU hW => ⟨rfl, by rw [hU]; exact hPc, va_K.moved hW.alike hKc, hE.go hS (fun _ h => h.elim) hU hW⟩⟩ rfl rfl hl.1 rfl (lv_room (Nat.le_of_ble_eq_true rfl)) dX8_piece_5 ⟨Nat.le_of_ble_eq_true rfl, Nat.le_of_ble_eq_true rfl⟩)).run (fun r1 h_r1 => ?_)
  have h_r1 : r1 = 0 := h_r1
  subst h_r1
  refine lv_if_ne (tgt := 14) hx hb dX8_piece_8 (by decide) (fun c8_2 => by exfalso; exact absurd c8_2 (by decide)) (fun c8_2 => ?_)
  refine lv_bipush (v := (-2)) hx hb dX8_piece_11 (by decide) ?_
  exact W.iret (v := (-2)) hx hb hr (fun t ht hW => ⟨(-2), rfl, (rfl), ht⟩) (fun _ h => absurd h List.not_mem_nil) dX8_piece_13
set_option maxHeartbeats 4000000 in
set_option maxRecDepth 100000 in
theorem c_8person (l : Launch) (dC : Nat → ClassId) (dI : Nat → Nat → Nat) (g : Gv) (x0 : Nat) (b : Nat → Nat) (f4 : Nat → Nat) (c4 : ClassId) (f5 : Nat → Nat) (f7 : Nat → Nat) (f6 : Nat → Nat) (f2 : Nat → Nat) (cK : ClassId) (kf : Nat → Option Nat) (cZ : ClassId) (fT : Nat → Nat) (fU : Nat → Nat) (sa : Nat → Nat) (sf : Nat → Nat → Nat) (sc : Nat → Nat → ClassId) (spf : Nat → Nat → Int32) (sdf : Nat → Nat → Int32) (slf : Nat → Nat → Int32) (srf : Nat → Nat → Int32) (sga : Nat → Nat → Option Nat) (sgb : Nat → Nat → Option Nat) (rows : va_W) (pa : Int32) (pb : Int32)  : Met l yX8_person (.code yX8_person cX8_person 3 (some .int) :: TBL) ({ frames := 1, cells := 0, slots := 0, locals := 40 }) (va_Pc [.ref x0, .int pa, .int pb] (fun U => va_P (dC, dI) vwCl [(x0, .inr (7, [.ref (b 0), .ref (b 1), .ref (b 2), .ref (b 3), .ref (b 4), .ref (b 5), .ref (b 6), .ref (b 7), .ref (b 8), .ref (b 9), .int 1])), ((b 6), .inr (0, [.int 0, .ref (fT 1), .int 0, .ref (fT 3), .int 0, .ref (fT 5), .ref (fT 6), .ref (fT 7), .int 0, .ref (fT 9), .ref (fT 10), .ref (fT 11), .ref (fT 12), .ref (fT 13)]))] U.heap ∧ va_K (dC, dI) vwCl [] U ∧ Ev g (fun _ => False) U)) (vp_Si (fun r => r = (-2))) 0 0 (fun _ => False) := by
  refine Met.ofW (cc := cX8_person) (maxL := 3) (ret := (some .int)) (by decide) rfl ?_
  intro p e s m args below meth c s₁ B hml hv
  obtain ⟨rfl, hP, hK, hE⟩ := hv
  have hx := B.exec
  have hb := B.bytes
  have hr := B.returns
  have hts0 := atoms_spec (ws := (.code yX8_person cX8_person 3 (some .int) :: TBL)) B.pre
  have hts := fun (w : Cond) (h : w ∈ TBL) => hts0 w (List.mem_cons_of_mem _ h)
  have hown : s.vm.findClass RX8 = some m.cls := findClass_of_methodNamed B.named
  have hlocks := B.notSynchronized
  have hN := hE.1
  have hS : va_S (fun _ => False) s.heap s.heap [] := va_S.rf
  have hP : va_P (dC, dI) vwCl [(x0, .inr (7, [.ref (b 0), .ref (b 1), .ref (b 2), .ref (b 3), .ref (b 4), .ref (b 5), .ref (b 6), .ref (b 7), .ref (b 8), .ref (b 9), .int 1])), ((b 6), .inr (0, [.int 0, .ref (fT 1), .int 0, .ref (fT 3), .int 0, .ref (fT 5), .ref (fT 6), .ref (fT 7), .int 0, .ref (fT 9), .ref (fT 10), .ref (fT 11), .ref (fT 12), .ref (fT 13)]))] s.heap := hP
  have hl := lv_entry ([.ref x0, .int pa, .int pb]) (n := 3) (Nat.le_of_ble_eq_true rfl)
  rw [lg_entry_eq]
  generalize (lg_sl ([.ref x0, .int pa, .int pb]) ++ List.replicate (3 - (lg_sl ([.ref x0, .int pa, .int pb])).length) Slot.unset).toArray = ls at hl ⊢
  have hl : lv_has ls 3 [(0, .ref x0), (1, .int pa), (2, .int pb)] := hl
  refine lv_aload_n hx hb dX8_person_0 rfl (lv_at hl 0 rfl) ?_
  refine va_get (D := (dC, dI)) (ci := 7) (v := .ref (b 6)) (C := RX8) (T := TX8) (N := 11) hx hb hts inlX8 hown hK hP 0 rfl rfl 6 (by decide) (hts (.fieldLink RX8 51 "ClosedUntil" "told" "LClosedUntil$Holdings;") qw_205) (fun _ h9 => h9) rfl dX8_person_1 ?_
  refine lv_iload_n hx hb dX8_person_4 rfl (lv_at hl 1 rfl) ?_
  have hPc := hP.sub (ws' := [((b 6), .inr (0, [.int 0, .ref (fT 1), .int 0, .ref (fT 3), .int 0, .ref (fT 5), .ref (fT 6), .ref (fT 7), .int 0, .ref (fT 9), .ref (fT 10), .ref (fT 11), .ref (fT 12), .ref (fT 13)]))]) [1] rfl
  have hKc := hK.sub (tys' := []) [] rfl
  refine vp_callSi ((va_runVN (As := [.int pa]) (rest := []) ⟨hx, hb, hml, hown, hts⟩ (c_hPe l dC dI g ((b 6)) (fT) (pa) ) ⟨va_cnB 1 hts (gwC qw_254) rfl rfl rfl (nm_31 hN) (hts (.initialized RX1) qw_202) (by decide +kernel) ⟨Nat.le_of_ble_eq_true rfl, Nat.le_of_ble_eq_true rfl⟩, (hts (.instanceMethod yX1_hasPerson) qw_255), (hts (.selects RX1 yX1_hasPerson yX1_hasPerson) qw_256)⟩ ⟨fun a U g9 mk q => ⟨q.1, q.2.1, va_K.moved (u := U) (U := U.calling g9 mk a) (Vm.Alike.refl U.vm) q.2.2.1, Ev.bl q.2.2.2⟩, va_recv hK hP (ci := 0) (q0 := 1) rfl rfl, fun U hU hW => ⟨rfl, by rw [hU]; exact hPc, va_K.moved hW.alike hKc, hE.go hS (fun _ h => h.elim) hU hW⟩⟩ rfl rfl hl.1 rfl (lv_room (Nat.le_of_ble_eq_true rfl)) dX8_person_5 ⟨Nat.le_of_ble_eq_true rfl, Nat.le_of_ble_eq_true rfl⟩)).run (fun r1 h_r1 => ?_)
  have h_r1 : r1 = 0 := h_r1
  subst h_r1
  refine lv_if_ne (tgt := 14) hx hb dX8_person_8 (by decide) (fun c8_2 => by exfalso; exact absurd c8_2 (by decide)) (fun c8_2 => ?_)
  refine lv_bipush (v := (-2)) hx hb dX8_person_11 (by decide) ?_
  exact W.iret (v := (-2)) hx hb hr (fun t ht hW => ⟨(-2), rfl, (rfl), ht⟩) (fun _ h => absurd h List.not_mem_nil) dX8_person_13
set_option maxHeartbeats 4000000 in
set_option maxRecDepth 100000 in
theorem c_8closure (l : Launch) (dC : Nat → ClassId) (dI : Nat → Nat → Nat) (g : Gv) (x0 : Nat) (b : Nat → Nat) (f4 : Nat → Nat) (c4 : ClassId) (f5 : Nat → Nat) (f7 : Nat → Nat) (f6 : Nat → Nat) (f2 : Nat → Nat) (cK : ClassId) (kf : Nat → Option Nat) (cZ : ClassId) (fT : Nat → Nat) (fU : Nat → Nat) (sa : Nat → Nat) (sf : Nat → Nat → Nat) (sc : Nat → Nat → ClassId) (spf : Nat → Nat → Int32) (sdf : Nat → Nat → Int32) (slf : Nat → Nat → Int32) (srf : Nat → Nat → Int32) (sga : Nat → Nat → Option Nat) (sgb : Nat → Nat → Option Nat) (rows : va_W) (pa : Int32) (pb : Int32)  : Met l yX8_closure (.code yX8_closure cX8_closure 3 (some .int) :: TBL) ({ frames := 1, cells := 0, slots := 0, locals := 40 }) (va_Pc [.ref x0, .int pa, .int pb] (fun U => va_P (dC, dI) vwCl [(x0, .inr (7, [.ref (b 0), .ref (b 1), .ref (b 2), .ref (b 3), .ref (b 4), .ref (b 5), .ref (b 6), .ref (b 7), .ref (b 8), .ref (b 9), .int 1])), ((b 6), .inr (0, [.int 0, .ref (fT 1), .int 0, .ref (fT 3), .int 0, .ref (fT 5), .ref (fT 6), .ref (fT 7), .int 0, .ref (fT 9), .ref (fT 10), .ref (fT 11), .ref (fT 12), .ref (fT 13)]))] U.heap ∧ va_K (dC, dI) vwCl [] U ∧ Ev g (fun _ => False) U)) (vp_Si (fun r => r = (-2))) 0 0 (fun _ => False) := by
  refine Met.ofW (cc := cX8_closure) (maxL := 3) (ret := (some .int)) (by decide) rfl ?_
  intro p e s m args below meth c s₁ B hml hv
  obtain ⟨rfl, hP, hK, hE⟩ := hv
  have hx := B.exec
  have hb := B.bytes
  have hr := B.returns
  have hts0 := atoms_spec (ws := (.code yX8_closure cX8_closure 3 (some .int) :: TBL)) B.pre
  have hts := fun (w : Cond) (h : w ∈ TBL) => hts0 w (List.mem_cons_of_mem _ h)
  have hown : s.vm.findClass RX8 = some m.cls := findClass_of_methodNamed B.named
  have hlocks := B.notSynchronized
  have hN := hE.1
  have hS : va_S (fun _ => False) s.heap s.heap [] := va_S.rf
  have hP : va_P (dC, dI) vwCl [(x0, .inr (7, [.ref (b 0), .ref (b 1), .ref (b 2), .ref (b 3), .ref (b 4), .ref (b 5), .ref (b 6), .ref (b 7), .ref (b 8), .ref (b 9), .int 1])), ((b 6), .inr (0, [.int 0, .ref (fT 1), .int 0, .ref (fT 3), .int 0, .ref (fT 5), .ref (fT 6), .ref (fT 7), .int 0, .ref (fT 9), .ref (fT 10), .ref (fT 11), .ref (fT 12), .ref (fT 13)]))] s.heap := hP
  have hl := lv_entry ([.ref x0, .int pa, .int pb]) (n := 3) (Nat.le_of_ble_eq_true rfl)
  rw [lg_entry_eq]
  generalize (lg_sl ([.ref x0, .int pa, .int pb]) ++ List.replicate (3 - (lg_sl ([.ref x0, .int pa, .int pb])).length) Slot.unset).toArray = ls at hl ⊢
  have hl : lv_has ls 3 [(0, .ref x0), (1, .int pa), (2, .int pb)] := hl
  refine lv_aload_n hx hb dX8_closure_0 rfl (lv_at hl 0 rfl) ?_
  refine va_get (D := (dC, dI)) (ci := 7) (v := .ref (b 6)) (C := RX8) (T := TX8) (N := 11) hx hb hts inlX8 hown hK hP 0 rfl rfl 6 (by decide) (hts (.fieldLink RX8 51 "ClosedUntil" "told" "LClosedUntil$Holdings;") qw_205) (fun _ h9 => h9) rfl dX8_closure_1 ?_
  refine lv_iload_n hx hb dX8_closure_4 rfl (lv_at hl 1 rfl) ?_
  have hPc := hP.sub (ws' := [((b 6), .inr (0, [.int 0, .ref (fT 1), .int 0, .ref (fT 3), .int 0, .ref (fT 5), .ref (fT 6), .ref (fT 7), .int 0, .ref (fT 9), .ref (fT 10), .ref (fT 11), .ref (fT 12), .ref (fT 13)]))]) [1] rfl
  have hKc := hK.sub (tys' := []) [] rfl
  refine vp_callSi ((va_runVN (As := [.int pa]) (rest := []) ⟨hx, hb, hml, hown, hts⟩ (c_hCl l dC dI g ((b 6)) (fT) (pa) ) ⟨va_cnB 1 hts (gwC qw_257) rfl rfl rfl (nm_33 hN) (hts (.initialized RX1) qw_202) (by decide +kernel) ⟨Nat.le_of_ble_eq_true rfl, Nat.le_of_ble_eq_true rfl⟩, (hts (.instanceMethod yX1_hasClosure) qw_258), (hts (.selects RX1 yX1_hasClosure yX1_hasClosure) qw_259)⟩ ⟨fun a U g9 mk q => ⟨q.1, q.2.1, va_K.moved (u := U) (U := U.calling g9 mk a) (Vm.Alike.refl U.vm) q.2.2.1, Ev.bl q.2.2.2⟩, va_recv hK hP (ci := 0) (q0 := 1) rfl rfl, fun U hU hW => ⟨rfl, by rw [hU]; exact hPc, va_K.moved hW.alike hKc, hE.go hS (fun _ h => h.elim) hU hW⟩⟩ rfl rfl hl.1 rfl (lv_room (Nat.le_of_ble_eq_true rfl)) dX8_closure_5 ⟨Nat.le_of_ble_eq_true rfl, Nat.le_of_ble_eq_true rfl⟩)).run (fun r1 h_r1 => ?_)
  have h_r1 : r1 = 0 := h_r1
  subst h_r1
  refine lv_if_ne (tgt := 14) hx hb dX8_closure_8 (by decide) (fun c8_2 => by exfalso; exact absurd c8_2 (by decide)) (fun c8_2 => ?_)
  refine lv_bipush (v := (-2)) hx hb dX8_closure_11 (by decide) ?_
  exact W.iret (v := (-2)) hx hb hr (fun t ht hW => ⟨(-2), rfl, (rfl), ht⟩) (fun _ h => absurd h List.not_mem_nil) dX8_closure_13
set_option maxHeartbeats 4000000 in
set_option maxRecDepth 100000 in
theorem c_8term (l : Launch) (dC : Nat → ClassId) (dI : Nat → Nat → Nat) (g : Gv) (x0 : Nat) (b : Nat → Nat) (f4 : Nat → Nat) (c4 : ClassId) (f5 : Nat → Nat) (f7 : Nat → Nat) (f6 : Nat → Nat) (f2 : Nat → Nat) (cK : ClassId) (kf : Nat → Option Nat) (cZ : ClassId) (fT : Nat → Nat) (fU : Nat → Nat) (sa : Nat → Nat) (sf : Nat → Nat → Nat) (sc : Nat → Nat → ClassId) (spf : Nat → Nat → Int32) (sdf : Nat → Nat → Int32) (slf : Nat → Nat → Int32) (srf : Nat → Nat → Int32) (sga : Nat → Nat → Option Nat) (sgb : Nat → Nat → Option Nat) (rows : va_W) (pa : Int32) (pb : Int32)  : Met l yX8_term (.code yX8_term cX8_term 3 (some .int) :: TBL) ({ frames := 1, cells := 0, slots := 0, locals := 40 }) (va_Pc [.ref x0, .int pa, .int pb] (fun U => va_P (dC, dI) vwCl [(x0, .inr (7, [.ref (b 0), .ref (b 1), .ref (b 2), .ref (b 3), .ref (b 4), .ref (b 5), .ref (b 6), .ref (b 7), .ref (b 8), .ref (b 9), .int 1])), ((b 6), .inr (0, [.int 0, .ref (fT 1), .int 0, .ref (fT 3), .int 0, .ref (fT 5), .ref (fT 6), .ref (fT 7), .int 0, .ref (fT 9), .ref (fT 10), .ref (fT 11), .ref (fT 12), .ref (fT 13)]))] U.heap ∧ va_K (dC, dI) vwCl [] U ∧ Ev g (fun _ => False) U)) (vp_Si (fun r => r = (-1))) 0 0 (fun _ => False) := by
  refine Met.ofW (cc := cX8_term) (maxL := 3) (ret := (some .int)) (by decide) rfl ?_
  intro p e s m args below meth c s₁ B hml hv
  obtain ⟨rfl, hP, hK, hE⟩ := hv
  have hx := B.exec
  have hb := B.bytes
  have hr := B.returns
  have hts0 := atoms_spec (ws := (.code yX8_term cX8_term 3 (some .int) :: TBL)) B.pre
  have hts := fun (w : Cond) (h : w ∈ TBL) => hts0 w (List.mem_cons_of_mem _ h)
  have hown : s.vm.findClass RX8 = some m.cls := findClass_of_methodNamed B.named
  have hlocks := B.notSynchronized
  have hN := hE.1
  have hS : va_S (fun _ => False) s.heap s.heap [] := va_S.rf
  have hP : va_P (dC, dI) vwCl [(x0, .inr (7, [.ref (b 0), .ref (b 1), .ref (b 2), .ref (b 3), .ref (b 4), .ref (b 5), .ref (b 6), .ref (b 7), .ref (b 8), .ref (b 9), .int 1])), ((b 6), .inr (0, [.int 0, .ref (fT 1), .int 0, .ref (fT 3), .int 0, .ref (fT 5), .ref (fT 6), .ref (fT 7), .int 0, .ref (fT 9), .ref (fT 10), .ref (fT 11), .ref (fT 12), .ref (fT 13)]))] s.heap := hP
  have hl := lv_entry ([.ref x0, .int pa, .int pb]) (n := 3) (Nat.le_of_ble_eq_true rfl)
  rw [lg_entry_eq]
  generalize (lg_sl ([.ref x0, .int pa, .int pb]) ++ List.replicate (3 - (lg_sl ([.ref x0, .int pa, .int pb])).length) Slot.unset).toArray = ls at hl ⊢
  have hl : lv_has ls 3 [(0, .ref x0), (1, .int pa), (2, .int pb)] := hl
  refine lv_aload_n hx hb dX8_term_0 rfl (lv_at hl 0 rfl) ?_
  refine va_get (D := (dC, dI)) (ci := 7) (v := .ref (b 6)) (C := RX8) (T := TX8) (N := 11) hx hb hts inlX8 hown hK hP 0 rfl rfl 6 (by decide) (hts (.fieldLink RX8 51 "ClosedUntil" "told" "LClosedUntil$Holdings;") qw_205) (fun _ h9 => h9) rfl dX8_term_1 ?_
  refine lv_iload_n hx hb dX8_term_4 rfl (lv_at hl 1 rfl) ?_
  have hPc := hP.sub (ws' := [((b 6), .inr (0, [.int 0, .ref (fT 1), .int 0, .ref (fT 3), .int 0, .ref (fT 5), .ref (fT 6), .ref (fT 7), .int 0, .ref (fT 9), .ref (fT 10), .ref (fT 11), .ref (fT 12), .ref (fT 13)]))]) [1] rfl
  have hKc := hK.sub (tys' := []) [] rfl
  refine vp_callSi ((va_runVN (As := [.int pa]) (rest := []) ⟨hx, hb, hml, hown, hts⟩ (c_hCl l dC dI g ((b 6)) (fT) (pa) ) ⟨va_cnB 1 hts (gwC qw_257) rfl rfl rfl (nm_33 hN) (hts (.initialized RX1) qw_202) (by decide +kernel) ⟨Nat.le_of_ble_eq_true rfl, Nat.le_of_ble_eq_true rfl⟩, (hts (.instanceMethod yX1_hasClosure) qw_258), (hts (.selects RX1 yX1_hasClosure yX1_hasClosure) qw_259)⟩ ⟨fun a U g9 mk q => ⟨q.1, q.2.1, va_K.moved (u := U) (U := U.calling g9 mk a) (Vm.Alike.refl U.vm) q.2.2.1, Ev.bl q.2.2.2⟩, va_recv hK hP (ci := 0) (q0 := 1) rfl rfl, fun U hU hW => ⟨rfl, by rw [hU]; exact hPc, va_K.moved hW.alike hKc, hE.go hS (fun _ h => h.elim) hU hW⟩⟩ rfl rfl hl.1 rfl (lv_room (Nat.le_of_ble_eq_true rfl)) dX8_term_5 ⟨Nat.le_of_ble_eq_true rfl, Nat.le_of_ble_eq_true rfl⟩)).run (fun r1 h_r1 => ?_)
  have h_r1 : r1 = 0 := h_r1
  subst h_r1
  refine lv_if_eq (tgt := 22) hx hb dX8_term_8 (by decide) (fun c8_2 => ?_) (fun c8_2 => by exfalso; exact absurd c8_2 (by decide))
  refine lv_iconst (v := (-1)) hx hb dX8_term_22 (by decide) ?_
  exact W.iret (v := (-1)) hx hb hr (fun t ht hW => ⟨(-1), rfl, (rfl), ht⟩) (fun _ h => absurd h List.not_mem_nil) dX8_term_23
set_option maxHeartbeats 4000000 in
set_option maxRecDepth 100000 in
theorem c_8ends (l : Launch) (dC : Nat → ClassId) (dI : Nat → Nat → Nat) (g : Gv) (x0 : Nat) (b : Nat → Nat) (f4 : Nat → Nat) (c4 : ClassId) (f5 : Nat → Nat) (f7 : Nat → Nat) (f6 : Nat → Nat) (f2 : Nat → Nat) (cK : ClassId) (kf : Nat → Option Nat) (cZ : ClassId) (fT : Nat → Nat) (fU : Nat → Nat) (sa : Nat → Nat) (sf : Nat → Nat → Nat) (sc : Nat → Nat → ClassId) (spf : Nat → Nat → Int32) (sdf : Nat → Nat → Int32) (slf : Nat → Nat → Int32) (srf : Nat → Nat → Int32) (sga : Nat → Nat → Option Nat) (sgb : Nat → Nat → Option Nat) (rows : va_W) (pa : Int32) (pb : Int32)  : Met l yX8_ends (.code yX8_ends cX8_ends 3 (some .int) :: TBL) ({ frames := 1, cells := 0, slots := 0, locals := 40 }) (va_Pc [.ref x0, .int pa, .int pb] (fun U => va_P (dC, dI) vwCl [(x0, .inr (7, [.ref (b 0), .ref (b 1), .ref (b 2), .ref (b 3), .ref (b 4), .ref (b 5), .ref (b 6), .ref (b 7), .ref (b 8), .ref (b 9), .int 1])), ((b 6), .inr (0, [.int 0, .ref (fT 1), .int 0, .ref (fT 3), .int 0, .ref (fT 5), .ref (fT 6), .ref (fT 7), .int 0, .ref (fT 9), .ref (fT 10), .ref (fT 11), .ref (fT 12), .ref (fT 13)]))] U.heap ∧ va_K (dC, dI) vwCl [] U ∧ Ev g (fun _ => False) U)) (vp_Si (fun r => r = (-1))) 0 0 (fun _ => False) := by
  refine Met.ofW (cc := cX8_ends) (maxL := 3) (ret := (some .int)) (by decide) rfl ?_
  intro p e s m args below meth c s₁ B hml hv
  obtain ⟨rfl, hP, hK, hE⟩ := hv
  have hx := B.exec
  have hb := B.bytes
  have hr := B.returns
  have hts0 := atoms_spec (ws := (.code yX8_ends cX8_ends 3 (some .int) :: TBL)) B.pre
  have hts := fun (w : Cond) (h : w ∈ TBL) => hts0 w (List.mem_cons_of_mem _ h)
  have hown : s.vm.findClass RX8 = some m.cls := findClass_of_methodNamed B.named
  have hlocks := B.notSynchronized
  have hN := hE.1
  have hS : va_S (fun _ => False) s.heap s.heap [] := va_S.rf
  have hP : va_P (dC, dI) vwCl [(x0, .inr (7, [.ref (b 0), .ref (b 1), .ref (b 2), .ref (b 3), .ref (b 4), .ref (b 5), .ref (b 6), .ref (b 7), .ref (b 8), .ref (b 9), .int 1])), ((b 6), .inr (0, [.int 0, .ref (fT 1), .int 0, .ref (fT 3), .int 0, .ref (fT 5), .ref (fT 6), .ref (fT 7), .int 0, .ref (fT 9), .ref (fT 10), .ref (fT 11), .ref (fT 12), .ref (fT 13)]))] s.heap := hP
  have hl := lv_entry ([.ref x0, .int pa, .int pb]) (n := 3) (Nat.le_of_ble_eq_true rfl)
  rw [lg_entry_eq]
  generalize (lg_sl ([.ref x0, .int pa, .int pb]) ++ List.replicate (3 - (lg_sl ([.ref x0, .int pa, .int pb])).length) Slot.unset).toArray = ls at hl ⊢
  have hl : lv_has ls 3 [(0, .ref x0), (1, .int pa), (2, .int pb)] := hl
  refine lv_aload_n hx hb dX8_ends_0 rfl (lv_at hl 0 rfl) ?_
  refine va_get (D := (dC, dI)) (ci := 7) (v := .ref (b 6)) (C := RX8) (T := TX8) (N := 11) hx hb hts inlX8 hown hK hP 0 rfl rfl 6 (by decide) (hts (.fieldLink RX8 51 "ClosedUntil" "told" "LClosedUntil$Holdings;") qw_205) (fun _ h9 => h9) rfl dX8_ends_1 ?_
  refine lv_iload_n hx hb dX8_ends_4 rfl (lv_at hl 1 rfl) ?_
  have hPc := hP.sub (ws' := [((b 6), .inr (0, [.int 0, .ref (fT 1), .int 0, .ref (fT 3), .int 0, .ref (fT 5), .ref (fT 6), .ref (fT 7), .int 0, .ref (fT 9), .ref (fT 10), .ref (fT 11), .ref (fT 12), .ref (fT 13)]))]) [1] rfl
  have hKc := hK.sub (tys' := []) [] rfl
  refine vp_callSi ((va_runVN (As := [.int pa]) (rest := []) ⟨hx, hb, hml, hown, hts⟩ (c_hCl l dC dI g ((b 6)) (fT) (pa) ) ⟨va_cnB 1 hts (gwC qw_257) rfl rfl rfl (nm_33 hN) (hts (.initialized RX1) qw_202) (by decide +kernel) ⟨Nat.le_of_ble_eq_true rfl, Nat.le_of_ble_eq_true rfl⟩, (hts (.instanceMethod yX1_hasClosure) qw_258), (hts (.selects RX1 yX1_hasClosure yX1_hasClosure) qw_259)⟩ ⟨fun a U g9 mk q => ⟨q.1, q.2.1, va_K.moved (u := U) (U := U.calling g9 mk a) (Vm.Alike.refl U.vm) q.2.2.1, Ev.bl q.2.2.2⟩, va_recv hK hP (ci := 0) (q0 := 1) rfl rfl, fun U hU hW => ⟨rfl, by rw [hU]; exact hPc, va_K.moved hW.alike hKc, hE.go hS (fun _ h => h.elim) hU hW⟩⟩ rfl rfl hl.1 rfl (lv_room (Nat.le_of_ble_eq_true rfl)) dX8_ends_5 ⟨Nat.le_of_ble_eq_true rfl, Nat.le_of_ble_eq_true rfl⟩)).run (fun r1 h_r1 => ?_)
  have h_r1 : r1 = 0 := h_r1
  subst h_r1
  refine lv_if_eq (tgt := 22) hx hb dX8_ends_8 (by decide) (fun c8_2 => ?_) (fun c8_2 => by exfalso; exact absurd c8_2 (by decide))
  refine lv_iconst (v := (-1)) hx hb dX8_ends_22 (by decide) ?_
  exact W.iret (v := (-1)) hx hb hr (fun t ht hW => ⟨(-1), rfl, (rfl), ht⟩) (fun _ h => absurd h List.not_mem_nil) dX8_ends_23
set_option maxHeartbeats 4000000 in
set_option maxRecDepth 100000 in
theorem c_8opens (l : Launch) (dC : Nat → ClassId) (dI : Nat → Nat → Nat) (g : Gv) (x0 : Nat) (b : Nat → Nat) (f4 : Nat → Nat) (c4 : ClassId) (f5 : Nat → Nat) (f7 : Nat → Nat) (f6 : Nat → Nat) (f2 : Nat → Nat) (cK : ClassId) (kf : Nat → Option Nat) (cZ : ClassId) (fT : Nat → Nat) (fU : Nat → Nat) (sa : Nat → Nat) (sf : Nat → Nat → Nat) (sc : Nat → Nat → ClassId) (spf : Nat → Nat → Int32) (sdf : Nat → Nat → Int32) (slf : Nat → Nat → Int32) (srf : Nat → Nat → Int32) (sga : Nat → Nat → Option Nat) (sgb : Nat → Nat → Option Nat) (rows : va_W) (pa : Int32) (pb : Int32)  : Met l yX8_opens (.code yX8_opens cX8_opens 3 (some .int) :: TBL) ({ frames := 1, cells := 0, slots := 0, locals := 40 }) (va_Pc [.ref x0, .int pa, .int pb] (fun U => va_P (dC, dI) vwCl [(x0, .inr (7, [.ref (b 0), .ref (b 1), .ref (b 2), .ref (b 3), .ref (b 4), .ref (b 5), .ref (b 6), .ref (b 7), .ref (b 8), .ref (b 9), .int 1])), ((b 6), .inr (0, [.int 0, .ref (fT 1), .int 0, .ref (fT 3), .int 0, .ref (fT 5), .ref (fT 6), .ref (fT 7), .int 0, .ref (fT 9), .ref (fT 10), .ref (fT 11), .ref (fT 12), .ref (fT 13)]))] U.heap ∧ va_K (dC, dI) vwCl [] U ∧ Ev g (fun _ => False) U)) (vp_Si (fun r => r = (-1))) 0 0 (fun _ => False) := by
  refine Met.ofW (cc := cX8_opens) (maxL := 3) (ret := (some .int)) (by decide) rfl ?_
  intro p e s m args below meth c s₁ B hml hv
  obtain ⟨rfl, hP, hK, hE⟩ := hv
  have hx := B.exec
  have hb := B.bytes
  have hr := B.returns
  have hts0 := atoms_spec (ws := (.code yX8_opens cX8_opens 3 (some .int) :: TBL)) B.pre
  have hts := fun (w : Cond) (h : w ∈ TBL) => hts0 w (List.mem_cons_of_mem _ h)
  have hown : s.vm.findClass RX8 = some m.cls := findClass_of_methodNamed B.named
  have hlocks := B.notSynchronized
  have hN := hE.1
  have hS : va_S (fun _ => False) s.heap s.heap [] := va_S.rf
  have hP : va_P (dC, dI) vwCl [(x0, .inr (7, [.ref (b 0), .ref (b 1), .ref (b 2), .ref (b 3), .ref (b 4), .ref (b 5), .ref (b 6), .ref (b 7), .ref (b 8), .ref (b 9), .int 1])), ((b 6), .inr (0, [.int 0, .ref (fT 1), .int 0, .ref (fT 3), .int 0, .ref (fT 5), .ref (fT 6), .ref (fT 7), .int 0, .ref (fT 9), .ref (fT 10), .ref (fT 11), .ref (fT 12), .ref (fT 13)]))] s.heap := hP
  have hl := lv_entry ([.ref x0, .int pa, .int pb]) (n := 3) (Nat.le_of_ble_eq_true rfl)
  rw [lg_entry_eq]
  generalize (lg_sl ([.ref x0, .int pa, .int pb]) ++ List.replicate (3 - (lg_sl ([.ref x0, .int pa, .int pb])).length) Slot.unset).toArray = ls at hl ⊢
  have hl : lv_has ls 3 [(0, .ref x0), (1, .int pa), (2, .int pb)] := hl
  refine lv_aload_n hx hb dX8_opens_0 rfl (lv_at hl 0 rfl) ?_
  refine va_get (D := (dC, dI)) (ci := 7) (v := .ref (b 6)) (C := RX8) (T := TX8) (N := 11) hx hb hts inlX8 hown hK hP 0 rfl rfl 6 (by decide) (hts (.fieldLink RX8 51 "ClosedUntil" "told" "LClosedUntil$Holdings;") qw_205) (fun _ h9 => h9) rfl dX8_opens_1 ?_
  refine lv_iload_n hx hb dX8_opens_4 rfl (lv_at hl 1 rfl) ?_
  have hPc := hP.sub (ws' := [((b 6), .inr (0, [.int 0, .ref (fT 1), .int 0, .ref (fT 3), .int 0, .ref (fT 5), .ref (fT 6), .ref (fT 7), .int 0, .ref (fT 9), .ref (fT 10), .ref (fT 11), .ref (fT 12), .ref (fT 13)]))]) [1] rfl
  have hKc := hK.sub (tys' := []) [] rfl
  refine vp_callSi ((va_runVN (As := [.int pa]) (rest := []) ⟨hx, hb, hml, hown, hts⟩ (c_hPi l dC dI g ((b 6)) (fT) (pa) ) ⟨va_cnB 1 hts (gwC qw_251) rfl rfl rfl (nm_25 hN) (hts (.initialized RX1) qw_202) (by decide +kernel) ⟨Nat.le_of_ble_eq_true rfl, Nat.le_of_ble_eq_true rfl⟩, (hts (.instanceMethod yX1_hasPiece) qw_252), (hts (.selects RX1 yX1_hasPiece yX1_hasPiece) qw_253)⟩ ⟨fun a U g9 mk q => ⟨q.1, q.2.1, va_K.moved (u := U) (U := U.calling g9 mk a) (Vm.Alike.refl U.vm) q.2.2.1, Ev.bl q.2.2.2⟩, va_recv hK hP (ci := 0) (q0 := 1) rfl rfl, fun U hU hW => ⟨rfl, by rw [hU]; exact hPc, va_K.moved hW.alike hKc, hE.go hS (fun _ h => h.elim) hU hW⟩⟩ rfl rfl hl.1 rfl (lv_room (Nat.le_of_ble_eq_true rfl)) dX8_opens_5 ⟨Nat.le_of_ble_eq_true rfl, Nat.le_of_ble_eq_true rfl⟩)).run (fun r1 h_r1 => ?_)
  have h_r1 : r1 = 0 := h_r1
  subst h_r1
  refine lv_if_eq (tgt := 18) hx hb dX8_opens_8 (by decide) (fun c8_2 => ?_) (fun c8_2 => by exfalso; exact absurd c8_2 (by decide))
  refine lv_iconst (v := (-1)) hx hb dX8_opens_18 (by decide) ?_
  exact W.iret (v := (-1)) hx hb hr (fun t ht hW => ⟨(-1), rfl, (rfl), ht⟩) (fun _ h => absurd h List.not_mem_nil) dX8_opens_19
set_option maxHeartbeats 4000000 in
set_option maxRecDepth 100000 in
theorem c_8allOf (l : Launch) (dC : Nat → ClassId) (dI : Nat → Nat → Nat) (g : Gv) (x0 : Nat) (b : Nat → Nat) (f4 : Nat → Nat) (c4 : ClassId) (f5 : Nat → Nat) (f7 : Nat → Nat) (f6 : Nat → Nat) (f2 : Nat → Nat) (cK : ClassId) (kf : Nat → Option Nat) (cZ : ClassId) (fT : Nat → Nat) (fU : Nat → Nat) (sa : Nat → Nat) (sf : Nat → Nat → Nat) (sc : Nat → Nat → ClassId) (spf : Nat → Nat → Int32) (sdf : Nat → Nat → Int32) (slf : Nat → Nat → Int32) (srf : Nat → Nat → Int32) (sga : Nat → Nat → Option Nat) (sgb : Nat → Nat → Option Nat) (rows : va_W) (pa : Int32) (pb : Int32)  : Met l yX8_allOf (.code yX8_allOf cX8_allOf 7 (some .int) :: TBL) ({ frames := 1, cells := 0, slots := 0, locals := 40 }) (va_Pc [.ref x0, .int pa, .int pb] (fun U => va_P (dC, dI) vwCl [(x0, .inr (7, [.ref (b 0), .ref (b 1), .ref (b 2), .ref (b 3), .ref (b 4), .ref (b 5), .ref (b 6), .ref (b 7), .ref (b 8), .ref (b 9), .int 1])), ((b 6), .inr (0, [.int 0, .ref (fT 1), .int 0, .ref (fT 3), .int 0, .ref (fT 5), .ref (fT 6), .ref (fT 7), .int 0, .ref (fT 9), .ref (fT 10), .ref (fT 11), .ref (fT 12), .ref (fT 13)]))] U.heap ∧ va_K (dC, dI) vwCl [] U ∧ Ev g (fun _ => False) U)) (vp_Si (fun r => r = (-1))) 0 0 (fun _ => False) := by
  refine Met.ofW (cc := cX8_allOf) (maxL := 7) (ret := (some .int)) (by decide) rfl ?_
  intro p e s m args below meth c s₁ B hml hv
  obtain ⟨rfl, hP, hK, hE⟩ := hv
  have hx := B.exec
  have hb := B.bytes
  have hr := B.returns
  have hts0 := atoms_spec (ws := (.code yX8_allOf cX8_allOf 7 (some .int) :: TBL)) B.pre
  have hts := fun (w : Cond) (h : w ∈ TBL) => hts0 w (List.mem_cons_of_mem _ h)
  have hown : s.vm.findClass RX8 = some m.cls := findClass_of_methodNamed B.named
  have hlocks := B.notSynchronized
  have hN := hE.1
  have hS : va_S (fun _ => False) s.heap s.heap [] := va_S.rf
  have hP : va_P (dC, dI) vwCl [(x0, .inr (7, [.ref (b 0), .ref (b 1), .ref (b 2), .ref (b 3), .ref (b 4), .ref (b 5), .ref (b 6), .ref (b 7), .ref (b 8), .ref (b 9), .int 1])), ((b 6), .inr (0, [.int 0, .ref (fT 1), .int 0, .ref (fT 3), .int 0, .ref (fT 5), .ref (fT 6), .ref (fT 7), .int 0, .ref (fT 9), .ref (fT 10), .ref (fT 11), .ref (fT 12), .ref (fT 13)]))] s.heap := hP
  have hl := lv_entry ([.ref x0, .int pa, .int pb]) (n := 7) (Nat.le_of_ble_eq_true rfl)
  rw [lg_entry_eq]
  generalize (lg_sl ([.ref x0, .int pa, .int pb]) ++ List.replicate (7 - (lg_sl ([.ref x0, .int pa, .int pb])).length) Slot.unset).toArray = ls at hl ⊢
  have hl : lv_has ls 7 [(0, .ref x0), (1, .int pa), (2, .int pb)] := hl
  refine lv_aload_n hx hb dX8_allOf_0 rfl (lv_at hl 0 rfl) ?_
  refine va_get (D := (dC, dI)) (ci := 7) (v := .ref (b 6)) (C := RX8) (T := TX8) (N := 11) hx hb hts inlX8 hown hK hP 0 rfl rfl 6 (by decide) (hts (.fieldLink RX8 51 "ClosedUntil" "told" "LClosedUntil$Holdings;") qw_205) (fun _ h9 => h9) rfl dX8_allOf_1 ?_
  refine lv_iload_n hx hb dX8_allOf_4 rfl (lv_at hl 1 rfl) ?_
  have hPc := hP.sub (ws' := [((b 6), .inr (0, [.int 0, .ref (fT 1), .int 0, .ref (fT 3), .int 0, .ref (fT 5), .ref (fT 6), .ref (fT 7), .int 0, .ref (fT 9), .ref (fT 10), .ref (fT 11), .ref (fT 12), .ref (fT 13)]))]) [1] rfl
  have hKc := hK.sub (tys' := []) [] rfl
  refine vp_callSi ((va_runVN (As := [.int pa]) (rest := []) ⟨hx, hb, hml, hown, hts⟩ (c_hPi l dC dI g ((b 6)) (fT) (pa) ) ⟨va_cnB 1 hts (gwC qw_251) rfl rfl rfl (nm_25 hN) (hts (.initialized RX1) qw_202) (by decide +kernel) ⟨Nat.le_of_ble_eq_true rfl, Nat.le_of_ble_eq_true rfl⟩, (hts (.instanceMethod yX1_hasPiece) qw_252), (hts (.selects RX1 yX1_hasPiece yX1_hasPiece) qw_253)⟩ ⟨fun a U g9 mk q => ⟨q.1, q.2.1, va_K.moved (u := U) (U := U.calling g9 mk a) (Vm.Alike.refl U.vm) q.2.2.1, Ev.bl q.2.2.2⟩, va_recv hK hP (ci := 0) (q0 := 1) rfl rfl, fun U hU hW => ⟨rfl, by rw [hU]; exact hPc, va_K.moved hW.alike hKc, hE.go hS (fun _ h => h.elim) hU hW⟩⟩ rfl rfl hl.1 rfl (lv_room (Nat.le_of_ble_eq_true rfl)) dX8_allOf_5 ⟨Nat.le_of_ble_eq_true rfl, Nat.le_of_ble_eq_true rfl⟩)).run (fun r1 h_r1 => ?_)
  have h_r1 : r1 = 0 := h_r1
  subst h_r1
  refine lv_if_eq (tgt := 18) hx hb dX8_allOf_8 (by decide) (fun c8_2 => ?_) (fun c8_2 => by exfalso; exact absurd c8_2 (by decide))
  refine lv_iconst (v := (-1)) hx hb dX8_allOf_18 (by decide) ?_
  exact W.iret (v := (-1)) hx hb hr (fun t ht hW => ⟨(-1), rfl, (rfl), ht⟩) (fun _ h => absurd h List.not_mem_nil) dX8_allOf_19
set_option maxHeartbeats 4000000 in
set_option maxRecDepth 100000 in
theorem c_8reason (l : Launch) (dC : Nat → ClassId) (dI : Nat → Nat → Nat) (g : Gv) (x0 : Nat) (b : Nat → Nat) (f4 : Nat → Nat) (c4 : ClassId) (f5 : Nat → Nat) (f7 : Nat → Nat) (f6 : Nat → Nat) (f2 : Nat → Nat) (cK : ClassId) (kf : Nat → Option Nat) (cZ : ClassId) (fT : Nat → Nat) (fU : Nat → Nat) (sa : Nat → Nat) (sf : Nat → Nat → Nat) (sc : Nat → Nat → ClassId) (spf : Nat → Nat → Int32) (sdf : Nat → Nat → Int32) (slf : Nat → Nat → Int32) (srf : Nat → Nat → Int32) (sga : Nat → Nat → Option Nat) (sgb : Nat → Nat → Option Nat) (rows : va_W) (pa : Int32) (pb : Int32)  : Met l yX8_reason (.code yX8_reason cX8_reason 7 (some .int) :: TBL) ({ frames := 1, cells := 0, slots := 0, locals := 40 }) (va_Pc [.ref x0, .int pa, .int pb] (fun U => va_P (dC, dI) vwCl [(x0, .inr (7, [.ref (b 0), .ref (b 1), .ref (b 2), .ref (b 3), .ref (b 4), .ref (b 5), .ref (b 6), .ref (b 7), .ref (b 8), .ref (b 9), .int 1])), ((b 6), .inr (0, [.int 0, .ref (fT 1), .int 0, .ref (fT 3), .int 0, .ref (fT 5), .ref (fT 6), .ref (fT 7), .int 0, .ref (fT 9), .ref (fT 10), .ref (fT 11), .ref (fT 12), .ref (fT 13)]))] U.heap ∧ va_K (dC, dI) vwCl [] U ∧ Ev g (fun _ => False) U)) (vp_Si (fun r => r = (-1))) 0 0 (fun _ => False) := by
  refine Met.ofW (cc := cX8_reason) (maxL := 7) (ret := (some .int)) (by decide) rfl ?_
  intro p e s m args below meth c s₁ B hml hv
  obtain ⟨rfl, hP, hK, hE⟩ := hv
  have hx := B.exec
  have hb := B.bytes
  have hr := B.returns
  have hts0 := atoms_spec (ws := (.code yX8_reason cX8_reason 7 (some .int) :: TBL)) B.pre
  have hts := fun (w : Cond) (h : w ∈ TBL) => hts0 w (List.mem_cons_of_mem _ h)
  have hown : s.vm.findClass RX8 = some m.cls := findClass_of_methodNamed B.named
  have hlocks := B.notSynchronized
  have hN := hE.1
  have hS : va_S (fun _ => False) s.heap s.heap [] := va_S.rf
  have hP : va_P (dC, dI) vwCl [(x0, .inr (7, [.ref (b 0), .ref (b 1), .ref (b 2), .ref (b 3), .ref (b 4), .ref (b 5), .ref (b 6), .ref (b 7), .ref (b 8), .ref (b 9), .int 1])), ((b 6), .inr (0, [.int 0, .ref (fT 1), .int 0, .ref (fT 3), .int 0, .ref (fT 5), .ref (fT 6), .ref (fT 7), .int 0, .ref (fT 9), .ref (fT 10), .ref (fT 11), .ref (fT 12), .ref (fT 13)]))] s.heap := hP
  have hl := lv_entry ([.ref x0, .int pa, .int pb]) (n := 7) (Nat.le_of_ble_eq_true rfl)
  rw [lg_entry_eq]
  generalize (lg_sl ([.ref x0, .int pa, .int pb]) ++ List.replicate (7 - (lg_sl ([.ref x0, .int pa, .int pb])).length) Slot.unset).toArray = ls at hl ⊢
  have hl : lv_has ls 7 [(0, .ref x0), (1, .int pa), (2, .int pb)] := hl
  refine lv_aload_n hx hb dX8_reason_0 rfl (lv_at hl 0 rfl) ?_
  refine va_get (D := (dC, dI)) (ci := 7) (v := .ref (b 6)) (C := RX8) (T := TX8) (N := 11) hx hb hts inlX8 hown hK hP 0 rfl rfl 6 (by decide) (hts (.fieldLink RX8 51 "ClosedUntil" "told" "LClosedUntil$Holdings;") qw_205) (fun _ h9 => h9) rfl dX8_reason_1 ?_
  refine lv_iload_n hx hb dX8_reason_4 rfl (lv_at hl 1 rfl) ?_
  have hPc := hP.sub (ws' := [((b 6), .inr (0, [.int 0, .ref (fT 1), .int 0, .ref (fT 3), .int 0, .ref (fT 5), .ref (fT 6), .ref (fT 7), .int 0, .ref (fT 9), .ref (fT 10), .ref (fT 11), .ref (fT 12), .ref (fT 13)]))]) [1] rfl
  have hKc := hK.sub (tys' := []) [] rfl
  refine vp_callSi ((va_runVN (As := [.int pa]) (rest := []) ⟨hx, hb, hml, hown, hts⟩ (c_hPi l dC dI g ((b 6)) (fT) (pa) ) ⟨va_cnB 1 hts (gwC qw_251) rfl rfl rfl (nm_25 hN) (hts (.initialized RX1) qw_202) (by decide +kernel) ⟨Nat.le_of_ble_eq_true rfl, Nat.le_of_ble_eq_true rfl⟩, (hts (.instanceMethod yX1_hasPiece) qw_252), (hts (.selects RX1 yX1_hasPiece yX1_hasPiece) qw_253)⟩ ⟨fun a U g9 mk q => ⟨q.1, q.2.1, va_K.moved (u := U) (U := U.calling g9 mk a) (Vm.Alike.refl U.vm) q.2.2.1, Ev.bl q.2.2.2⟩, va_recv hK hP (ci := 0) (q0 := 1) rfl rfl, fun U hU hW => ⟨rfl, by rw [hU]; exact hPc, va_K.moved hW.alike hKc, hE.go hS (fun _ h => h.elim) hU hW⟩⟩ rfl rfl hl.1 rfl (lv_room (Nat.le_of_ble_eq_true rfl)) dX8_reason_5 ⟨Nat.le_of_ble_eq_true rfl, Nat.le_of_ble_eq_true rfl⟩)).run (fun r1 h_r1 => ?_)
  have h_r1 : r1 = 0 := h_r1
  subst h_r1
  refine lv_if_eq (tgt := 18) hx hb dX8_reason_8 (by decide) (fun c8_2 => ?_) (fun c8_2 => by exfalso; exact absurd c8_2 (by decide))
  refine lv_iconst (v := (-1)) hx hb dX8_reason_18 (by decide) ?_
  exact W.iret (v := (-1)) hx hb hr (fun t ht hW => ⟨(-1), rfl, (rfl), ht⟩) (fun _ h => absurd h List.not_mem_nil) dX8_reason_19
set_option maxHeartbeats 4000000 in
set_option maxRecDepth 100000 in
theorem c_8closedBy (l : Launch) (dC : Nat → ClassId) (dI : Nat → Nat → Nat) (g : Gv) (x0 : Nat) (b : Nat → Nat) (f4 : Nat → Nat) (c4 : ClassId) (f5 : Nat → Nat) (f7 : Nat → Nat) (f6 : Nat → Nat) (f2 : Nat → Nat) (cK : ClassId) (kf : Nat → Option Nat) (cZ : ClassId) (fT : Nat → Nat) (fU : Nat → Nat) (sa : Nat → Nat) (sf : Nat → Nat → Nat) (sc : Nat → Nat → ClassId) (spf : Nat → Nat → Int32) (sdf : Nat → Nat → Int32) (slf : Nat → Nat → Int32) (srf : Nat → Nat → Int32) (sga : Nat → Nat → Option Nat) (sgb : Nat → Nat → Option Nat) (rows : va_W) (pa : Int32) (pb : Int32)  : Met l yX8_closedBy (.code yX8_closedBy cX8_closedBy 3 (some .int) :: TBL) ({ frames := 1, cells := 0, slots := 0, locals := 40 }) (va_Pc [.ref x0, .int pa, .int pb] (fun U => va_P (dC, dI) vwCl [(x0, .inr (7, [.ref (b 0), .ref (b 1), .ref (b 2), .ref (b 3), .ref (b 4), .ref (b 5), .ref (b 6), .ref (b 7), .ref (b 8), .ref (b 9), .int 1])), ((b 6), .inr (0, [.int 0, .ref (fT 1), .int 0, .ref (fT 3), .int 0, .ref (fT 5), .ref (fT 6), .ref (fT 7), .int 0, .ref (fT 9), .ref (fT 10), .ref (fT 11), .ref (fT 12), .ref (fT 13)]))] U.heap ∧ va_K (dC, dI) vwCl [] U ∧ Ev g (fun _ => False) U)) (vp_Si (fun r => r = (-1))) 0 0 (fun _ => False) := by
  refine Met.ofW (cc := cX8_closedBy) (maxL := 3) (ret := (some .int)) (by decide) rfl ?_
  intro p e s m args below meth c s₁ B hml hv
  obtain ⟨rfl, hP, hK, hE⟩ := hv
  have hx := B.exec
  have hb := B.bytes
  have hr := B.returns
  have hts0 := atoms_spec (ws := (.code yX8_closedBy cX8_closedBy 3 (some .int) :: TBL)) B.pre
  have hts := fun (w : Cond) (h : w ∈ TBL) => hts0 w (List.mem_cons_of_mem _ h)
  have hown : s.vm.findClass RX8 = some m.cls := findClass_of_methodNamed B.named
  have hlocks := B.notSynchronized
  have hN := hE.1
  have hS : va_S (fun _ => False) s.heap s.heap [] := va_S.rf
  have hP : va_P (dC, dI) vwCl [(x0, .inr (7, [.ref (b 0), .ref (b 1), .ref (b 2), .ref (b 3), .ref (b 4), .ref (b 5), .ref (b 6), .ref (b 7), .ref (b 8), .ref (b 9), .int 1])), ((b 6), .inr (0, [.int 0, .ref (fT 1), .int 0, .ref (fT 3), .int 0, .ref (fT 5), .ref (fT 6), .ref (fT 7), .int 0, .ref (fT 9), .ref (fT 10), .ref (fT 11), .ref (fT 12), .ref (fT 13)]))] s.heap := hP
  have hl := lv_entry ([.ref x0, .int pa, .int pb]) (n := 3) (Nat.le_of_ble_eq_true rfl)
  rw [lg_entry_eq]
  generalize (lg_sl ([.ref x0, .int pa, .int pb]) ++ List.replicate (3 - (lg_sl ([.ref x0, .int pa, .int pb])).length) Slot.unset).toArray = ls at hl ⊢
  have hl : lv_has ls 3 [(0, .ref x0), (1, .int pa), (2, .int pb)] := hl
  refine lv_aload_n hx hb dX8_closedBy_0 rfl (lv_at hl 0 rfl) ?_
  refine va_get (D := (dC, dI)) (ci := 7) (v := .ref (b 6)) (C := RX8) (T := TX8) (N := 11) hx hb hts inlX8 hown hK hP 0 rfl rfl 6 (by decide) (hts (.fieldLink RX8 51 "ClosedUntil" "told" "LClosedUntil$Holdings;") qw_205) (fun _ h9 => h9) rfl dX8_closedBy_1 ?_
  refine lv_iload_n hx hb dX8_closedBy_4 rfl (lv_at hl 1 rfl) ?_
  have hPc := hP.sub (ws' := [((b 6), .inr (0, [.int 0, .ref (fT 1), .int 0, .ref (fT 3), .int 0, .ref (fT 5), .ref (fT 6), .ref (fT 7), .int 0, .ref (fT 9), .ref (fT 10), .ref (fT 11), .ref (fT 12), .ref (fT 13)]))]) [1] rfl
  have hKc := hK.sub (tys' := []) [] rfl
  refine vp_callSi ((va_runVN (As := [.int pa]) (rest := []) ⟨hx, hb, hml, hown, hts⟩ (c_hPi l dC dI g ((b 6)) (fT) (pa) ) ⟨va_cnB 1 hts (gwC qw_251) rfl rfl rfl (nm_25 hN) (hts (.initialized RX1) qw_202) (by decide +kernel) ⟨Nat.le_of_ble_eq_true rfl, Nat.le_of_ble_eq_true rfl⟩, (hts (.instanceMethod yX1_hasPiece) qw_252), (hts (.selects RX1 yX1_hasPiece yX1_hasPiece) qw_253)⟩ ⟨fun a U g9 mk q => ⟨q.1, q.2.1, va_K.moved (u := U) (U := U.calling g9 mk a) (Vm.Alike.refl U.vm) q.2.2.1, Ev.bl q.2.2.2⟩, va_recv hK hP (ci := 0) (q0 := 1) rfl rfl, fun U hU hW => ⟨rfl, by rw [hU]; exact hPc, va_K.moved hW.alike hKc, hE.go hS (fun _ h => h.elim) hU hW⟩⟩ rfl rfl hl.1 rfl (lv_room (Nat.le_of_ble_eq_true rfl)) dX8_closedBy_5 ⟨Nat.le_of_ble_eq_true rfl, Nat.le_of_ble_eq_true rfl⟩)).run (fun r1 h_r1 => ?_)
  have h_r1 : r1 = 0 := h_r1
  subst h_r1
  refine lv_if_eq (tgt := 18) hx hb dX8_closedBy_8 (by decide) (fun c8_2 => ?_) (fun c8_2 => by exfalso; exact absurd c8_2 (by decide))
  refine lv_iconst (v := (-1)) hx hb dX8_closedBy_18 (by decide) ?_
  exact W.iret (v := (-1)) hx hb hr (fun t ht hW => ⟨(-1), rfl, (rfl), ht⟩) (fun _ h => absurd h List.not_mem_nil) dX8_closedBy_19
set_option maxHeartbeats 4000000 in
set_option maxRecDepth 100000 in
theorem c_8listed (l : Launch) (dC : Nat → ClassId) (dI : Nat → Nat → Nat) (g : Gv) (x0 : Nat) (b : Nat → Nat) (f4 : Nat → Nat) (c4 : ClassId) (f5 : Nat → Nat) (f7 : Nat → Nat) (f6 : Nat → Nat) (f2 : Nat → Nat) (cK : ClassId) (kf : Nat → Option Nat) (cZ : ClassId) (fT : Nat → Nat) (fU : Nat → Nat) (sa : Nat → Nat) (sf : Nat → Nat → Nat) (sc : Nat → Nat → ClassId) (spf : Nat → Nat → Int32) (sdf : Nat → Nat → Int32) (slf : Nat → Nat → Int32) (srf : Nat → Nat → Int32) (sga : Nat → Nat → Option Nat) (sgb : Nat → Nat → Option Nat) (rows : va_W) (pa : Int32) (pb : Int32)  : Met l yX8_listed (.code yX8_listed cX8_listed 3 (some .int) :: TBL) ({ frames := 1, cells := 0, slots := 0, locals := 40 }) (va_Pc [.ref x0, .int pa, .int pb] (fun U => va_P (dC, dI) vwCl [(x0, .inr (7, [.ref (b 0), .ref (b 1), .ref (b 2), .ref (b 3), .ref (b 4), .ref (b 5), .ref (b 6), .ref (b 7), .ref (b 8), .ref (b 9), .int 1])), ((b 6), .inr (0, [.int 0, .ref (fT 1), .int 0, .ref (fT 3), .int 0, .ref (fT 5), .ref (fT 6), .ref (fT 7), .int 0, .ref (fT 9), .ref (fT 10), .ref (fT 11), .ref (fT 12), .ref (fT 13)]))] U.heap ∧ va_K (dC, dI) vwCl [] U ∧ Ev g (fun _ => False) U)) (vp_Si (fun r => r = (-1))) 0 0 (fun _ => False) := by
  refine Met.ofW (cc := cX8_listed) (maxL := 3) (ret := (some .int)) (by decide) rfl ?_
  intro p e s m args below meth c s₁ B hml hv
  obtain ⟨rfl, hP, hK, hE⟩ := hv
  have hx := B.exec
  have hb := B.bytes
  have hr := B.returns
  have hts0 := atoms_spec (ws := (.code yX8_listed cX8_listed 3 (some .int) :: TBL)) B.pre
  have hts := fun (w : Cond) (h : w ∈ TBL) => hts0 w (List.mem_cons_of_mem _ h)
  have hown : s.vm.findClass RX8 = some m.cls := findClass_of_methodNamed B.named
  have hlocks := B.notSynchronized
  have hN := hE.1
  have hS : va_S (fun _ => False) s.heap s.heap [] := va_S.rf
  have hP : va_P (dC, dI) vwCl [(x0, .inr (7, [.ref (b 0), .ref (b 1), .ref (b 2), .ref (b 3), .ref (b 4), .ref (b 5), .ref (b 6), .ref (b 7), .ref (b 8), .ref (b 9), .int 1])), ((b 6), .inr (0, [.int 0, .ref (fT 1), .int 0, .ref (fT 3), .int 0, .ref (fT 5), .ref (fT 6), .ref (fT 7), .int 0, .ref (fT 9), .ref (fT 10), .ref (fT 11), .ref (fT 12), .ref (fT 13)]))] s.heap := hP
  have hl := lv_entry ([.ref x0, .int pa, .int pb]) (n := 3) (Nat.le_of_ble_eq_true rfl)
  rw [lg_entry_eq]
  generalize (lg_sl ([.ref x0, .int pa, .int pb]) ++ List.replicate (3 - (lg_sl ([.ref x0, .int pa, .int pb])).length) Slot.unset).toArray = ls at hl ⊢
  have hl : lv_has ls 3 [(0, .ref x0), (1, .int pa), (2, .int pb)] := hl
  refine lv_aload_n hx hb dX8_listed_0 rfl (lv_at hl 0 rfl) ?_
  refine va_get (D := (dC, dI)) (ci := 7) (v := .ref (b 6)) (C := RX8) (T := TX8) (N := 11) hx hb hts inlX8 hown hK hP 0 rfl rfl 6 (by decide) (hts (.fieldLink RX8 51 "ClosedUntil" "told" "LClosedUntil$Holdings;") qw_205) (fun _ h9 => h9) rfl dX8_listed_1 ?_
  refine lv_iload_n hx hb dX8_listed_4 rfl (lv_at hl 1 rfl) ?_
  have hPc := hP.sub (ws' := [((b 6), .inr (0, [.int 0, .ref (fT 1), .int 0, .ref (fT 3), .int 0, .ref (fT 5), .ref (fT 6), .ref (fT 7), .int 0, .ref (fT 9), .ref (fT 10), .ref (fT 11), .ref (fT 12), .ref (fT 13)]))]) [1] rfl
  have hKc := hK.sub (tys' := []) [] rfl
  refine vp_callSi ((va_runVN (As := [.int pa]) (rest := []) ⟨hx, hb, hml, hown, hts⟩ (c_hPi l dC dI g ((b 6)) (fT) (pa) ) ⟨va_cnB 1 hts (gwC qw_251) rfl rfl rfl (nm_25 hN) (hts (.initialized RX1) qw_202) (by decide +kernel) ⟨Nat.le_of_ble_eq_true rfl, Nat.le_of_ble_eq_true rfl⟩, (hts (.instanceMethod yX1_hasPiece) qw_252), (hts (.selects RX1 yX1_hasPiece yX1_hasPiece) qw_253)⟩ ⟨fun a U g9 mk q => ⟨q.1, q.2.1, va_K.moved (u := U) (U := U.calling g9 mk a) (Vm.Alike.refl U.vm) q.2.2.1, Ev.bl q.2.2.2⟩, va_recv hK hP (ci := 0) (q0 := 1) rfl rfl, fun U hU hW => ⟨rfl, by rw [hU]; exact hPc, va_K.moved hW.alike hKc, hE.go hS (fun _ h => h.elim) hU hW⟩⟩ rfl rfl hl.1 rfl (lv_room (Nat.le_of_ble_eq_true rfl)) dX8_listed_5 ⟨Nat.le_of_ble_eq_true rfl, Nat.le_of_ble_eq_true rfl⟩)).run (fun r1 h_r1 => ?_)
  have h_r1 : r1 = 0 := h_r1
  subst h_r1
  refine lv_if_eq (tgt := 18) hx hb dX8_listed_8 (by decide) (fun c8_2 => ?_) (fun c8_2 => by exfalso; exact absurd c8_2 (by decide))
  refine lv_iconst (v := (-1)) hx hb dX8_listed_18 (by decide) ?_
  exact W.iret (v := (-1)) hx hb hr (fun t ht hW => ⟨(-1), rfl, (rfl), ht⟩) (fun _ h => absurd h List.not_mem_nil) dX8_listed_19
set_option maxHeartbeats 4000000 in
set_option maxRecDepth 100000 in
theorem c_8mustGo (l : Launch) (dC : Nat → ClassId) (dI : Nat → Nat → Nat) (g : Gv) (x0 : Nat) (b : Nat → Nat) (f4 : Nat → Nat) (c4 : ClassId) (f5 : Nat → Nat) (f7 : Nat → Nat) (f6 : Nat → Nat) (f2 : Nat → Nat) (cK : ClassId) (kf : Nat → Option Nat) (cZ : ClassId) (fT : Nat → Nat) (fU : Nat → Nat) (sa : Nat → Nat) (sf : Nat → Nat → Nat) (sc : Nat → Nat → ClassId) (spf : Nat → Nat → Int32) (sdf : Nat → Nat → Int32) (slf : Nat → Nat → Int32) (srf : Nat → Nat → Int32) (sga : Nat → Nat → Option Nat) (sgb : Nat → Nat → Option Nat) (rows : va_W) (pa : Int32) (pb : Int32) (pc0 : Int32)  : Met l yX8_mustGo (.code yX8_mustGo cX8_mustGo 8 (some .int) :: TBL) ({ frames := 1, cells := 0, slots := 0, locals := 40 }) (va_Pc [.ref x0, .int pa, .int pb, .int pc0] (fun U => va_P (dC, dI) vwCl [(x0, .inr (7, [.ref (b 0), .ref (b 1), .ref (b 2), .ref (b 3), .ref (b 4), .ref (b 5), .ref (b 6), .ref (b 7), .ref (b 8), .ref (b 9), .int 1])), ((b 6), .inr (0, [.int 0, .ref (fT 1), .int 0, .ref (fT 3), .int 0, .ref (fT 5), .ref (fT 6), .ref (fT 7), .int 0, .ref (fT 9), .ref (fT 10), .ref (fT 11), .ref (fT 12), .ref (fT 13)]))] U.heap ∧ va_K (dC, dI) vwCl [] U ∧ Ev g (fun _ => False) U)) (vp_Si (fun r => r = (-1))) 0 0 (fun _ => False) := by
  refine Met.ofW (cc := cX8_mustGo) (maxL := 8) (ret := (some .int)) (by decide) rfl ?_
  intro p e s m args below meth c s₁ B hml hv
  obtain ⟨rfl, hP, hK, hE⟩ := hv
  have hx := B.exec
  have hb := B.bytes
  have hr := B.returns
  have hts0 := atoms_spec (ws := (.code yX8_mustGo cX8_mustGo 8 (some .int) :: TBL)) B.pre
  have hts := fun (w : Cond) (h : w ∈ TBL) => hts0 w (List.mem_cons_of_mem _ h)
  have hown : s.vm.findClass RX8 = some m.cls := findClass_of_methodNamed B.named
  have hlocks := B.notSynchronized
  have hN := hE.1
  have hS : va_S (fun _ => False) s.heap s.heap [] := va_S.rf
  have hP : va_P (dC, dI) vwCl [(x0, .inr (7, [.ref (b 0), .ref (b 1), .ref (b 2), .ref (b 3), .ref (b 4), .ref (b 5), .ref (b 6), .ref (b 7), .ref (b 8), .ref (b 9), .int 1])), ((b 6), .inr (0, [.int 0, .ref (fT 1), .int 0, .ref (fT 3), .int 0, .ref (fT 5), .ref (fT 6), .ref (fT 7), .int 0, .ref (fT 9), .ref (fT 10), .ref (fT 11), .ref (fT 12), .ref (fT 13)]))] s.heap := hP
  have hl := lv_entry ([.ref x0, .int pa, .int pb, .int pc0]) (n := 8) (Nat.le_of_ble_eq_true rfl)
  rw [lg_entry_eq]
  generalize (lg_sl ([.ref x0, .int pa, .int pb, .int pc0]) ++ List.replicate (8 - (lg_sl ([.ref x0, .int pa, .int pb, .int pc0])).length) Slot.unset).toArray = ls at hl ⊢
  have hl : lv_has ls 8 [(0, .ref x0), (1, .int pa), (2, .int pb), (3, .int pc0)] := hl
  refine lv_aload_n hx hb dX8_mustGo_0 rfl (lv_at hl 0 rfl) ?_
  refine va_get (D := (dC, dI)) (ci := 7) (v := .ref (b 6)) (C := RX8) (T := TX8) (N := 11) hx hb hts inlX8 hown hK hP 0 rfl rfl 6 (by decide) (hts (.fieldLink RX8 51 "ClosedUntil" "told" "LClosedUntil$Holdings;") qw_205) (fun _ h9 => h9) rfl dX8_mustGo_1 ?_
  refine lv_iload_n hx hb dX8_mustGo_4 rfl (lv_at hl 1 rfl) ?_
  have hPc := hP.sub (ws' := [((b 6), .inr (0, [.int 0, .ref (fT 1), .int 0, .ref (fT 3), .int 0, .ref (fT 5), .ref (fT 6), .ref (fT 7), .int 0, .ref (fT 9), .ref (fT 10), .ref (fT 11), .ref (fT 12), .ref (fT 13)]))]) [1] rfl
  have hKc := hK.sub (tys' := []) [] rfl
  refine vp_callSi ((va_runVN (As := [.int pa]) (rest := []) ⟨hx, hb, hml, hown, hts⟩ (c_hPi l dC dI g ((b 6)) (fT) (pa) ) ⟨va_cnB 1 hts (gwC qw_251) rfl rfl rfl (nm_25 hN) (hts (.initialized RX1) qw_202) (by decide +kernel) ⟨Nat.le_of_ble_eq_true rfl, Nat.le_of_ble_eq_true rfl⟩, (hts (.instanceMethod yX1_hasPiece) qw_252), (hts (.selects RX1 yX1_hasPiece yX1_hasPiece) qw_253)⟩ ⟨fun a U g9 mk q => ⟨q.1, q.2.1, va_K.moved (u := U) (U := U.calling g9 mk a) (Vm.Alike.refl U.vm) q.2.2.1, Ev.bl q.2.2.2⟩, va_recv hK hP (ci := 0) (q0 := 1) rfl rfl, fun U hU hW => ⟨rfl, by rw [hU]; exact hPc, va_K.moved hW.alike hKc, hE.go hS (fun _ h => h.elim) hU hW⟩⟩ rfl rfl hl.1 rfl (lv_room (Nat.le_of_ble_eq_true rfl)) dX8_mustGo_5 ⟨Nat.le_of_ble_eq_true rfl, Nat.le_of_ble_eq_true rfl⟩)).run (fun r1 h_r1 => ?_)
  have h_r1 : r1 = 0 := h_r1
  subst h_r1
  refine lv_if_eq (tgt := 25) hx hb dX8_mustGo_8 (by decide) (fun c8_2 => ?_) (fun c8_2 => by exfalso; exact absurd c8_2 (by decide))
  refine lv_iconst (v := (-1)) hx hb dX8_mustGo_25 (by decide) ?_
  exact W.iret (v := (-1)) hx hb hr (fun t ht hW => ⟨(-1), rfl, (rfl), ht⟩) (fun _ h => absurd h List.not_mem_nil) dX8_mustGo_26
set_option maxHeartbeats 4000000 in
set_option maxRecDepth 100000 in
theorem c_8review (l : Launch) (dC : Nat → ClassId) (dI : Nat → Nat → Nat) (g : Gv) (x0 : Nat) (b : Nat → Nat) (f4 : Nat → Nat) (c4 : ClassId) (f5 : Nat → Nat) (f7 : Nat → Nat) (f6 : Nat → Nat) (f2 : Nat → Nat) (cK : ClassId) (kf : Nat → Option Nat) (cZ : ClassId) (fT : Nat → Nat) (fU : Nat → Nat) (sa : Nat → Nat) (sf : Nat → Nat → Nat) (sc : Nat → Nat → ClassId) (spf : Nat → Nat → Int32) (sdf : Nat → Nat → Int32) (slf : Nat → Nat → Int32) (srf : Nat → Nat → Int32) (sga : Nat → Nat → Option Nat) (sgb : Nat → Nat → Option Nat) (rows : va_W) (pa : Int32) (pb : Int32) (pc0 : Int32)  : Met l yX8_review (.code yX8_review cX8_review 5 (some .int) :: TBL) ({ frames := 1, cells := 0, slots := 0, locals := 40 }) (va_Pc [.ref x0, .int pa, .int pb, .int pc0] (fun U => va_P (dC, dI) vwCl [(x0, .inr (7, [.ref (b 0), .ref (b 1), .ref (b 2), .ref (b 3), .ref (b 4), .ref (b 5), .ref (b 6), .ref (b 7), .ref (b 8), .ref (b 9), .int 1])), ((b 6), .inr (0, [.int 0, .ref (fT 1), .int 0, .ref (fT 3), .int 0, .ref (fT 5), .ref (fT 6), .ref (fT 7), .int 0, .ref (fT 9), .ref (fT 10), .ref (fT 11), .ref (fT 12), .ref (fT 13)]))] U.heap ∧ va_K (dC, dI) vwCl [] U ∧ Ev g (fun _ => False) U)) (vp_Si (fun r => r = (-1))) 0 0 (fun _ => False) := by
  refine Met.ofW (cc := cX8_review) (maxL := 5) (ret := (some .int)) (by decide) rfl ?_
  intro p e s m args below meth c s₁ B hml hv
  obtain ⟨rfl, hP, hK, hE⟩ := hv
  have hx := B.exec
  have hb := B.bytes
  have hr := B.returns
  have hts0 := atoms_spec (ws := (.code yX8_review cX8_review 5 (some .int) :: TBL)) B.pre
  have hts := fun (w : Cond) (h : w ∈ TBL) => hts0 w (List.mem_cons_of_mem _ h)
  have hown : s.vm.findClass RX8 = some m.cls := findClass_of_methodNamed B.named
  have hlocks := B.notSynchronized
  have hN := hE.1
  have hS : va_S (fun _ => False) s.heap s.heap [] := va_S.rf
  have hP : va_P (dC, dI) vwCl [(x0, .inr (7, [.ref (b 0), .ref (b 1), .ref (b 2), .ref (b 3), .ref (b 4), .ref (b 5), .ref (b 6), .ref (b 7), .ref (b 8), .ref (b 9), .int 1])), ((b 6), .inr (0, [.int 0, .ref (fT 1), .int 0, .ref (fT 3), .int 0, .ref (fT 5), .ref (fT 6), .ref (fT 7), .int 0, .ref (fT 9), .ref (fT 10), .ref (fT 11), .ref (fT 12), .ref (fT 13)]))] s.heap := hP
  have hl := lv_entry ([.ref x0, .int pa, .int pb, .int pc0]) (n := 5) (Nat.le_of_ble_eq_true rfl)
  rw [lg_entry_eq]
  generalize (lg_sl ([.ref x0, .int pa, .int pb, .int pc0]) ++ List.replicate (5 - (lg_sl ([.ref x0, .int pa, .int pb, .int pc0])).length) Slot.unset).toArray = ls at hl ⊢
  have hl : lv_has ls 5 [(0, .ref x0), (1, .int pa), (2, .int pb), (3, .int pc0)] := hl
  refine lv_aload_n hx hb dX8_review_0 rfl (lv_at hl 0 rfl) ?_
  refine va_get (D := (dC, dI)) (ci := 7) (v := .ref (b 6)) (C := RX8) (T := TX8) (N := 11) hx hb hts inlX8 hown hK hP 0 rfl rfl 6 (by decide) (hts (.fieldLink RX8 51 "ClosedUntil" "told" "LClosedUntil$Holdings;") qw_205) (fun _ h9 => h9) rfl dX8_review_1 ?_
  refine lv_iload_n hx hb dX8_review_4 rfl (lv_at hl 1 rfl) ?_
  have hPc := hP.sub (ws' := [((b 6), .inr (0, [.int 0, .ref (fT 1), .int 0, .ref (fT 3), .int 0, .ref (fT 5), .ref (fT 6), .ref (fT 7), .int 0, .ref (fT 9), .ref (fT 10), .ref (fT 11), .ref (fT 12), .ref (fT 13)]))]) [1] rfl
  have hKc := hK.sub (tys' := []) [] rfl
  refine vp_callSi ((va_runVN (As := [.int pa]) (rest := []) ⟨hx, hb, hml, hown, hts⟩ (c_hCl l dC dI g ((b 6)) (fT) (pa) ) ⟨va_cnB 1 hts (gwC qw_257) rfl rfl rfl (nm_33 hN) (hts (.initialized RX1) qw_202) (by decide +kernel) ⟨Nat.le_of_ble_eq_true rfl, Nat.le_of_ble_eq_true rfl⟩, (hts (.instanceMethod yX1_hasClosure) qw_258), (hts (.selects RX1 yX1_hasClosure yX1_hasClosure) qw_259)⟩ ⟨fun a U g9 mk q => ⟨q.1, q.2.1, va_K.moved (u := U) (U := U.calling g9 mk a) (Vm.Alike.refl U.vm) q.2.2.1, Ev.bl q.2.2.2⟩, va_recv hK hP (ci := 0) (q0 := 1) rfl rfl, fun U hU hW => ⟨rfl, by rw [hU]; exact hPc, va_K.moved hW.alike hKc, hE.go hS (fun _ h => h.elim) hU hW⟩⟩ rfl rfl hl.1 rfl (lv_room (Nat.le_of_ble_eq_true rfl)) dX8_review_5 ⟨Nat.le_of_ble_eq_true rfl, Nat.le_of_ble_eq_true rfl⟩)).run (fun r1 h_r1 => ?_)
  have h_r1 : r1 = 0 := h_r1
  subst h_r1
  refine lv_if_eq (tgt := 30) hx hb dX8_review_8 (by decide) (fun c8_2 => ?_) (fun c8_2 => by exfalso; exact absurd c8_2 (by decide))
  refine lv_iconst (v := (-1)) hx hb dX8_review_30 (by decide) ?_
  exact W.iret (v := (-1)) hx hb hr (fun t ht hW => ⟨(-1), rfl, (rfl), ht⟩) (fun _ h => absurd h List.not_mem_nil) dX8_review_31
set_option maxHeartbeats 4000000 in
set_option maxRecDepth 100000 in
theorem c_8lift (l : Launch) (dC : Nat → ClassId) (dI : Nat → Nat → Nat) (g : Gv) (x0 : Nat) (b : Nat → Nat) (f4 : Nat → Nat) (c4 : ClassId) (f5 : Nat → Nat) (f7 : Nat → Nat) (f6 : Nat → Nat) (f2 : Nat → Nat) (cK : ClassId) (kf : Nat → Option Nat) (cZ : ClassId) (fT : Nat → Nat) (fU : Nat → Nat) (sa : Nat → Nat) (sf : Nat → Nat → Nat) (sc : Nat → Nat → ClassId) (spf : Nat → Nat → Int32) (sdf : Nat → Nat → Int32) (slf : Nat → Nat → Int32) (srf : Nat → Nat → Int32) (sga : Nat → Nat → Option Nat) (sgb : Nat → Nat → Option Nat) (rows : va_W) (pa : Int32) (pb : Int32)  : Met l yX8_lift (.code yX8_lift cX8_lift 5 (some .int) :: TBL) ({ frames := 1, cells := 0, slots := 0, locals := 40 }) (va_Pc [.ref x0, .int pa, .int pb] (fun U => va_P (dC, dI) vwCl [(x0, .inr (7, [.ref (b 0), .ref (b 1), .ref (b 2), .ref (b 3), .ref (b 4), .ref (b 5), .ref (b 6), .ref (b 7), .ref (b 8), .ref (b 9), .int 1])), ((b 6), .inr (0, [.int 0, .ref (fT 1), .int 0, .ref (fT 3), .int 0, .ref (fT 5), .ref (fT 6), .ref (fT 7), .int 0, .ref (fT 9), .ref (fT 10), .ref (fT 11), .ref (fT 12), .ref (fT 13)]))] U.heap ∧ va_K (dC, dI) vwCl [] U ∧ Ev g (fun _ => False) U)) (vp_Si (fun r => r = (-2))) 0 0 (fun _ => False) := by
  refine Met.ofW (cc := cX8_lift) (maxL := 5) (ret := (some .int)) (by decide) rfl ?_
  intro p e s m args below meth c s₁ B hml hv
  obtain ⟨rfl, hP, hK, hE⟩ := hv
  have hx := B.exec
  have hb := B.bytes
  have hr := B.returns
  have hts0 := atoms_spec (ws := (.code yX8_lift cX8_lift 5 (some .int) :: TBL)) B.pre
  have hts := fun (w : Cond) (h : w ∈ TBL) => hts0 w (List.mem_cons_of_mem _ h)
  have hown : s.vm.findClass RX8 = some m.cls := findClass_of_methodNamed B.named
  have hlocks := B.notSynchronized
  have hN := hE.1
  have hS : va_S (fun _ => False) s.heap s.heap [] := va_S.rf
  have hP : va_P (dC, dI) vwCl [(x0, .inr (7, [.ref (b 0), .ref (b 1), .ref (b 2), .ref (b 3), .ref (b 4), .ref (b 5), .ref (b 6), .ref (b 7), .ref (b 8), .ref (b 9), .int 1])), ((b 6), .inr (0, [.int 0, .ref (fT 1), .int 0, .ref (fT 3), .int 0, .ref (fT 5), .ref (fT 6), .ref (fT 7), .int 0, .ref (fT 9), .ref (fT 10), .ref (fT 11), .ref (fT 12), .ref (fT 13)]))] s.heap := hP
  have hl := lv_entry ([.ref x0, .int pa, .int pb]) (n := 5) (Nat.le_of_ble_eq_true rfl)
  rw [lg_entry_eq]
  generalize (lg_sl ([.ref x0, .int pa, .int pb]) ++ List.replicate (5 - (lg_sl ([.ref x0, .int pa, .int pb])).length) Slot.unset).toArray = ls at hl ⊢
  have hl : lv_has ls 5 [(0, .ref x0), (1, .int pa), (2, .int pb)] := hl
  refine lv_iload_n hx hb dX8_lift_0 rfl (lv_at hl 2 rfl) ?_
  refine lv_iconst (v := (-1)) hx hb dX8_lift_1 (by decide) ?_
  refine lv_icmp_eq (tgt := 12) hx hb dX8_lift_2 (by decide) (fun c2_1 => ?_) (fun c2_1 => ?_)
  · have c2_1 : pb.toInt = (-1) := (cv_eq rfl (by decide)).mp c2_1
    refine lv_iconst (v := 1) hx hb dX8_lift_12 (by decide) ?_
    refine lv_goto (tgt := 17) hx hb dX8_lift_13 (by decide) ?_
    refine lv_istore_n (lv' := [(3, .int 1), (0, .ref x0), (1, .int pa), (2, .int pb)]) hx hb dX8_lift_17 rfl hl (by decide) rfl (fun ls hl => ?_)
    refine lv_iload_n hx hb dX8_lift_18 rfl (lv_at hl 0 rfl) ?_
    refine lv_if_eq (tgt := 33) hx hb dX8_lift_19 (by decide) (fun c19_2 => by exfalso; exact absurd c19_2 (by decide)) (fun c19_2 => ?_)
    refine lv_aload_n hx hb dX8_lift_22 rfl (lv_at hl 1 rfl) ?_
    refine va_get (D := (dC, dI)) (ci := 7) (v := .ref (b 6)) (C := RX8) (T := TX8) (N := 11) hx hb hts inlX8 hown hK hP 0 rfl rfl 6 (by decide) (hts (.fieldLink RX8 51 "ClosedUntil" "told" "LClosedUntil$Holdings;") qw_205) (fun _ h9 => h9) rfl dX8_lift_23 ?_
    refine lv_iload_n hx hb dX8_lift_26 rfl (lv_at hl 2 rfl) ?_
    have hPc := hP.sub (ws' := [((b 6), .inr (0, [.int 0, .ref (fT 1), .int 0, .ref (fT 3), .int 0, .ref (fT 5), .ref (fT 6), .ref (fT 7), .int 0, .ref (fT 9), .ref (fT 10), .ref (fT 11), .ref (fT 12), .ref (fT 13)]))]) [1] rfl
    have hKc := hK.sub (tys' := []) [] rfl
    refine vp_callSi ((va_runVN (As := [.int pa]) (rest := []) ⟨hx, hb, hml, hown, hts⟩ (c_hCl l dC dI g ((b 6)) (fT) (pa) ) ⟨va_cnB 1 hts (gwC qw_257) rfl rfl rfl (nm_33 hN) (hts (.initialized RX1) qw_202) (by decide +kernel) ⟨Nat.le_of_ble_eq_true rfl, Nat.le_of_ble_eq_true rfl⟩, (hts (.instanceMethod yX1_hasClosure) qw_258), (hts (.selects RX1 yX1_hasClosure yX1_hasClosure) qw_259)⟩ ⟨fun a U g9 mk q => ⟨q.1, q.2.1, va_K.moved (u := U) (U := U.calling g9 mk a) (Vm.Alike.refl U.vm) q.2.2.1, Ev.bl q.2.2.2⟩, va_recv hK hP (ci := 0) (q0 := 1) rfl rfl, fun U hU hW => ⟨rfl, by rw [hU]; exact hPc, va_K.moved hW.alike hKc, hE.go hS (fun _ h => h.elim) hU hW⟩⟩ rfl rfl hl.1 rfl (lv_room (Nat.le_of_ble_eq_true rfl)) dX8_lift_27 ⟨Nat.le_of_ble_eq_true rfl, Nat.le_of_ble_eq_true rfl⟩)).run (fun r3 h_r3 => ?_)
    have h_r3 : r3 = 0 := h_r3
    subst h_r3
    refine lv_if_ne (tgt := 36) hx hb dX8_lift_30 (by decide) (fun c30_4 => by exfalso; exact absurd c30_4 (by decide)) (fun c30_4 => ?_)
    refine lv_bipush (v := (-2)) hx hb dX8_lift_33 (by decide) ?_
    exact W.iret (v := (-2)) hx hb hr (fun t ht hW => ⟨(-2), rfl, (rfl), ht⟩) (fun _ h => absurd h List.not_mem_nil) dX8_lift_35
  · have c2_1 : ¬ (pb.toInt = (-1)) := mt (cv_eq rfl (by decide)).mpr c2_1
    refine lv_iload_n hx hb dX8_lift_5 rfl (lv_at hl 2 rfl) ?_
    have hPc := hP.sub (ws' := []) [] rfl
    have hKc := hK.sub (tys' := []) [] rfl
    refine vp_callSi ((va_runSN (As := [.int pb]) (rest := []) ⟨hx, hb, hml, hown, hts⟩ (c_hasx l dC dI g (pb) ) ⟨va_cnB 1 hts (gwC qw_59) rfl rfl rfl (nm_19 hN) (hts (.initialized RX0) qw_3) (by decide +kernel) ⟨Nat.le_of_ble_eq_true rfl, Nat.le_of_ble_eq_true rfl⟩, (hts (.static yX0_has) qw_60), trivial⟩ ⟨fun a U g9 mk q => ⟨q.1, q.2.1, va_K.moved (u := U) (U := U.calling g9 mk a) (Vm.Alike.refl U.vm) q.2.2.1, Ev.bl q.2.2.2⟩, fun U hU hW => ⟨rfl, by rw [hU]; exact hPc, va_K.moved hW.alike hKc, hE.go hS (fun _ h => h.elim) hU hW⟩⟩ rfl rfl hl.1 rfl (lv_room (Nat.le_of_ble_eq_true rfl)) dX8_lift_6 ⟨Nat.le_of_ble_eq_true rfl, Nat.le_of_ble_eq_true rfl⟩)).run (fun r5 h_r5 => ?_)
    rcases h_r5 with ⟨hq6, rfl⟩ | ⟨hq6, rfl⟩
    · refine lv_if_eq (tgt := 16) hx hb dX8_lift_9 (by decide) (fun c9_7 => by exfalso; exact absurd c9_7 (by decide)) (fun c9_7 => ?_)
      refine lv_iconst (v := 1) hx hb dX8_lift_12 (by decide) ?_
      refine lv_goto (tgt := 17) hx hb dX8_lift_13 (by decide) ?_
      refine lv_istore_n (lv' := [(3, .int 1), (0, .ref x0), (1, .int pa), (2, .int pb)]) hx hb dX8_lift_17 rfl hl (by decide) rfl (fun ls hl => ?_)
      refine lv_iload_n hx hb dX8_lift_18 rfl (lv_at hl 0 rfl) ?_
      refine lv_if_eq (tgt := 33) hx hb dX8_lift_19 (by decide) (fun c19_8 => by exfalso; exact absurd c19_8 (by decide)) (fun c19_8 => ?_)
      refine lv_aload_n hx hb dX8_lift_22 rfl (lv_at hl 1 rfl) ?_
      refine va_get (D := (dC, dI)) (ci := 7) (v := .ref (b 6)) (C := RX8) (T := TX8) (N := 11) hx hb hts inlX8 hown hK hP 0 rfl rfl 6 (by decide) (hts (.fieldLink RX8 51 "ClosedUntil" "told" "LClosedUntil$Holdings;") qw_205) (fun _ h9 => h9) rfl dX8_lift_23 ?_
      refine lv_iload_n hx hb dX8_lift_26 rfl (lv_at hl 2 rfl) ?_
      have hPc := hP.sub (ws' := [((b 6), .inr (0, [.int 0, .ref (fT 1), .int 0, .ref (fT 3), .int 0, .ref (fT 5), .ref (fT 6), .ref (fT 7), .int 0, .ref (fT 9), .ref (fT 10), .ref (fT 11), .ref (fT 12), .ref (fT 13)]))]) [1] rfl
      have hKc := hK.sub (tys' := []) [] rfl
      refine vp_callSi ((va_runVN (As := [.int pa]) (rest := []) ⟨hx, hb, hml, hown, hts⟩ (c_hCl l dC dI g ((b 6)) (fT) (pa) ) ⟨va_cnB 1 hts (gwC qw_257) rfl rfl rfl (nm_33 hN) (hts (.initialized RX1) qw_202) (by decide +kernel) ⟨Nat.le_of_ble_eq_true rfl, Nat.le_of_ble_eq_true rfl⟩, (hts (.instanceMethod yX1_hasClosure) qw_258), (hts (.selects RX1 yX1_hasClosure yX1_hasClosure) qw_259)⟩ ⟨fun a U g9 mk q => ⟨q.1, q.2.1, va_K.moved (u := U) (U := U.calling g9 mk a) (Vm.Alike.refl U.vm) q.2.2.1, Ev.bl q.2.2.2⟩, va_recv hK hP (ci := 0) (q0 := 1) rfl rfl, fun U hU hW => ⟨rfl, by rw [hU]; exact hPc, va_K.moved hW.alike hKc, hE.go hS (fun _ h => h.elim) hU hW⟩⟩ rfl rfl hl.1 rfl (lv_room (Nat.le_of_ble_eq_true rfl)) dX8_lift_27 ⟨Nat.le_of_ble_eq_true rfl, Nat.le_of_ble_eq_true rfl⟩)).run (fun r9 h_r9 => ?_)
      have h_r9 : r9 = 0 := h_r9
      subst h_r9
      refine lv_if_ne (tgt := 36) hx hb dX8_lift_30 (by decide) (fun c30_10 => by exfalso; exact absurd c30_10 (by decide)) (fun c30_10 => ?_)
      refine lv_bipush (v := (-2)) hx hb dX8_lift_33 (by decide) ?_
      exact W.iret (v := (-2)) hx hb hr (fun t ht hW => ⟨(-2), rfl, (rfl), ht⟩) (fun _ h => absurd h List.not_mem_nil) dX8_lift_35
    · refine lv_if_eq (tgt := 16) hx hb dX8_lift_9 (by decide) (fun c9_11 => ?_) (fun c9_11 => by exfalso; exact absurd c9_11 (by decide))
      refine lv_iconst (v := 0) hx hb dX8_lift_16 (by decide) ?_
      refine lv_istore_n (lv' := [(3, .int 0), (0, .ref x0), (1, .int pa), (2, .int pb)]) hx hb dX8_lift_17 rfl hl (by decide) rfl (fun ls hl => ?_)
      refine lv_iload_n hx hb dX8_lift_18 rfl (lv_at hl 0 rfl) ?_
      refine lv_if_eq (tgt := 33) hx hb dX8_lift_19 (by decide) (fun c19_12 => ?_) (fun c19_12 => by exfalso; exact absurd c19_12 (by decide))
      refine lv_bipush (v := (-2)) hx hb dX8_lift_33 (by decide) ?_
      exact W.iret (v := (-2)) hx hb hr (fun t ht hW => ⟨(-2), rfl, (rfl), ht⟩) (fun _ h => absurd h List.not_mem_nil) dX8_lift_35
set_option maxHeartbeats 4000000 in
set_option maxRecDepth 100000 in
theorem c_8died (l : Launch) (dC : Nat → ClassId) (dI : Nat → Nat → Nat) (g : Gv) (x0 : Nat) (b : Nat → Nat) (f4 : Nat → Nat) (c4 : ClassId) (f5 : Nat → Nat) (f7 : Nat → Nat) (f6 : Nat → Nat) (f2 : Nat → Nat) (cK : ClassId) (kf : Nat → Option Nat) (cZ : ClassId) (fT : Nat → Nat) (fU : Nat → Nat) (sa : Nat → Nat) (sf : Nat → Nat → Nat) (sc : Nat → Nat → ClassId) (spf : Nat → Nat → Int32) (sdf : Nat → Nat → Int32) (slf : Nat → Nat → Int32) (srf : Nat → Nat → Int32) (sga : Nat → Nat → Option Nat) (sgb : Nat → Nat → Option Nat) (rows : va_W) (pa : Int32) (pb : Int32)  : Met l yX8_died (.code yX8_died cX8_died 5 (some .int) :: TBL) ({ frames := 1, cells := 0, slots := 0, locals := 40 }) (va_Pc [.ref x0, .int pa, .int pb] (fun U => va_P (dC, dI) vwCl [(x0, .inr (7, [.ref (b 0), .ref (b 1), .ref (b 2), .ref (b 3), .ref (b 4), .ref (b 5), .ref (b 6), .ref (b 7), .ref (b 8), .ref (b 9), .int 1])), ((b 6), .inr (0, [.int 0, .ref (fT 1), .int 0, .ref (fT 3), .int 0, .ref (fT 5), .ref (fT 6), .ref (fT 7), .int 0, .ref (fT 9), .ref (fT 10), .ref (fT 11), .ref (fT 12), .ref (fT 13)]))] U.heap ∧ va_K (dC, dI) vwCl [] U ∧ Ev g (fun _ => False) U)) (vp_Si (fun r => r = (-2))) 0 0 (fun _ => False) := by
  refine Met.ofW (cc := cX8_died) (maxL := 5) (ret := (some .int)) (by decide) rfl ?_
  intro p e s m args below meth c s₁ B hml hv
  obtain ⟨rfl, hP, hK, hE⟩ := hv
  have hx := B.exec
  have hb := B.bytes
  have hr := B.returns
  have hts0 := atoms_spec (ws := (.code yX8_died cX8_died 5 (some .int) :: TBL)) B.pre
  have hts := fun (w : Cond) (h : w ∈ TBL) => hts0 w (List.mem_cons_of_mem _ h)
  have hown : s.vm.findClass RX8 = some m.cls := findClass_of_methodNamed B.named
  have hlocks := B.notSynchronized
  have hN := hE.1
  have hS : va_S (fun _ => False) s.heap s.heap [] := va_S.rf
  have hP : va_P (dC, dI) vwCl [(x0, .inr (7, [.ref (b 0), .ref (b 1), .ref (b 2), .ref (b 3), .ref (b 4), .ref (b 5), .ref (b 6), .ref (b 7), .ref (b 8), .ref (b 9), .int 1])), ((b 6), .inr (0, [.int 0, .ref (fT 1), .int 0, .ref (fT 3), .int 0, .ref (fT 5), .ref (fT 6), .ref (fT 7), .int 0, .ref (fT 9), .ref (fT 10), .ref (fT 11), .ref (fT 12), .ref (fT 13)]))] s.heap := hP
  have hl := lv_entry ([.ref x0, .int pa, .int pb]) (n := 5) (Nat.le_of_ble_eq_true rfl)
  rw [lg_entry_eq]
  generalize (lg_sl ([.ref x0, .int pa, .int pb]) ++ List.replicate (5 - (lg_sl ([.ref x0, .int pa, .int pb])).length) Slot.unset).toArray = ls at hl ⊢
  have hl : lv_has ls 5 [(0, .ref x0), (1, .int pa), (2, .int pb)] := hl
  refine lv_iload_n hx hb dX8_died_0 rfl (lv_at hl 2 rfl) ?_
  refine lv_iconst (v := (-1)) hx hb dX8_died_1 (by decide) ?_
  refine lv_icmp_eq (tgt := 12) hx hb dX8_died_2 (by decide) (fun c2_1 => ?_) (fun c2_1 => ?_)
  · have c2_1 : pb.toInt = (-1) := (cv_eq rfl (by decide)).mp c2_1
    refine lv_iconst (v := 1) hx hb dX8_died_12 (by decide) ?_
    refine lv_goto (tgt := 17) hx hb dX8_died_13 (by decide) ?_
    refine lv_istore_n (lv' := [(3, .int 1), (0, .ref x0), (1, .int pa), (2, .int pb)]) hx hb dX8_died_17 rfl hl (by decide) rfl (fun ls hl => ?_)
    refine lv_iload_n hx hb dX8_died_18 rfl (lv_at hl 0 rfl) ?_
    refine lv_if_eq (tgt := 33) hx hb dX8_died_19 (by decide) (fun c19_2 => by exfalso; exact absurd c19_2 (by decide)) (fun c19_2 => ?_)
    refine lv_aload_n hx hb dX8_died_22 rfl (lv_at hl 1 rfl) ?_
    refine va_get (D := (dC, dI)) (ci := 7) (v := .ref (b 6)) (C := RX8) (T := TX8) (N := 11) hx hb hts inlX8 hown hK hP 0 rfl rfl 6 (by decide) (hts (.fieldLink RX8 51 "ClosedUntil" "told" "LClosedUntil$Holdings;") qw_205) (fun _ h9 => h9) rfl dX8_died_23 ?_
    refine lv_iload_n hx hb dX8_died_26 rfl (lv_at hl 2 rfl) ?_
    have hPc := hP.sub (ws' := [((b 6), .inr (0, [.int 0, .ref (fT 1), .int 0, .ref (fT 3), .int 0, .ref (fT 5), .ref (fT 6), .ref (fT 7), .int 0, .ref (fT 9), .ref (fT 10), .ref (fT 11), .ref (fT 12), .ref (fT 13)]))]) [1] rfl
    have hKc := hK.sub (tys' := []) [] rfl
    refine vp_callSi ((va_runVN (As := [.int pa]) (rest := []) ⟨hx, hb, hml, hown, hts⟩ (c_hPe l dC dI g ((b 6)) (fT) (pa) ) ⟨va_cnB 1 hts (gwC qw_254) rfl rfl rfl (nm_31 hN) (hts (.initialized RX1) qw_202) (by decide +kernel) ⟨Nat.le_of_ble_eq_true rfl, Nat.le_of_ble_eq_true rfl⟩, (hts (.instanceMethod yX1_hasPerson) qw_255), (hts (.selects RX1 yX1_hasPerson yX1_hasPerson) qw_256)⟩ ⟨fun a U g9 mk q => ⟨q.1, q.2.1, va_K.moved (u := U) (U := U.calling g9 mk a) (Vm.Alike.refl U.vm) q.2.2.1, Ev.bl q.2.2.2⟩, va_recv hK hP (ci := 0) (q0 := 1) rfl rfl, fun U hU hW => ⟨rfl, by rw [hU]; exact hPc, va_K.moved hW.alike hKc, hE.go hS (fun _ h => h.elim) hU hW⟩⟩ rfl rfl hl.1 rfl (lv_room (Nat.le_of_ble_eq_true rfl)) dX8_died_27 ⟨Nat.le_of_ble_eq_true rfl, Nat.le_of_ble_eq_true rfl⟩)).run (fun r3 h_r3 => ?_)
    have h_r3 : r3 = 0 := h_r3
    subst h_r3
    refine lv_if_ne (tgt := 36) hx hb dX8_died_30 (by decide) (fun c30_4 => by exfalso; exact absurd c30_4 (by decide)) (fun c30_4 => ?_)
    refine lv_bipush (v := (-2)) hx hb dX8_died_33 (by decide) ?_
    exact W.iret (v := (-2)) hx hb hr (fun t ht hW => ⟨(-2), rfl, (rfl), ht⟩) (fun _ h => absurd h List.not_mem_nil) dX8_died_35
  · have c2_1 : ¬ (pb.toInt = (-1)) := mt (cv_eq rfl (by decide)).mpr c2_1
    refine lv_iload_n hx hb dX8_died_5 rfl (lv_at hl 2 rfl) ?_
    have hPc := hP.sub (ws' := []) [] rfl
    have hKc := hK.sub (tys' := []) [] rfl
    refine vp_callSi ((va_runSN (As := [.int pb]) (rest := []) ⟨hx, hb, hml, hown, hts⟩ (c_hasx l dC dI g (pb) ) ⟨va_cnB 1 hts (gwC qw_59) rfl rfl rfl (nm_19 hN) (hts (.initialized RX0) qw_3) (by decide +kernel) ⟨Nat.le_of_ble_eq_true rfl, Nat.le_of_ble_eq_true rfl⟩, (hts (.static yX0_has) qw_60), trivial⟩ ⟨fun a U g9 mk q => ⟨q.1, q.2.1, va_K.moved (u := U) (U := U.calling g9 mk a) (Vm.Alike.refl U.vm) q.2.2.1, Ev.bl q.2.2.2⟩, fun U hU hW => ⟨rfl, by rw [hU]; exact hPc, va_K.moved hW.alike hKc, hE.go hS (fun _ h => h.elim) hU hW⟩⟩ rfl rfl hl.1 rfl (lv_room (Nat.le_of_ble_eq_true rfl)) dX8_died_6 ⟨Nat.le_of_ble_eq_true rfl, Nat.le_of_ble_eq_true rfl⟩)).run (fun r5 h_r5 => ?_)
    rcases h_r5 with ⟨hq6, rfl⟩ | ⟨hq6, rfl⟩
    · refine lv_if_eq (tgt := 16) hx hb dX8_died_9 (by decide) (fun c9_7 => by exfalso; exact absurd c9_7 (by decide)) (fun c9_7 => ?_)
      refine lv_iconst (v := 1) hx hb dX8_died_12 (by decide) ?_
      refine lv_goto (tgt := 17) hx hb dX8_died_13 (by decide) ?_
      refine lv_istore_n (lv' := [(3, .int 1), (0, .ref x0), (1, .int pa), (2, .int pb)]) hx hb dX8_died_17 rfl hl (by decide) rfl (fun ls hl => ?_)
      refine lv_iload_n hx hb dX8_died_18 rfl (lv_at hl 0 rfl) ?_
      refine lv_if_eq (tgt := 33) hx hb dX8_died_19 (by decide) (fun c19_8 => by exfalso; exact absurd c19_8 (by decide)) (fun c19_8 => ?_)
      refine lv_aload_n hx hb dX8_died_22 rfl (lv_at hl 1 rfl) ?_
      refine va_get (D := (dC, dI)) (ci := 7) (v := .ref (b 6)) (C := RX8) (T := TX8) (N := 11) hx hb hts inlX8 hown hK hP 0 rfl rfl 6 (by decide) (hts (.fieldLink RX8 51 "ClosedUntil" "told" "LClosedUntil$Holdings;") qw_205) (fun _ h9 => h9) rfl dX8_died_23 ?_
      refine lv_iload_n hx hb dX8_died_26 rfl (lv_at hl 2 rfl) ?_
      have hPc := hP.sub (ws' := [((b 6), .inr (0, [.int 0, .ref (fT 1), .int 0, .ref (fT 3), .int 0, .ref (fT 5), .ref (fT 6), .ref (fT 7), .int 0, .ref (fT 9), .ref (fT 10), .ref (fT 11), .ref (fT 12), .ref (fT 13)]))]) [1] rfl
      have hKc := hK.sub (tys' := []) [] rfl
      refine vp_callSi ((va_runVN (As := [.int pa]) (rest := []) ⟨hx, hb, hml, hown, hts⟩ (c_hPe l dC dI g ((b 6)) (fT) (pa) ) ⟨va_cnB 1 hts (gwC qw_254) rfl rfl rfl (nm_31 hN) (hts (.initialized RX1) qw_202) (by decide +kernel) ⟨Nat.le_of_ble_eq_true rfl, Nat.le_of_ble_eq_true rfl⟩, (hts (.instanceMethod yX1_hasPerson) qw_255), (hts (.selects RX1 yX1_hasPerson yX1_hasPerson) qw_256)⟩ ⟨fun a U g9 mk q => ⟨q.1, q.2.1, va_K.moved (u := U) (U := U.calling g9 mk a) (Vm.Alike.refl U.vm) q.2.2.1, Ev.bl q.2.2.2⟩, va_recv hK hP (ci := 0) (q0 := 1) rfl rfl, fun U hU hW => ⟨rfl, by rw [hU]; exact hPc, va_K.moved hW.alike hKc, hE.go hS (fun _ h => h.elim) hU hW⟩⟩ rfl rfl hl.1 rfl (lv_room (Nat.le_of_ble_eq_true rfl)) dX8_died_27 ⟨Nat.le_of_ble_eq_true rfl, Nat.le_of_ble_eq_true rfl⟩)).run (fun r9 h_r9 => ?_)
      have h_r9 : r9 = 0 := h_r9
      subst h_r9
      refine lv_if_ne (tgt := 36) hx hb dX8_died_30 (by decide) (fun c30_10 => by exfalso; exact absurd c30_10 (by decide)) (fun c30_10 => ?_)
      refine lv_bipush (v := (-2)) hx hb dX8_died_33 (by decide) ?_
      exact W.iret (v := (-2)) hx hb hr (fun t ht hW => ⟨(-2), rfl, (rfl), ht⟩) (fun _ h => absurd h List.not_mem_nil) dX8_died_35
    · refine lv_if_eq (tgt := 16) hx hb dX8_died_9 (by decide) (fun c9_11 => ?_) (fun c9_11 => by exfalso; exact absurd c9_11 (by decide))
      refine lv_iconst (v := 0) hx hb dX8_died_16 (by decide) ?_
      refine lv_istore_n (lv' := [(3, .int 0), (0, .ref x0), (1, .int pa), (2, .int pb)]) hx hb dX8_died_17 rfl hl (by decide) rfl (fun ls hl => ?_)
      refine lv_iload_n hx hb dX8_died_18 rfl (lv_at hl 0 rfl) ?_
      refine lv_if_eq (tgt := 33) hx hb dX8_died_19 (by decide) (fun c19_12 => ?_) (fun c19_12 => by exfalso; exact absurd c19_12 (by decide))
      refine lv_bipush (v := (-2)) hx hb dX8_died_33 (by decide) ?_
      exact W.iret (v := (-2)) hx hb hr (fun t ht hW => ⟨(-2), rfl, (rfl), ht⟩) (fun _ h => absurd h List.not_mem_nil) dX8_died_35
set_option maxHeartbeats 4000000 in
set_option maxRecDepth 100000 in
theorem c_8put (l : Launch) (dC : Nat → ClassId) (dI : Nat → Nat → Nat) (g : Gv) (x0 : Nat) (b : Nat → Nat) (f4 : Nat → Nat) (c4 : ClassId) (f5 : Nat → Nat) (f7 : Nat → Nat) (f6 : Nat → Nat) (f2 : Nat → Nat) (cK : ClassId) (kf : Nat → Option Nat) (cZ : ClassId) (fT : Nat → Nat) (fU : Nat → Nat) (sa : Nat → Nat) (sf : Nat → Nat → Nat) (sc : Nat → Nat → ClassId) (spf : Nat → Nat → Int32) (sdf : Nat → Nat → Int32) (slf : Nat → Nat → Int32) (srf : Nat → Nat → Int32) (sga : Nat → Nat → Option Nat) (sgb : Nat → Nat → Option Nat) (rows : va_W) (pa : Int32) (pb : Int32)  : Met l yX8_put (.code yX8_put cX8_put 5 (some .int) :: TBL) ({ frames := 1, cells := 0, slots := 0, locals := 40 }) (va_Pc [.ref x0, .int pa, .int pb] (fun U => va_P (dC, dI) vwCl [(x0, .inr (7, [.ref (b 0), .ref (b 1), .ref (b 2), .ref (b 3), .ref (b 4), .ref (b 5), .ref (b 6), .ref (b 7), .ref (b 8), .ref (b 9), .int 1])), ((b 6), .inr (0, [.int 0, .ref (fT 1), .int 0, .ref (fT 3), .int 0, .ref (fT 5), .ref (fT 6), .ref (fT 7), .int 0, .ref (fT 9), .ref (fT 10), .ref (fT 11), .ref (fT 12), .ref (fT 13)]))] U.heap ∧ va_K (dC, dI) vwCl [] U ∧ Ev g (fun _ => False) U)) (vp_Si (fun r => r = (-2))) 0 0 (fun _ => False) := by
  refine Met.ofW (cc := cX8_put) (maxL := 5) (ret := (some .int)) (by decide) rfl ?_
  intro p e s m args below meth c s₁ B hml hv
  obtain ⟨rfl, hP, hK, hE⟩ := hv
  have hx := B.exec
  have hb := B.bytes
  have hr := B.returns
  have hts0 := atoms_spec (ws := (.code yX8_put cX8_put 5 (some .int) :: TBL)) B.pre
  have hts := fun (w : Cond) (h : w ∈ TBL) => hts0 w (List.mem_cons_of_mem _ h)
  have hown : s.vm.findClass RX8 = some m.cls := findClass_of_methodNamed B.named
  have hlocks := B.notSynchronized
  have hN := hE.1
  have hS : va_S (fun _ => False) s.heap s.heap [] := va_S.rf
  have hP : va_P (dC, dI) vwCl [(x0, .inr (7, [.ref (b 0), .ref (b 1), .ref (b 2), .ref (b 3), .ref (b 4), .ref (b 5), .ref (b 6), .ref (b 7), .ref (b 8), .ref (b 9), .int 1])), ((b 6), .inr (0, [.int 0, .ref (fT 1), .int 0, .ref (fT 3), .int 0, .ref (fT 5), .ref (fT 6), .ref (fT 7), .int 0, .ref (fT 9), .ref (fT 10), .ref (fT 11), .ref (fT 12), .ref (fT 13)]))] s.heap := hP
  have hl := lv_entry ([.ref x0, .int pa, .int pb]) (n := 5) (Nat.le_of_ble_eq_true rfl)
  rw [lg_entry_eq]
  generalize (lg_sl ([.ref x0, .int pa, .int pb]) ++ List.replicate (5 - (lg_sl ([.ref x0, .int pa, .int pb])).length) Slot.unset).toArray = ls at hl ⊢
  have hl : lv_has ls 5 [(0, .ref x0), (1, .int pa), (2, .int pb)] := hl
  refine lv_iload_n hx hb dX8_put_0 rfl (lv_at hl 2 rfl) ?_
  refine lv_iconst (v := (-1)) hx hb dX8_put_1 (by decide) ?_
  refine lv_icmp_eq (tgt := 16) hx hb dX8_put_2 (by decide) (fun c2_1 => ?_) (fun c2_1 => ?_)
  · have c2_1 : pb.toInt = (-1) := (cv_eq rfl (by decide)).mp c2_1
    refine lv_iconst (v := 1) hx hb dX8_put_16 (by decide) ?_
    refine lv_goto (tgt := 21) hx hb dX8_put_17 (by decide) ?_
    refine lv_istore_n (lv' := [(3, .int 1), (0, .ref x0), (1, .int pa), (2, .int pb)]) hx hb dX8_put_21 rfl hl (by decide) rfl (fun ls hl => ?_)
    refine lv_iload_n hx hb dX8_put_22 rfl (lv_at hl 0 rfl) ?_
    refine lv_if_eq (tgt := 37) hx hb dX8_put_23 (by decide) (fun c23_2 => by exfalso; exact absurd c23_2 (by decide)) (fun c23_2 => ?_)
    refine lv_aload_n hx hb dX8_put_26 rfl (lv_at hl 1 rfl) ?_
    refine va_get (D := (dC, dI)) (ci := 7) (v := .ref (b 6)) (C := RX8) (T := TX8) (N := 11) hx hb hts inlX8 hown hK hP 0 rfl rfl 6 (by decide) (hts (.fieldLink RX8 51 "ClosedUntil" "told" "LClosedUntil$Holdings;") qw_205) (fun _ h9 => h9) rfl dX8_put_27 ?_
    refine lv_iload_n hx hb dX8_put_30 rfl (lv_at hl 2 rfl) ?_
    have hPc := hP.sub (ws' := [((b 6), .inr (0, [.int 0, .ref (fT 1), .int 0, .ref (fT 3), .int 0, .ref (fT 5), .ref (fT 6), .ref (fT 7), .int 0, .ref (fT 9), .ref (fT 10), .ref (fT 11), .ref (fT 12), .ref (fT 13)]))]) [1] rfl
    have hKc := hK.sub (tys' := []) [] rfl
    refine vp_callSi ((va_runVN (As := [.int pa]) (rest := []) ⟨hx, hb, hml, hown, hts⟩ (c_hPi l dC dI g ((b 6)) (fT) (pa) ) ⟨va_cnB 1 hts (gwC qw_251) rfl rfl rfl (nm_25 hN) (hts (.initialized RX1) qw_202) (by decide +kernel) ⟨Nat.le_of_ble_eq_true rfl, Nat.le_of_ble_eq_true rfl⟩, (hts (.instanceMethod yX1_hasPiece) qw_252), (hts (.selects RX1 yX1_hasPiece yX1_hasPiece) qw_253)⟩ ⟨fun a U g9 mk q => ⟨q.1, q.2.1, va_K.moved (u := U) (U := U.calling g9 mk a) (Vm.Alike.refl U.vm) q.2.2.1, Ev.bl q.2.2.2⟩, va_recv hK hP (ci := 0) (q0 := 1) rfl rfl, fun U hU hW => ⟨rfl, by rw [hU]; exact hPc, va_K.moved hW.alike hKc, hE.go hS (fun _ h => h.elim) hU hW⟩⟩ rfl rfl hl.1 rfl (lv_room (Nat.le_of_ble_eq_true rfl)) dX8_put_31 ⟨Nat.le_of_ble_eq_true rfl, Nat.le_of_ble_eq_true rfl⟩)).run (fun r3 h_r3 => ?_)
    have h_r3 : r3 = 0 := h_r3
    subst h_r3
    refine lv_if_ne (tgt := 40) hx hb dX8_put_34 (by decide) (fun c34_4 => by exfalso; exact absurd c34_4 (by decide)) (fun c34_4 => ?_)
    refine lv_bipush (v := (-2)) hx hb dX8_put_37 (by decide) ?_
    exact W.iret (v := (-2)) hx hb hr (fun t ht hW => ⟨(-2), rfl, (rfl), ht⟩) (fun _ h => absurd h List.not_mem_nil) dX8_put_39
  · have c2_1 : ¬ (pb.toInt = (-1)) := mt (cv_eq rfl (by decide)).mpr c2_1
    refine lv_aload_n hx hb dX8_put_5 rfl (lv_at hl 0 rfl) ?_
    refine va_get (D := (dC, dI)) (ci := 7) (v := .ref (b 6)) (C := RX8) (T := TX8) (N := 11) hx hb hts inlX8 hown hK hP 0 rfl rfl 6 (by decide) (hts (.fieldLink RX8 51 "ClosedUntil" "told" "LClosedUntil$Holdings;") qw_205) (fun _ h9 => h9) rfl dX8_put_6 ?_
    refine lv_iload_n hx hb dX8_put_9 rfl (lv_at hl 2 rfl) ?_
    have hPc := hP.sub (ws' := [((b 6), .inr (0, [.int 0, .ref (fT 1), .int 0, .ref (fT 3), .int 0, .ref (fT 5), .ref (fT 6), .ref (fT 7), .int 0, .ref (fT 9), .ref (fT 10), .ref (fT 11), .ref (fT 12), .ref (fT 13)]))]) [1] rfl
    have hKc := hK.sub (tys' := []) [] rfl
    refine vp_callSi ((va_runVN (As := [.int pb]) (rest := []) ⟨hx, hb, hml, hown, hts⟩ (c_hPi l dC dI g ((b 6)) (fT) (pb) ) ⟨va_cnB 1 hts (gwC qw_251) rfl rfl rfl (nm_25 hN) (hts (.initialized RX1) qw_202) (by decide +kernel) ⟨Nat.le_of_ble_eq_true rfl, Nat.le_of_ble_eq_true rfl⟩, (hts (.instanceMethod yX1_hasPiece) qw_252), (hts (.selects RX1 yX1_hasPiece yX1_hasPiece) qw_253)⟩ ⟨fun a U g9 mk q => ⟨q.1, q.2.1, va_K.moved (u := U) (U := U.calling g9 mk a) (Vm.Alike.refl U.vm) q.2.2.1, Ev.bl q.2.2.2⟩, va_recv hK hP (ci := 0) (q0 := 1) rfl rfl, fun U hU hW => ⟨rfl, by rw [hU]; exact hPc, va_K.moved hW.alike hKc, hE.go hS (fun _ h => h.elim) hU hW⟩⟩ rfl rfl hl.1 rfl (lv_room (Nat.le_of_ble_eq_true rfl)) dX8_put_10 ⟨Nat.le_of_ble_eq_true rfl, Nat.le_of_ble_eq_true rfl⟩)).run (fun r5 h_r5 => ?_)
    have h_r5 : r5 = 0 := h_r5
    subst h_r5
    refine lv_if_eq (tgt := 20) hx hb dX8_put_13 (by decide) (fun c13_6 => ?_) (fun c13_6 => by exfalso; exact absurd c13_6 (by decide))
    refine lv_iconst (v := 0) hx hb dX8_put_20 (by decide) ?_
    refine lv_istore_n (lv' := [(3, .int 0), (0, .ref x0), (1, .int pa), (2, .int pb)]) hx hb dX8_put_21 rfl hl (by decide) rfl (fun ls hl => ?_)
    refine lv_iload_n hx hb dX8_put_22 rfl (lv_at hl 0 rfl) ?_
    refine lv_if_eq (tgt := 37) hx hb dX8_put_23 (by decide) (fun c23_7 => ?_) (fun c23_7 => by exfalso; exact absurd c23_7 (by decide))
    refine lv_bipush (v := (-2)) hx hb dX8_put_37 (by decide) ?_
    exact W.iret (v := (-2)) hx hb hr (fun t ht hW => ⟨(-2), rfl, (rfl), ht⟩) (fun _ h => absurd h List.not_mem_nil) dX8_put_39
set_option maxHeartbeats 4000000 in
set_option maxRecDepth 100000 in
theorem c_8undo (l : Launch) (dC : Nat → ClassId) (dI : Nat → Nat → Nat) (g : Gv) (x0 : Nat) (b : Nat → Nat) (f4 : Nat → Nat) (c4 : ClassId) (f5 : Nat → Nat) (f7 : Nat → Nat) (f6 : Nat → Nat) (f2 : Nat → Nat) (cK : ClassId) (kf : Nat → Option Nat) (cZ : ClassId) (fT : Nat → Nat) (fU : Nat → Nat) (sa : Nat → Nat) (sf : Nat → Nat → Nat) (sc : Nat → Nat → ClassId) (spf : Nat → Nat → Int32) (sdf : Nat → Nat → Int32) (slf : Nat → Nat → Int32) (srf : Nat → Nat → Int32) (sga : Nat → Nat → Option Nat) (sgb : Nat → Nat → Option Nat) (rows : va_W)  : Met l yX8_undo (.code yX8_undo cX8_undo 1 (some .int) :: TBL) ({ frames := 1, cells := 0, slots := 0, locals := 40 }) (va_Pc [.ref x0] (fun U => va_P (dC, dI) vwCl [(x0, .inr (7, [.ref (b 0), .ref (b 1), .ref (b 2), .ref (b 3), .ref (b 4), .ref (b 5), .ref (b 6), .ref (b 7), .ref (b 8), .ref (b 9), .int 1])), ((b 3), .inr (1, [.ref (f2 0), .ref (f2 1), .ref (f2 2), .int 0]))] U.heap ∧ va_K (dC, dI) vwCl [] U ∧ Ev g (fun _ => False) U)) (vp_Si (fun r => r = (-1))) 0 0 (fun _ => False) := by
  refine Met.ofW (cc := cX8_undo) (maxL := 1) (ret := (some .int)) (by decide) rfl ?_
  intro p e s m args below meth c s₁ B hml hv
  obtain ⟨rfl, hP, hK, hE⟩ := hv
  have hx := B.exec
  have hb := B.bytes
  have hr := B.returns
  have hts0 := atoms_spec (ws := (.code yX8_undo cX8_undo 1 (some .int) :: TBL)) B.pre
  have hts := fun (w : Cond) (h : w ∈ TBL) => hts0 w (List.mem_cons_of_mem _ h)
  have hown : s.vm.findClass RX8 = some m.cls := findClass_of_methodNamed B.named
  have hlocks := B.notSynchronized
  have hN := hE.1
  have hS : va_S (fun _ => False) s.heap s.heap [] := va_S.rf
  have hP : va_P (dC, dI) vwCl [(x0, .inr (7, [.ref (b 0), .ref (b 1), .ref (b 2), .ref (b 3), .ref (b 4), .ref (b 5), .ref (b 6), .ref (b 7), .ref (b 8), .ref (b 9), .int 1])), ((b 3), .inr (1, [.ref (f2 0), .ref (f2 1), .ref (f2 2), .int 0]))] s.heap := hP
  have hl := lv_entry ([.ref x0]) (n := 1) (Nat.le_of_ble_eq_true rfl)
  rw [lg_entry_eq]
  generalize (lg_sl ([.ref x0]) ++ List.replicate (1 - (lg_sl ([.ref x0])).length) Slot.unset).toArray = ls at hl ⊢
  have hl : lv_has ls 1 [(0, .ref x0)] := hl
  refine lv_aload_n hx hb dX8_undo_0 rfl (lv_at hl 0 rfl) ?_
  refine va_get (D := (dC, dI)) (ci := 7) (v := .ref (b 3)) (C := RX8) (T := TX8) (N := 11) hx hb hts inlX8 hown hK hP 0 rfl rfl 3 (by decide) (hts (.fieldLink RX8 33 "ClosedUntil" "journal" "LClosedUntil$Journal;") qw_193) (fun _ h9 => h9) rfl dX8_undo_1 ?_
  refine va_getN (D := (dC, dI)) (ci := 1) (v := .int 0) (C := RX2) (T := TX2) (N := 4) hx hb hts inlX2 hown hK hP 1 rfl rfl 3 (by decide) (va_Nw.use rfl (nf_10 hN)) (fun _ h9 => h9) rfl dX8_undo_4 ?_
  refine lv_if_ne (tgt := 12) hx hb dX8_undo_7 (by decide) (fun c7_1 => by exfalso; exact absurd c7_1 (by decide)) (fun c7_1 => ?_)
  refine lv_iconst (v := (-1)) hx hb dX8_undo_10 (by decide) ?_
  exact W.iret (v := (-1)) hx hb hr (fun t ht hW => ⟨(-1), rfl, (rfl), ht⟩) (fun _ h => absurd h List.not_mem_nil) dX8_undo_11
