theorem dX6_layPieces_0 : decode cX6_layPieces 0 = .ok (.iconst 0, 1) := by decide +kernel
theorem dX6_layPieces_1 : decode cX6_layPieces 1 = .ok (.istore_n 2, 1) := by decide +kernel
theorem dX6_layPieces_2 : decode cX6_layPieces 2 = .ok (.iload_n 2, 1) := by decide +kernel
theorem dX6_layPieces_3 : decode cX6_layPieces 3 = .ok (.aload_n 0, 1) := by decide +kernel
theorem dX6_layPieces_4 : decode cX6_layPieces 4 = .ok (.getfield 38, 3) := by decide +kernel
theorem dX6_layPieces_7 : decode cX6_layPieces 7 = .ok (.if_icmp .ge 16, 3) := by decide +kernel
theorem dX6_layPieces_10 : decode cX6_layPieces 10 = .ok (.aload_n 0, 1) := by decide +kernel
theorem dX6_layPieces_11 : decode cX6_layPieces 11 = .ok (.getfield 9, 3) := by decide +kernel
theorem dX6_layPieces_14 : decode cX6_layPieces 14 = .ok (.iload_n 2, 1) := by decide +kernel
theorem dX6_layPieces_15 : decode cX6_layPieces 15 = .ok (.iconst 0, 1) := by decide +kernel
theorem dX6_layPieces_16 : decode cX6_layPieces 16 = .ok (.iastore, 1) := by decide +kernel
theorem dX6_layPieces_17 : decode cX6_layPieces 17 = .ok (.iinc 2 1, 3) := by decide +kernel
theorem dX6_layPieces_20 : decode cX6_layPieces 20 = .ok (.goto (-18), 3) := by decide +kernel
theorem dX6_layPieces_23 : decode cX6_layPieces 23 = .ok (.iconst 0, 1) := by decide +kernel
theorem dX6_layPieces_24 : decode cX6_layPieces 24 = .ok (.istore_n 2, 1) := by decide +kernel
theorem dX6_layPieces_25 : decode cX6_layPieces 25 = .ok (.iload_n 2, 1) := by decide +kernel
theorem dX6_layPieces_26 : decode cX6_layPieces 26 = .ok (.aload_n 0, 1) := by decide +kernel
theorem dX6_layPieces_27 : decode cX6_layPieces 27 = .ok (.getfield 38, 3) := by decide +kernel
theorem dX6_layPieces_30 : decode cX6_layPieces 30 = .ok (.if_icmp .ge 70, 3) := by decide +kernel
theorem dX6_layPieces_33 : decode cX6_layPieces 33 = .ok (.iload_n 2, 1) := by decide +kernel
theorem dX6_layPieces_34 : decode cX6_layPieces 34 = .ok (.istore_n 3, 1) := by decide +kernel
theorem dX6_layPieces_35 : decode cX6_layPieces 35 = .ok (.iconst 0, 1) := by decide +kernel
theorem dX6_layPieces_36 : decode cX6_layPieces 36 = .ok (.istore 4, 2) := by decide +kernel
theorem dX6_layPieces_38 : decode cX6_layPieces 38 = .ok (.iload_n 3, 1) := by decide +kernel
theorem dX6_layPieces_39 : decode cX6_layPieces 39 = .ok (.ifCond .lt 45, 3) := by decide +kernel
theorem dX6_layPieces_42 : decode cX6_layPieces 42 = .ok (.iload_n 3, 1) := by decide +kernel
theorem dX6_layPieces_43 : decode cX6_layPieces 43 = .ok (.aload_n 0, 1) := by decide +kernel
theorem dX6_layPieces_44 : decode cX6_layPieces 44 = .ok (.getfield 38, 3) := by decide +kernel
theorem dX6_layPieces_47 : decode cX6_layPieces 47 = .ok (.if_icmp .ge 37, 3) := by decide +kernel
theorem dX6_layPieces_50 : decode cX6_layPieces 50 = .ok (.iload 4, 2) := by decide +kernel
theorem dX6_layPieces_52 : decode cX6_layPieces 52 = .ok (.aload_n 0, 1) := by decide +kernel
theorem dX6_layPieces_53 : decode cX6_layPieces 53 = .ok (.getfield 38, 3) := by decide +kernel
theorem dX6_layPieces_56 : decode cX6_layPieces 56 = .ok (.if_icmp .ge 28, 3) := by decide +kernel
theorem dX6_layPieces_59 : decode cX6_layPieces 59 = .ok (.aload_n 0, 1) := by decide +kernel
theorem dX6_layPieces_60 : decode cX6_layPieces 60 = .ok (.getfield 9, 3) := by decide +kernel
theorem dX6_layPieces_63 : decode cX6_layPieces 63 = .ok (.iload_n 3, 1) := by decide +kernel
theorem dX6_layPieces_64 : decode cX6_layPieces 64 = .ok (.dup2, 1) := by decide +kernel
theorem dX6_layPieces_65 : decode cX6_layPieces 65 = .ok (.iaload, 1) := by decide +kernel
theorem dX6_layPieces_66 : decode cX6_layPieces 66 = .ok (.iconst 1, 1) := by decide +kernel
theorem dX6_layPieces_67 : decode cX6_layPieces 67 = .ok (.iload_n 2, 1) := by decide +kernel
theorem dX6_layPieces_68 : decode cX6_layPieces 68 = .ok (.ishl, 1) := by decide +kernel
theorem dX6_layPieces_69 : decode cX6_layPieces 69 = .ok (.ior, 1) := by decide +kernel
theorem dX6_layPieces_70 : decode cX6_layPieces 70 = .ok (.iastore, 1) := by decide +kernel
theorem dX6_layPieces_71 : decode cX6_layPieces 71 = .ok (.aload_n 1, 1) := by decide +kernel
theorem dX6_layPieces_72 : decode cX6_layPieces 72 = .ok (.getfield 59, 3) := by decide +kernel
theorem dX6_layPieces_75 : decode cX6_layPieces 75 = .ok (.iload_n 3, 1) := by decide +kernel
theorem dX6_layPieces_76 : decode cX6_layPieces 76 = .ok (.iaload, 1) := by decide +kernel
theorem dX6_layPieces_77 : decode cX6_layPieces 77 = .ok (.istore_n 3, 1) := by decide +kernel
theorem dX6_layPieces_78 : decode cX6_layPieces 78 = .ok (.iinc 4 1, 3) := by decide +kernel
theorem dX6_layPieces_81 : decode cX6_layPieces 81 = .ok (.goto (-43), 3) := by decide +kernel
theorem dX6_layPieces_84 : decode cX6_layPieces 84 = .ok (.aload_n 0, 1) := by decide +kernel
theorem dX6_layPieces_85 : decode cX6_layPieces 85 = .ok (.getfield 15, 3) := by decide +kernel
theorem dX6_layPieces_88 : decode cX6_layPieces 88 = .ok (.iload_n 2, 1) := by decide +kernel
theorem dX6_layPieces_89 : decode cX6_layPieces 89 = .ok (.iload 4, 2) := by decide +kernel
theorem dX6_layPieces_91 : decode cX6_layPieces 91 = .ok (.iconst 1, 1) := by decide +kernel
theorem dX6_layPieces_92 : decode cX6_layPieces 92 = .ok (.isub, 1) := by decide +kernel
theorem dX6_layPieces_93 : decode cX6_layPieces 93 = .ok (.iastore, 1) := by decide +kernel
theorem dX6_layPieces_94 : decode cX6_layPieces 94 = .ok (.iinc 2 1, 3) := by decide +kernel
theorem dX6_layPieces_97 : decode cX6_layPieces 97 = .ok (.goto (-72), 3) := by decide +kernel
theorem dX6_layPieces_100 : decode cX6_layPieces 100 = .ok (.return_, 1) := by decide +kernel
theorem dX6_latestAbove_0 : decode cX6_latestAbove 0 = .ok (.iconst (-1), 1) := by decide +kernel
theorem dX6_latestAbove_1 : decode cX6_latestAbove 1 = .ok (.istore_n 3, 1) := by decide +kernel
theorem dX6_latestAbove_2 : decode cX6_latestAbove 2 = .ok (.iload_n 0, 1) := by decide +kernel
theorem dX6_latestAbove_3 : decode cX6_latestAbove 3 = .ok (.istore 4, 2) := by decide +kernel
theorem dX6_latestAbove_5 : decode cX6_latestAbove 5 = .ok (.iconst 0, 1) := by decide +kernel
theorem dX6_latestAbove_6 : decode cX6_latestAbove 6 = .ok (.istore 5, 2) := by decide +kernel
theorem dX6_latestAbove_8 : decode cX6_latestAbove 8 = .ok (.iload 5, 2) := by decide +kernel
theorem dX6_latestAbove_10 : decode cX6_latestAbove 10 = .ok (.bipush 24, 2) := by decide +kernel
theorem dX6_latestAbove_12 : decode cX6_latestAbove 12 = .ok (.if_icmp .ge 39, 3) := by decide +kernel
theorem dX6_latestAbove_15 : decode cX6_latestAbove 15 = .ok (.iload 4, 2) := by decide +kernel
theorem dX6_latestAbove_17 : decode cX6_latestAbove 17 = .ok (.ifCond .lt 34, 3) := by decide +kernel
theorem dX6_latestAbove_20 : decode cX6_latestAbove 20 = .ok (.iload 4, 2) := by decide +kernel
theorem dX6_latestAbove_22 : decode cX6_latestAbove 22 = .ok (.aload_n 1, 1) := by decide +kernel
theorem dX6_latestAbove_23 : decode cX6_latestAbove 23 = .ok (.arraylength, 1) := by decide +kernel
theorem dX6_latestAbove_24 : decode cX6_latestAbove 24 = .ok (.if_icmp .ge 27, 3) := by decide +kernel
theorem dX6_latestAbove_27 : decode cX6_latestAbove 27 = .ok (.iload_n 3, 1) := by decide +kernel
theorem dX6_latestAbove_28 : decode cX6_latestAbove 28 = .ok (.aload_n 1, 1) := by decide +kernel
theorem dX6_latestAbove_29 : decode cX6_latestAbove 29 = .ok (.iload 4, 2) := by decide +kernel
theorem dX6_latestAbove_31 : decode cX6_latestAbove 31 = .ok (.iaload, 1) := by decide +kernel
theorem dX6_latestAbove_32 : decode cX6_latestAbove 32 = .ok (.invokestatic 64, 3) := by decide +kernel
theorem dX6_latestAbove_35 : decode cX6_latestAbove 35 = .ok (.istore_n 3, 1) := by decide +kernel
theorem dX6_latestAbove_36 : decode cX6_latestAbove 36 = .ok (.aload_n 2, 1) := by decide +kernel
theorem dX6_latestAbove_37 : decode cX6_latestAbove 37 = .ok (.getfield 59, 3) := by decide +kernel
theorem dX6_latestAbove_40 : decode cX6_latestAbove 40 = .ok (.iload 4, 2) := by decide +kernel
theorem dX6_latestAbove_42 : decode cX6_latestAbove 42 = .ok (.iaload, 1) := by decide +kernel
theorem dX6_latestAbove_43 : decode cX6_latestAbove 43 = .ok (.istore 4, 2) := by decide +kernel
theorem dX6_latestAbove_45 : decode cX6_latestAbove 45 = .ok (.iinc 5 1, 3) := by decide +kernel
theorem dX6_latestAbove_48 : decode cX6_latestAbove 48 = .ok (.goto (-40), 3) := by decide +kernel
theorem dX6_latestAbove_51 : decode cX6_latestAbove 51 = .ok (.iload_n 3, 1) := by decide +kernel
theorem dX6_latestAbove_52 : decode cX6_latestAbove 52 = .ok (.ireturn, 1) := by decide +kernel
theorem dX6_termOf_0 : decode cX6_termOf 0 = .ok (.iload_n 0, 1) := by decide +kernel
theorem dX6_termOf_1 : decode cX6_termOf 1 = .ok (.iload_n 1, 1) := by decide +kernel
theorem dX6_termOf_2 : decode cX6_termOf 2 = .ok (.aload_n 2, 1) := by decide +kernel
theorem dX6_termOf_3 : decode cX6_termOf 3 = .ok (.aload_n 3, 1) := by decide +kernel
theorem dX6_termOf_4 : decode cX6_termOf 4 = .ok (.invokestatic 70, 3) := by decide +kernel
theorem dX6_termOf_7 : decode cX6_termOf 7 = .ok (.istore 4, 2) := by decide +kernel
theorem dX6_termOf_9 : decode cX6_termOf 9 = .ok (.aload_n 2, 1) := by decide +kernel
theorem dX6_termOf_10 : decode cX6_termOf 10 = .ok (.getfield 73, 3) := by decide +kernel
theorem dX6_termOf_13 : decode cX6_termOf 13 = .ok (.iload_n 0, 1) := by decide +kernel
theorem dX6_termOf_14 : decode cX6_termOf 14 = .ok (.baload, 1) := by decide +kernel
theorem dX6_termOf_15 : decode cX6_termOf 15 = .ok (.ifCond .eq 10, 3) := by decide +kernel
theorem dX6_termOf_18 : decode cX6_termOf 18 = .ok (.iload 4, 2) := by decide +kernel
theorem dX6_termOf_20 : decode cX6_termOf 20 = .ok (.invokestatic 77, 3) := by decide +kernel
theorem dX6_termOf_23 : decode cX6_termOf 23 = .ok (.istore 4, 2) := by decide +kernel
theorem dX6_termOf_25 : decode cX6_termOf 25 = .ok (.iload 4, 2) := by decide +kernel
theorem dX6_termOf_27 : decode cX6_termOf 27 = .ok (.iload_n 0, 1) := by decide +kernel
theorem dX6_termOf_28 : decode cX6_termOf 28 = .ok (.aload_n 3, 1) := by decide +kernel
theorem dX6_termOf_29 : decode cX6_termOf 29 = .ok (.invokestatic 83, 3) := by decide +kernel
theorem dX6_termOf_32 : decode cX6_termOf 32 = .ok (.istore 4, 2) := by decide +kernel
theorem dX6_termOf_34 : decode cX6_termOf 34 = .ok (.aload_n 3, 1) := by decide +kernel
theorem dX6_termOf_35 : decode cX6_termOf 35 = .ok (.getfield 87, 3) := by decide +kernel
theorem dX6_termOf_38 : decode cX6_termOf 38 = .ok (.iload_n 0, 1) := by decide +kernel
theorem dX6_termOf_39 : decode cX6_termOf 39 = .ok (.iaload, 1) := by decide +kernel
theorem dX6_termOf_40 : decode cX6_termOf 40 = .ok (.istore 5, 2) := by decide +kernel
theorem dX6_termOf_42 : decode cX6_termOf 42 = .ok (.iload 5, 2) := by decide +kernel
theorem dX6_termOf_44 : decode cX6_termOf 44 = .ok (.iconst (-1), 1) := by decide +kernel
theorem dX6_termOf_45 : decode cX6_termOf 45 = .ok (.if_icmp .ne 8, 3) := by decide +kernel
theorem dX6_termOf_48 : decode cX6_termOf 48 = .ok (.iload 4, 2) := by decide +kernel
theorem dX6_termOf_50 : decode cX6_termOf 50 = .ok (.goto 10, 3) := by decide +kernel
theorem dX6_termOf_53 : decode cX6_termOf 53 = .ok (.iload 4, 2) := by decide +kernel
theorem dX6_termOf_55 : decode cX6_termOf 55 = .ok (.iload 5, 2) := by decide +kernel
theorem dX6_termOf_57 : decode cX6_termOf 57 = .ok (.invokestatic 90, 3) := by decide +kernel
theorem dX6_termOf_60 : decode cX6_termOf 60 = .ok (.ireturn, 1) := by decide +kernel
theorem dX6_toldTerm_0 : decode cX6_toldTerm 0 = .ok (.aload_n 2, 1) := by decide +kernel
theorem dX6_toldTerm_1 : decode cX6_toldTerm 1 = .ok (.getfield 93, 3) := by decide +kernel
theorem dX6_toldTerm_4 : decode cX6_toldTerm 4 = .ok (.iload_n 0, 1) := by decide +kernel
theorem dX6_toldTerm_5 : decode cX6_toldTerm 5 = .ok (.iaload, 1) := by decide +kernel
theorem dX6_toldTerm_6 : decode cX6_toldTerm 6 = .ok (.istore 4, 2) := by decide +kernel
theorem dX6_toldTerm_8 : decode cX6_toldTerm 8 = .ok (.aload_n 2, 1) := by decide +kernel
theorem dX6_toldTerm_9 : decode cX6_toldTerm 9 = .ok (.getfield 96, 3) := by decide +kernel
theorem dX6_toldTerm_12 : decode cX6_toldTerm 12 = .ok (.iload_n 0, 1) := by decide +kernel
theorem dX6_toldTerm_13 : decode cX6_toldTerm 13 = .ok (.aaload, 1) := by decide +kernel
theorem dX6_toldTerm_14 : decode cX6_toldTerm 14 = .ok (.astore 5, 2) := by decide +kernel
theorem dX6_toldTerm_16 : decode cX6_toldTerm 16 = .ok (.aload_n 2, 1) := by decide +kernel
theorem dX6_toldTerm_17 : decode cX6_toldTerm 17 = .ok (.getfield 99, 3) := by decide +kernel
theorem dX6_toldTerm_20 : decode cX6_toldTerm 20 = .ok (.iload_n 0, 1) := by decide +kernel
theorem dX6_toldTerm_21 : decode cX6_toldTerm 21 = .ok (.iaload, 1) := by decide +kernel
theorem dX6_toldTerm_22 : decode cX6_toldTerm 22 = .ok (.tableswitch 121 0 2 #[26, 40, 106], 26) := by decide +kernel
theorem dX6_toldTerm_48 : decode cX6_toldTerm 48 = .ok (.aload_n 2, 1) := by decide +kernel
theorem dX6_toldTerm_49 : decode cX6_toldTerm 49 = .ok (.getfield 102, 3) := by decide +kernel
theorem dX6_toldTerm_52 : decode cX6_toldTerm 52 = .ok (.iload_n 1, 1) := by decide +kernel
theorem dX6_toldTerm_53 : decode cX6_toldTerm 53 = .ok (.iaload, 1) := by decide +kernel
theorem dX6_toldTerm_54 : decode cX6_toldTerm 54 = .ok (.aload 5, 2) := by decide +kernel
theorem dX6_toldTerm_56 : decode cX6_toldTerm 56 = .ok (.iconst 0, 1) := by decide +kernel
theorem dX6_toldTerm_57 : decode cX6_toldTerm 57 = .ok (.iaload, 1) := by decide +kernel
theorem dX6_toldTerm_58 : decode cX6_toldTerm 58 = .ok (.invokestatic 105, 3) := by decide +kernel
theorem dX6_toldTerm_61 : decode cX6_toldTerm 61 = .ok (.ireturn, 1) := by decide +kernel
theorem dX6_toldTerm_62 : decode cX6_toldTerm 62 = .ok (.aload_n 3, 1) := by decide +kernel
theorem dX6_toldTerm_63 : decode cX6_toldTerm 63 = .ok (.getfield 108, 3) := by decide +kernel
theorem dX6_toldTerm_66 : decode cX6_toldTerm 66 = .ok (.iload 4, 2) := by decide +kernel
theorem dX6_toldTerm_68 : decode cX6_toldTerm 68 = .ok (.iaload, 1) := by decide +kernel
theorem dX6_toldTerm_69 : decode cX6_toldTerm 69 = .ok (.iconst (-1), 1) := by decide +kernel
theorem dX6_toldTerm_70 : decode cX6_toldTerm 70 = .ok (.if_icmp .eq 18, 3) := by decide +kernel
theorem dX6_toldTerm_73 : decode cX6_toldTerm 73 = .ok (.aload_n 3, 1) := by decide +kernel
theorem dX6_toldTerm_74 : decode cX6_toldTerm 74 = .ok (.getfield 108, 3) := by decide +kernel
theorem dX6_toldTerm_77 : decode cX6_toldTerm 77 = .ok (.iload 4, 2) := by decide +kernel
theorem dX6_toldTerm_79 : decode cX6_toldTerm 79 = .ok (.iaload, 1) := by decide +kernel
theorem dX6_toldTerm_80 : decode cX6_toldTerm 80 = .ok (.aload 5, 2) := by decide +kernel
theorem dX6_toldTerm_82 : decode cX6_toldTerm 82 = .ok (.iconst 0, 1) := by decide +kernel
theorem dX6_toldTerm_83 : decode cX6_toldTerm 83 = .ok (.iaload, 1) := by decide +kernel
theorem dX6_toldTerm_84 : decode cX6_toldTerm 84 = .ok (.invokestatic 105, 3) := by decide +kernel
theorem dX6_toldTerm_87 : decode cX6_toldTerm 87 = .ok (.ireturn, 1) := by decide +kernel
theorem dX6_toldTerm_88 : decode cX6_toldTerm 88 = .ok (.aload_n 2, 1) := by decide +kernel
theorem dX6_toldTerm_89 : decode cX6_toldTerm 89 = .ok (.getfield 111, 3) := by decide +kernel
theorem dX6_toldTerm_92 : decode cX6_toldTerm 92 = .ok (.iload 4, 2) := by decide +kernel
theorem dX6_toldTerm_94 : decode cX6_toldTerm 94 = .ok (.iaload, 1) := by decide +kernel
theorem dX6_toldTerm_95 : decode cX6_toldTerm 95 = .ok (.iconst (-1), 1) := by decide +kernel
theorem dX6_toldTerm_96 : decode cX6_toldTerm 96 = .ok (.if_icmp .eq 18, 3) := by decide +kernel
theorem dX6_toldTerm_99 : decode cX6_toldTerm 99 = .ok (.aload_n 2, 1) := by decide +kernel
theorem dX6_toldTerm_100 : decode cX6_toldTerm 100 = .ok (.getfield 111, 3) := by decide +kernel
theorem dX6_toldTerm_103 : decode cX6_toldTerm 103 = .ok (.iload 4, 2) := by decide +kernel
theorem dX6_toldTerm_105 : decode cX6_toldTerm 105 = .ok (.iaload, 1) := by decide +kernel
theorem dX6_toldTerm_106 : decode cX6_toldTerm 106 = .ok (.aload 5, 2) := by decide +kernel
theorem dX6_toldTerm_108 : decode cX6_toldTerm 108 = .ok (.iconst 1, 1) := by decide +kernel
theorem dX6_toldTerm_109 : decode cX6_toldTerm 109 = .ok (.iaload, 1) := by decide +kernel
theorem dX6_toldTerm_110 : decode cX6_toldTerm 110 = .ok (.invokestatic 105, 3) := by decide +kernel
theorem dX6_toldTerm_113 : decode cX6_toldTerm 113 = .ok (.ireturn, 1) := by decide +kernel
theorem dX6_toldTerm_114 : decode cX6_toldTerm 114 = .ok (.aload_n 2, 1) := by decide +kernel
theorem dX6_toldTerm_115 : decode cX6_toldTerm 115 = .ok (.getfield 102, 3) := by decide +kernel
theorem dX6_toldTerm_118 : decode cX6_toldTerm 118 = .ok (.iload_n 1, 1) := by decide +kernel
theorem dX6_toldTerm_119 : decode cX6_toldTerm 119 = .ok (.iaload, 1) := by decide +kernel
theorem dX6_toldTerm_120 : decode cX6_toldTerm 120 = .ok (.aload 5, 2) := by decide +kernel
theorem dX6_toldTerm_122 : decode cX6_toldTerm 122 = .ok (.iconst 2, 1) := by decide +kernel
theorem dX6_toldTerm_123 : decode cX6_toldTerm 123 = .ok (.iaload, 1) := by decide +kernel
theorem dX6_toldTerm_124 : decode cX6_toldTerm 124 = .ok (.invokestatic 105, 3) := by decide +kernel
theorem dX6_toldTerm_127 : decode cX6_toldTerm 127 = .ok (.ireturn, 1) := by decide +kernel
theorem dX6_toldTerm_128 : decode cX6_toldTerm 128 = .ok (.aload_n 2, 1) := by decide +kernel
theorem dX6_toldTerm_129 : decode cX6_toldTerm 129 = .ok (.getfield 114, 3) := by decide +kernel
theorem dX6_toldTerm_132 : decode cX6_toldTerm 132 = .ok (.iload 4, 2) := by decide +kernel
theorem dX6_toldTerm_134 : decode cX6_toldTerm 134 = .ok (.iaload, 1) := by decide +kernel
theorem dX6_toldTerm_135 : decode cX6_toldTerm 135 = .ok (.aload 5, 2) := by decide +kernel
theorem dX6_toldTerm_137 : decode cX6_toldTerm 137 = .ok (.iconst 0, 1) := by decide +kernel
theorem dX6_toldTerm_138 : decode cX6_toldTerm 138 = .ok (.iaload, 1) := by decide +kernel
theorem dX6_toldTerm_139 : decode cX6_toldTerm 139 = .ok (.invokestatic 105, 3) := by decide +kernel
theorem dX6_toldTerm_142 : decode cX6_toldTerm 142 = .ok (.ireturn, 1) := by decide +kernel
theorem dX6_toldTerm_143 : decode cX6_toldTerm 143 = .ok (.aload_n 2, 1) := by decide +kernel
theorem dX6_toldTerm_144 : decode cX6_toldTerm 144 = .ok (.getfield 117, 3) := by decide +kernel
theorem dX6_toldTerm_147 : decode cX6_toldTerm 147 = .ok (.iload_n 0, 1) := by decide +kernel
theorem dX6_toldTerm_148 : decode cX6_toldTerm 148 = .ok (.iaload, 1) := by decide +kernel
theorem dX6_toldTerm_149 : decode cX6_toldTerm 149 = .ok (.ireturn, 1) := by decide +kernel
theorem dX6_reviewedTerm_0 : decode cX6_reviewedTerm 0 = .ok (.iload_n 0, 1) := by decide +kernel
theorem dX6_reviewedTerm_1 : decode cX6_reviewedTerm 1 = .ok (.istore_n 3, 1) := by decide +kernel
theorem dX6_reviewedTerm_2 : decode cX6_reviewedTerm 2 = .ok (.iconst 0, 1) := by decide +kernel
theorem dX6_reviewedTerm_3 : decode cX6_reviewedTerm 3 = .ok (.istore 4, 2) := by decide +kernel
theorem dX6_reviewedTerm_5 : decode cX6_reviewedTerm 5 = .ok (.iload 4, 2) := by decide +kernel
theorem dX6_reviewedTerm_7 : decode cX6_reviewedTerm 7 = .ok (.aload_n 2, 1) := by decide +kernel
theorem dX6_reviewedTerm_8 : decode cX6_reviewedTerm 8 = .ok (.getfield 120, 3) := by decide +kernel
theorem dX6_reviewedTerm_11 : decode cX6_reviewedTerm 11 = .ok (.iload_n 1, 1) := by decide +kernel
theorem dX6_reviewedTerm_12 : decode cX6_reviewedTerm 12 = .ok (.iaload, 1) := by decide +kernel
theorem dX6_reviewedTerm_13 : decode cX6_reviewedTerm 13 = .ok (.if_icmp .ge 49, 3) := by decide +kernel
theorem dX6_reviewedTerm_16 : decode cX6_reviewedTerm 16 = .ok (.aload_n 2, 1) := by decide +kernel
theorem dX6_reviewedTerm_17 : decode cX6_reviewedTerm 17 = .ok (.getfield 123, 3) := by decide +kernel
theorem dX6_reviewedTerm_20 : decode cX6_reviewedTerm 20 = .ok (.iload_n 1, 1) := by decide +kernel
theorem dX6_reviewedTerm_21 : decode cX6_reviewedTerm 21 = .ok (.aaload, 1) := by decide +kernel
theorem dX6_reviewedTerm_22 : decode cX6_reviewedTerm 22 = .ok (.iload 4, 2) := by decide +kernel
theorem dX6_reviewedTerm_24 : decode cX6_reviewedTerm 24 = .ok (.iaload, 1) := by decide +kernel
theorem dX6_reviewedTerm_25 : decode cX6_reviewedTerm 25 = .ok (.istore 5, 2) := by decide +kernel
theorem dX6_reviewedTerm_27 : decode cX6_reviewedTerm 27 = .ok (.iload_n 3, 1) := by decide +kernel
theorem dX6_reviewedTerm_28 : decode cX6_reviewedTerm 28 = .ok (.iload 5, 2) := by decide +kernel
theorem dX6_reviewedTerm_30 : decode cX6_reviewedTerm 30 = .ok (.if_icmp .le 26, 3) := by decide +kernel
theorem dX6_reviewedTerm_33 : decode cX6_reviewedTerm 33 = .ok (.iload_n 3, 1) := by decide +kernel
theorem dX6_reviewedTerm_34 : decode cX6_reviewedTerm 34 = .ok (.aload_n 2, 1) := by decide +kernel
theorem dX6_reviewedTerm_35 : decode cX6_reviewedTerm 35 = .ok (.getfield 126, 3) := by decide +kernel
theorem dX6_reviewedTerm_38 : decode cX6_reviewedTerm 38 = .ok (.iload_n 1, 1) := by decide +kernel
theorem dX6_reviewedTerm_39 : decode cX6_reviewedTerm 39 = .ok (.aaload, 1) := by decide +kernel
theorem dX6_reviewedTerm_40 : decode cX6_reviewedTerm 40 = .ok (.iload 4, 2) := by decide +kernel
theorem dX6_reviewedTerm_42 : decode cX6_reviewedTerm 42 = .ok (.iaload, 1) := by decide +kernel
theorem dX6_reviewedTerm_43 : decode cX6_reviewedTerm 43 = .ok (.invokestatic 105, 3) := by decide +kernel
theorem dX6_reviewedTerm_46 : decode cX6_reviewedTerm 46 = .ok (.istore 6, 2) := by decide +kernel
theorem dX6_reviewedTerm_48 : decode cX6_reviewedTerm 48 = .ok (.iload 6, 2) := by decide +kernel
theorem dX6_reviewedTerm_50 : decode cX6_reviewedTerm 50 = .ok (.iload 5, 2) := by decide +kernel
theorem dX6_reviewedTerm_52 : decode cX6_reviewedTerm 52 = .ok (.invokestatic 64, 3) := by decide +kernel
theorem dX6_reviewedTerm_55 : decode cX6_reviewedTerm 55 = .ok (.istore_n 3, 1) := by decide +kernel
theorem dX6_reviewedTerm_56 : decode cX6_reviewedTerm 56 = .ok (.iinc 4 1, 3) := by decide +kernel
theorem dX6_reviewedTerm_59 : decode cX6_reviewedTerm 59 = .ok (.goto (-54), 3) := by decide +kernel
theorem dX6_reviewedTerm_62 : decode cX6_reviewedTerm 62 = .ok (.iload_n 3, 1) := by decide +kernel
theorem dX6_reviewedTerm_63 : decode cX6_reviewedTerm 63 = .ok (.ireturn, 1) := by decide +kernel
theorem dX6_targetsOf_0 : decode cX6_targetsOf 0 = .ok (.aload_n 0, 1) := by decide +kernel
theorem dX6_targetsOf_1 : decode cX6_targetsOf 1 = .ok (.aload_n 0, 1) := by decide +kernel
theorem dX6_targetsOf_2 : decode cX6_targetsOf 2 = .ok (.getfield 20, 3) := by decide +kernel
theorem dX6_targetsOf_5 : decode cX6_targetsOf 5 = .ok (.iload_n 1, 1) := by decide +kernel
theorem dX6_targetsOf_6 : decode cX6_targetsOf 6 = .ok (.aaload, 1) := by decide +kernel
theorem dX6_targetsOf_7 : decode cX6_targetsOf 7 = .ok (.invokevirtual 129, 3) := by decide +kernel
theorem dX6_targetsOf_10 : decode cX6_targetsOf 10 = .ok (.ireturn, 1) := by decide +kernel
theorem dX6_closedUnder_0 : decode cX6_closedUnder 0 = .ok (.aload_n 0, 1) := by decide +kernel
theorem dX6_closedUnder_1 : decode cX6_closedUnder 1 = .ok (.aload_n 0, 1) := by decide +kernel
theorem dX6_closedUnder_2 : decode cX6_closedUnder 2 = .ok (.getfield 23, 3) := by decide +kernel
theorem dX6_closedUnder_5 : decode cX6_closedUnder 5 = .ok (.iload_n 1, 1) := by decide +kernel
theorem dX6_closedUnder_6 : decode cX6_closedUnder 6 = .ok (.aaload, 1) := by decide +kernel
theorem dX6_closedUnder_7 : decode cX6_closedUnder 7 = .ok (.invokevirtual 129, 3) := by decide +kernel
theorem dX6_closedUnder_10 : decode cX6_closedUnder 10 = .ok (.ireturn, 1) := by decide +kernel
theorem dX6_toldIn_0 : decode cX6_toldIn 0 = .ok (.iconst 0, 1) := by decide +kernel
theorem dX6_toldIn_1 : decode cX6_toldIn 1 = .ok (.istore_n 2, 1) := by decide +kernel
theorem dX6_toldIn_2 : decode cX6_toldIn 2 = .ok (.iconst 0, 1) := by decide +kernel
theorem dX6_toldIn_3 : decode cX6_toldIn 3 = .ok (.istore_n 3, 1) := by decide +kernel
theorem dX6_toldIn_4 : decode cX6_toldIn 4 = .ok (.iload_n 3, 1) := by decide +kernel
theorem dX6_toldIn_5 : decode cX6_toldIn 5 = .ok (.aload_n 0, 1) := by decide +kernel
theorem dX6_toldIn_6 : decode cX6_toldIn 6 = .ok (.getfield 38, 3) := by decide +kernel
theorem dX6_toldIn_9 : decode cX6_toldIn 9 = .ok (.if_icmp .ge 22, 3) := by decide +kernel
theorem dX6_toldIn_12 : decode cX6_toldIn 12 = .ok (.aload_n 1, 1) := by decide +kernel
theorem dX6_toldIn_13 : decode cX6_toldIn 13 = .ok (.iload_n 3, 1) := by decide +kernel
theorem dX6_toldIn_14 : decode cX6_toldIn 14 = .ok (.iaload, 1) := by decide +kernel
theorem dX6_toldIn_15 : decode cX6_toldIn 15 = .ok (.iconst (-1), 1) := by decide +kernel
theorem dX6_toldIn_16 : decode cX6_toldIn 16 = .ok (.if_icmp .eq 9, 3) := by decide +kernel
theorem dX6_toldIn_19 : decode cX6_toldIn 19 = .ok (.iload_n 2, 1) := by decide +kernel
theorem dX6_toldIn_20 : decode cX6_toldIn 20 = .ok (.iconst 1, 1) := by decide +kernel
theorem dX6_toldIn_21 : decode cX6_toldIn 21 = .ok (.iload_n 3, 1) := by decide +kernel
theorem dX6_toldIn_22 : decode cX6_toldIn 22 = .ok (.ishl, 1) := by decide +kernel
theorem dX6_toldIn_23 : decode cX6_toldIn 23 = .ok (.ior, 1) := by decide +kernel
theorem dX6_toldIn_24 : decode cX6_toldIn 24 = .ok (.istore_n 2, 1) := by decide +kernel
theorem dX6_toldIn_25 : decode cX6_toldIn 25 = .ok (.iinc 3 1, 3) := by decide +kernel
theorem dX6_toldIn_28 : decode cX6_toldIn 28 = .ok (.goto (-24), 3) := by decide +kernel
theorem dX6_toldIn_31 : decode cX6_toldIn 31 = .ok (.iload_n 2, 1) := by decide +kernel
theorem dX6_toldIn_32 : decode cX6_toldIn 32 = .ok (.ireturn, 1) := by decide +kernel
theorem dX6_openingOf_0 : decode cX6_openingOf 0 = .ok (.iconst 0, 1) := by decide +kernel
theorem dX6_openingOf_1 : decode cX6_openingOf 1 = .ok (.istore_n 3, 1) := by decide +kernel
theorem dX6_openingOf_2 : decode cX6_openingOf 2 = .ok (.iconst 0, 1) := by decide +kernel
theorem dX6_openingOf_3 : decode cX6_openingOf 3 = .ok (.istore 4, 2) := by decide +kernel
theorem dX6_openingOf_5 : decode cX6_openingOf 5 = .ok (.iload 4, 2) := by decide +kernel
theorem dX6_openingOf_7 : decode cX6_openingOf 7 = .ok (.aload_n 0, 1) := by decide +kernel
theorem dX6_openingOf_8 : decode cX6_openingOf 8 = .ok (.getfield 42, 3) := by decide +kernel
theorem dX6_openingOf_11 : decode cX6_openingOf 11 = .ok (.if_icmp .ge 32, 3) := by decide +kernel
theorem dX6_openingOf_14 : decode cX6_openingOf 14 = .ok (.iload_n 2, 1) := by decide +kernel
theorem dX6_openingOf_15 : decode cX6_openingOf 15 = .ok (.iload 4, 2) := by decide +kernel
theorem dX6_openingOf_17 : decode cX6_openingOf 17 = .ok (.invokestatic 133, 3) := by decide +kernel
theorem dX6_openingOf_20 : decode cX6_openingOf 20 = .ok (.ifCond .eq 17, 3) := by decide +kernel
theorem dX6_openingOf_23 : decode cX6_openingOf 23 = .ok (.iload_n 3, 1) := by decide +kernel
theorem dX6_openingOf_24 : decode cX6_openingOf 24 = .ok (.aload_n 0, 1) := by decide +kernel
theorem dX6_openingOf_25 : decode cX6_openingOf 25 = .ok (.getfield 23, 3) := by decide +kernel
theorem dX6_openingOf_28 : decode cX6_openingOf 28 = .ok (.iload 4, 2) := by decide +kernel
theorem dX6_openingOf_30 : decode cX6_openingOf 30 = .ok (.aaload, 1) := by decide +kernel
theorem dX6_openingOf_31 : decode cX6_openingOf 31 = .ok (.iload_n 1, 1) := by decide +kernel
theorem dX6_openingOf_32 : decode cX6_openingOf 32 = .ok (.iaload, 1) := by decide +kernel
theorem dX6_openingOf_33 : decode cX6_openingOf 33 = .ok (.invokestatic 64, 3) := by decide +kernel
theorem dX6_openingOf_36 : decode cX6_openingOf 36 = .ok (.istore_n 3, 1) := by decide +kernel
theorem dX6_openingOf_37 : decode cX6_openingOf 37 = .ok (.iinc 4 1, 3) := by decide +kernel
theorem dX6_openingOf_40 : decode cX6_openingOf 40 = .ok (.goto (-35), 3) := by decide +kernel
theorem dX6_openingOf_43 : decode cX6_openingOf 43 = .ok (.iload_n 3, 1) := by decide +kernel
theorem dX6_openingOf_44 : decode cX6_openingOf 44 = .ok (.ireturn, 1) := by decide +kernel
theorem dX6_closersOf_0 : decode cX6_closersOf 0 = .ok (.iconst 0, 1) := by decide +kernel
theorem dX6_closersOf_1 : decode cX6_closersOf 1 = .ok (.istore 4, 2) := by decide +kernel
theorem dX6_closersOf_3 : decode cX6_closersOf 3 = .ok (.iconst 0, 1) := by decide +kernel
theorem dX6_closersOf_4 : decode cX6_closersOf 4 = .ok (.istore 5, 2) := by decide +kernel
theorem dX6_closersOf_6 : decode cX6_closersOf 6 = .ok (.iload 5, 2) := by decide +kernel
theorem dX6_closersOf_8 : decode cX6_closersOf 8 = .ok (.aload_n 0, 1) := by decide +kernel
theorem dX6_closersOf_9 : decode cX6_closersOf 9 = .ok (.getfield 42, 3) := by decide +kernel
theorem dX6_closersOf_12 : decode cX6_closersOf 12 = .ok (.if_icmp .ge 40, 3) := by decide +kernel
theorem dX6_closersOf_15 : decode cX6_closersOf 15 = .ok (.iload_n 3, 1) := by decide +kernel
theorem dX6_closersOf_16 : decode cX6_closersOf 16 = .ok (.iload 5, 2) := by decide +kernel
theorem dX6_closersOf_18 : decode cX6_closersOf 18 = .ok (.invokestatic 133, 3) := by decide +kernel
theorem dX6_closersOf_21 : decode cX6_closersOf 21 = .ok (.ifCond .eq 25, 3) := by decide +kernel
theorem dX6_closersOf_24 : decode cX6_closersOf 24 = .ok (.iload_n 2, 1) := by decide +kernel
theorem dX6_closersOf_25 : decode cX6_closersOf 25 = .ok (.aload_n 0, 1) := by decide +kernel
theorem dX6_closersOf_26 : decode cX6_closersOf 26 = .ok (.getfield 23, 3) := by decide +kernel
theorem dX6_closersOf_29 : decode cX6_closersOf 29 = .ok (.iload 5, 2) := by decide +kernel
theorem dX6_closersOf_31 : decode cX6_closersOf 31 = .ok (.aaload, 1) := by decide +kernel
theorem dX6_closersOf_32 : decode cX6_closersOf 32 = .ok (.iload_n 1, 1) := by decide +kernel
theorem dX6_closersOf_33 : decode cX6_closersOf 33 = .ok (.iaload, 1) := by decide +kernel
theorem dX6_closersOf_34 : decode cX6_closersOf 34 = .ok (.if_icmp .ge 12, 3) := by decide +kernel
theorem dX6_closersOf_37 : decode cX6_closersOf 37 = .ok (.iload 4, 2) := by decide +kernel
theorem dX6_closersOf_39 : decode cX6_closersOf 39 = .ok (.iconst 1, 1) := by decide +kernel
theorem dX6_closersOf_40 : decode cX6_closersOf 40 = .ok (.iload 5, 2) := by decide +kernel
theorem dX6_closersOf_42 : decode cX6_closersOf 42 = .ok (.ishl, 1) := by decide +kernel
theorem dX6_closersOf_43 : decode cX6_closersOf 43 = .ok (.ior, 1) := by decide +kernel
theorem dX6_closersOf_44 : decode cX6_closersOf 44 = .ok (.istore 4, 2) := by decide +kernel
theorem dX6_closersOf_46 : decode cX6_closersOf 46 = .ok (.iinc 5 1, 3) := by decide +kernel
theorem dX6_closersOf_49 : decode cX6_closersOf 49 = .ok (.goto (-43), 3) := by decide +kernel
theorem dX6_closersOf_52 : decode cX6_closersOf 52 = .ok (.iload 4, 2) := by decide +kernel
theorem dX6_closersOf_54 : decode cX6_closersOf 54 = .ok (.ireturn, 1) := by decide +kernel
theorem dX6_openOn_0 : decode cX6_openOn 0 = .ok (.iconst 0, 1) := by decide +kernel
theorem dX6_openOn_1 : decode cX6_openOn 1 = .ok (.istore_n 3, 1) := by decide +kernel
theorem dX6_openOn_2 : decode cX6_openOn 2 = .ok (.iconst 0, 1) := by decide +kernel
theorem dX6_openOn_3 : decode cX6_openOn 3 = .ok (.istore 4, 2) := by decide +kernel
theorem dX6_openOn_5 : decode cX6_openOn 5 = .ok (.iload 4, 2) := by decide +kernel
theorem dX6_openOn_7 : decode cX6_openOn 7 = .ok (.aload_n 0, 1) := by decide +kernel
theorem dX6_openOn_8 : decode cX6_openOn 8 = .ok (.getfield 38, 3) := by decide +kernel
theorem dX6_openOn_11 : decode cX6_openOn 11 = .ok (.if_icmp .ge 27, 3) := by decide +kernel
theorem dX6_openOn_14 : decode cX6_openOn 14 = .ok (.aload_n 0, 1) := by decide +kernel
theorem dX6_openOn_15 : decode cX6_openOn 15 = .ok (.iload 4, 2) := by decide +kernel
theorem dX6_openOn_17 : decode cX6_openOn 17 = .ok (.iload_n 1, 1) := by decide +kernel
theorem dX6_openOn_18 : decode cX6_openOn 18 = .ok (.iload_n 2, 1) := by decide +kernel
theorem dX6_openOn_19 : decode cX6_openOn 19 = .ok (.invokevirtual 136, 3) := by decide +kernel
theorem dX6_openOn_22 : decode cX6_openOn 22 = .ok (.ifCond .ne 10, 3) := by decide +kernel
theorem dX6_openOn_25 : decode cX6_openOn 25 = .ok (.iload_n 3, 1) := by decide +kernel
theorem dX6_openOn_26 : decode cX6_openOn 26 = .ok (.iconst 1, 1) := by decide +kernel
theorem dX6_openOn_27 : decode cX6_openOn 27 = .ok (.iload 4, 2) := by decide +kernel
theorem dX6_openOn_29 : decode cX6_openOn 29 = .ok (.ishl, 1) := by decide +kernel
theorem dX6_openOn_30 : decode cX6_openOn 30 = .ok (.ior, 1) := by decide +kernel
theorem dX6_openOn_31 : decode cX6_openOn 31 = .ok (.istore_n 3, 1) := by decide +kernel
theorem dX6_openOn_32 : decode cX6_openOn 32 = .ok (.iinc 4 1, 3) := by decide +kernel
theorem dX6_openOn_35 : decode cX6_openOn 35 = .ok (.goto (-30), 3) := by decide +kernel
theorem dX6_openOn_38 : decode cX6_openOn 38 = .ok (.iload_n 3, 1) := by decide +kernel
theorem dX6_openOn_39 : decode cX6_openOn 39 = .ok (.ireturn, 1) := by decide +kernel
theorem dX6_comesAhead_0 : decode cX6_comesAhead 0 = .ok (.aload_n 0, 1) := by decide +kernel
theorem dX6_comesAhead_1 : decode cX6_comesAhead 1 = .ok (.getfield 29, 3) := by decide +kernel
theorem dX6_comesAhead_4 : decode cX6_comesAhead 4 = .ok (.iload_n 1, 1) := by decide +kernel
theorem dX6_comesAhead_5 : decode cX6_comesAhead 5 = .ok (.iaload, 1) := by decide +kernel
theorem dX6_comesAhead_6 : decode cX6_comesAhead 6 = .ok (.aload_n 0, 1) := by decide +kernel
theorem dX6_comesAhead_7 : decode cX6_comesAhead 7 = .ok (.getfield 29, 3) := by decide +kernel
theorem dX6_comesAhead_10 : decode cX6_comesAhead 10 = .ok (.iload_n 2, 1) := by decide +kernel
theorem dX6_comesAhead_11 : decode cX6_comesAhead 11 = .ok (.iaload, 1) := by decide +kernel
theorem dX6_comesAhead_12 : decode cX6_comesAhead 12 = .ok (.if_icmp .eq 24, 3) := by decide +kernel
theorem dX6_comesAhead_15 : decode cX6_comesAhead 15 = .ok (.aload_n 0, 1) := by decide +kernel
theorem dX6_comesAhead_16 : decode cX6_comesAhead 16 = .ok (.getfield 29, 3) := by decide +kernel
theorem dX6_comesAhead_19 : decode cX6_comesAhead 19 = .ok (.iload_n 1, 1) := by decide +kernel
theorem dX6_comesAhead_20 : decode cX6_comesAhead 20 = .ok (.iaload, 1) := by decide +kernel
theorem dX6_comesAhead_21 : decode cX6_comesAhead 21 = .ok (.aload_n 0, 1) := by decide +kernel
theorem dX6_comesAhead_22 : decode cX6_comesAhead 22 = .ok (.getfield 29, 3) := by decide +kernel
theorem dX6_comesAhead_25 : decode cX6_comesAhead 25 = .ok (.iload_n 2, 1) := by decide +kernel
theorem dX6_comesAhead_26 : decode cX6_comesAhead 26 = .ok (.iaload, 1) := by decide +kernel
theorem dX6_comesAhead_27 : decode cX6_comesAhead 27 = .ok (.if_icmp .ge 7, 3) := by decide +kernel
theorem dX6_comesAhead_30 : decode cX6_comesAhead 30 = .ok (.iconst 1, 1) := by decide +kernel
theorem dX6_comesAhead_31 : decode cX6_comesAhead 31 = .ok (.goto 4, 3) := by decide +kernel
theorem dX6_comesAhead_34 : decode cX6_comesAhead 34 = .ok (.iconst 0, 1) := by decide +kernel
theorem dX6_comesAhead_35 : decode cX6_comesAhead 35 = .ok (.ireturn, 1) := by decide +kernel
theorem dX6_comesAhead_36 : decode cX6_comesAhead 36 = .ok (.aload_n 0, 1) := by decide +kernel
theorem dX6_comesAhead_37 : decode cX6_comesAhead 37 = .ok (.getfield 15, 3) := by decide +kernel
theorem dX6_comesAhead_40 : decode cX6_comesAhead 40 = .ok (.iload_n 1, 1) := by decide +kernel
theorem dX6_comesAhead_41 : decode cX6_comesAhead 41 = .ok (.iaload, 1) := by decide +kernel
theorem dX6_comesAhead_42 : decode cX6_comesAhead 42 = .ok (.aload_n 0, 1) := by decide +kernel
theorem dX6_comesAhead_43 : decode cX6_comesAhead 43 = .ok (.getfield 15, 3) := by decide +kernel
theorem dX6_comesAhead_46 : decode cX6_comesAhead 46 = .ok (.iload_n 2, 1) := by decide +kernel
theorem dX6_comesAhead_47 : decode cX6_comesAhead 47 = .ok (.iaload, 1) := by decide +kernel
theorem dX6_comesAhead_48 : decode cX6_comesAhead 48 = .ok (.if_icmp .eq 24, 3) := by decide +kernel
theorem dX6_comesAhead_51 : decode cX6_comesAhead 51 = .ok (.aload_n 0, 1) := by decide +kernel
theorem dX6_comesAhead_52 : decode cX6_comesAhead 52 = .ok (.getfield 15, 3) := by decide +kernel
theorem dX6_comesAhead_55 : decode cX6_comesAhead 55 = .ok (.iload_n 1, 1) := by decide +kernel
theorem dX6_comesAhead_56 : decode cX6_comesAhead 56 = .ok (.iaload, 1) := by decide +kernel
theorem dX6_comesAhead_57 : decode cX6_comesAhead 57 = .ok (.aload_n 0, 1) := by decide +kernel
theorem dX6_comesAhead_58 : decode cX6_comesAhead 58 = .ok (.getfield 15, 3) := by decide +kernel
theorem dX6_comesAhead_61 : decode cX6_comesAhead 61 = .ok (.iload_n 2, 1) := by decide +kernel
theorem dX6_comesAhead_62 : decode cX6_comesAhead 62 = .ok (.iaload, 1) := by decide +kernel
theorem dX6_comesAhead_63 : decode cX6_comesAhead 63 = .ok (.if_icmp .le 7, 3) := by decide +kernel
theorem dX6_comesAhead_66 : decode cX6_comesAhead 66 = .ok (.iconst 1, 1) := by decide +kernel
theorem dX6_comesAhead_67 : decode cX6_comesAhead 67 = .ok (.goto 4, 3) := by decide +kernel
theorem dX6_comesAhead_70 : decode cX6_comesAhead 70 = .ok (.iconst 0, 1) := by decide +kernel
theorem dX6_comesAhead_71 : decode cX6_comesAhead 71 = .ok (.ireturn, 1) := by decide +kernel
theorem dX6_comesAhead_72 : decode cX6_comesAhead 72 = .ok (.iload_n 1, 1) := by decide +kernel
theorem dX6_comesAhead_73 : decode cX6_comesAhead 73 = .ok (.iload_n 2, 1) := by decide +kernel
theorem dX6_comesAhead_74 : decode cX6_comesAhead 74 = .ok (.if_icmp .ge 7, 3) := by decide +kernel
theorem dX6_comesAhead_77 : decode cX6_comesAhead 77 = .ok (.iconst 1, 1) := by decide +kernel
theorem dX6_comesAhead_78 : decode cX6_comesAhead 78 = .ok (.goto 4, 3) := by decide +kernel
theorem dX6_comesAhead_81 : decode cX6_comesAhead 81 = .ok (.iconst 0, 1) := by decide +kernel
theorem dX6_comesAhead_82 : decode cX6_comesAhead 82 = .ok (.ireturn, 1) := by decide +kernel
theorem dX6_openWhenGone_0 : decode cX6_openWhenGone 0 = .ok (.iconst 0, 1) := by decide +kernel
theorem dX6_openWhenGone_1 : decode cX6_openWhenGone 1 = .ok (.istore_n 2, 1) := by decide +kernel
theorem dX6_openWhenGone_2 : decode cX6_openWhenGone 2 = .ok (.iconst 0, 1) := by decide +kernel
theorem dX6_openWhenGone_3 : decode cX6_openWhenGone 3 = .ok (.istore_n 3, 1) := by decide +kernel
theorem dX6_openWhenGone_4 : decode cX6_openWhenGone 4 = .ok (.iload_n 3, 1) := by decide +kernel
theorem dX6_openWhenGone_5 : decode cX6_openWhenGone 5 = .ok (.aload_n 0, 1) := by decide +kernel
theorem dX6_openWhenGone_6 : decode cX6_openWhenGone 6 = .ok (.getfield 38, 3) := by decide +kernel
theorem dX6_openWhenGone_9 : decode cX6_openWhenGone 9 = .ok (.if_icmp .ge 25, 3) := by decide +kernel
theorem dX6_openWhenGone_12 : decode cX6_openWhenGone 12 = .ok (.aload_n 0, 1) := by decide +kernel
theorem dX6_openWhenGone_13 : decode cX6_openWhenGone 13 = .ok (.getfield 26, 3) := by decide +kernel
theorem dX6_openWhenGone_16 : decode cX6_openWhenGone 16 = .ok (.iload_n 3, 1) := by decide +kernel
theorem dX6_openWhenGone_17 : decode cX6_openWhenGone 17 = .ok (.iaload, 1) := by decide +kernel
theorem dX6_openWhenGone_18 : decode cX6_openWhenGone 18 = .ok (.iload_n 1, 1) := by decide +kernel
theorem dX6_openWhenGone_19 : decode cX6_openWhenGone 19 = .ok (.iconst (-1), 1) := by decide +kernel
theorem dX6_openWhenGone_20 : decode cX6_openWhenGone 20 = .ok (.ixor, 1) := by decide +kernel
theorem dX6_openWhenGone_21 : decode cX6_openWhenGone 21 = .ok (.iand, 1) := by decide +kernel
theorem dX6_openWhenGone_22 : decode cX6_openWhenGone 22 = .ok (.ifCond .ne 6, 3) := by decide +kernel
theorem dX6_openWhenGone_25 : decode cX6_openWhenGone 25 = .ok (.iinc 2 1, 3) := by decide +kernel
theorem dX6_openWhenGone_28 : decode cX6_openWhenGone 28 = .ok (.iinc 3 1, 3) := by decide +kernel
theorem dX6_openWhenGone_31 : decode cX6_openWhenGone 31 = .ok (.goto (-27), 3) := by decide +kernel
theorem dX6_openWhenGone_34 : decode cX6_openWhenGone 34 = .ok (.iload_n 2, 1) := by decide +kernel
theorem dX6_openWhenGone_35 : decode cX6_openWhenGone 35 = .ok (.ireturn, 1) := by decide +kernel
theorem dX6_nextOfSameSize_0 : decode cX6_nextOfSameSize 0 = .ok (.iload_n 0, 1) := by decide +kernel
theorem dX6_nextOfSameSize_1 : decode cX6_nextOfSameSize 1 = .ok (.iload_n 0, 1) := by decide +kernel
theorem dX6_nextOfSameSize_2 : decode cX6_nextOfSameSize 2 = .ok (.ineg, 1) := by decide +kernel
theorem dX6_nextOfSameSize_3 : decode cX6_nextOfSameSize 3 = .ok (.iand, 1) := by decide +kernel
theorem dX6_nextOfSameSize_4 : decode cX6_nextOfSameSize 4 = .ok (.istore_n 1, 1) := by decide +kernel
theorem dX6_nextOfSameSize_5 : decode cX6_nextOfSameSize 5 = .ok (.iload_n 0, 1) := by decide +kernel
theorem dX6_nextOfSameSize_6 : decode cX6_nextOfSameSize 6 = .ok (.iload_n 1, 1) := by decide +kernel
theorem dX6_nextOfSameSize_7 : decode cX6_nextOfSameSize 7 = .ok (.iadd, 1) := by decide +kernel
theorem dX6_nextOfSameSize_8 : decode cX6_nextOfSameSize 8 = .ok (.istore_n 2, 1) := by decide +kernel
theorem dX6_nextOfSameSize_9 : decode cX6_nextOfSameSize 9 = .ok (.iload_n 0, 1) := by decide +kernel
theorem dX6_nextOfSameSize_10 : decode cX6_nextOfSameSize 10 = .ok (.iload_n 2, 1) := by decide +kernel
theorem dX6_nextOfSameSize_11 : decode cX6_nextOfSameSize 11 = .ok (.ixor, 1) := by decide +kernel
theorem dX6_nextOfSameSize_12 : decode cX6_nextOfSameSize 12 = .ok (.iconst 2, 1) := by decide +kernel
theorem dX6_nextOfSameSize_13 : decode cX6_nextOfSameSize 13 = .ok (.iushr, 1) := by decide +kernel
theorem dX6_nextOfSameSize_14 : decode cX6_nextOfSameSize 14 = .ok (.iload_n 1, 1) := by decide +kernel
theorem dX6_nextOfSameSize_15 : decode cX6_nextOfSameSize 15 = .ok (.invokestatic 152, 3) := by decide +kernel
theorem dX6_nextOfSameSize_18 : decode cX6_nextOfSameSize 18 = .ok (.iushr, 1) := by decide +kernel
theorem dX6_nextOfSameSize_19 : decode cX6_nextOfSameSize 19 = .ok (.istore_n 3, 1) := by decide +kernel
theorem dX6_nextOfSameSize_20 : decode cX6_nextOfSameSize 20 = .ok (.iload_n 2, 1) := by decide +kernel
theorem dX6_nextOfSameSize_21 : decode cX6_nextOfSameSize 21 = .ok (.iload_n 3, 1) := by decide +kernel
theorem dX6_nextOfSameSize_22 : decode cX6_nextOfSameSize 22 = .ok (.ior, 1) := by decide +kernel
theorem dX6_nextOfSameSize_23 : decode cX6_nextOfSameSize 23 = .ok (.ireturn, 1) := by decide +kernel
theorem dJ6_numberOfTrailingZeros_0f7a4_0 : decode cJ6_numberOfTrailingZeros_0f7a4 0 = .ok (.iload_n 0, 1) := by decide +kernel
theorem dJ6_numberOfTrailingZeros_0f7a4_1 : decode cJ6_numberOfTrailingZeros_0f7a4 1 = .ok (.iconst (-1), 1) := by decide +kernel
theorem dJ6_numberOfTrailingZeros_0f7a4_2 : decode cJ6_numberOfTrailingZeros_0f7a4 2 = .ok (.ixor, 1) := by decide +kernel
theorem dJ6_numberOfTrailingZeros_0f7a4_3 : decode cJ6_numberOfTrailingZeros_0f7a4 3 = .ok (.iload_n 0, 1) := by decide +kernel
theorem dJ6_numberOfTrailingZeros_0f7a4_4 : decode cJ6_numberOfTrailingZeros_0f7a4 4 = .ok (.iconst 1, 1) := by decide +kernel
theorem dJ6_numberOfTrailingZeros_0f7a4_5 : decode cJ6_numberOfTrailingZeros_0f7a4 5 = .ok (.isub, 1) := by decide +kernel
theorem dJ6_numberOfTrailingZeros_0f7a4_6 : decode cJ6_numberOfTrailingZeros_0f7a4 6 = .ok (.iand, 1) := by decide +kernel
theorem dJ6_numberOfTrailingZeros_0f7a4_7 : decode cJ6_numberOfTrailingZeros_0f7a4 7 = .ok (.istore_n 0, 1) := by decide +kernel
theorem dJ6_numberOfTrailingZeros_0f7a4_8 : decode cJ6_numberOfTrailingZeros_0f7a4 8 = .ok (.iload_n 0, 1) := by decide +kernel
theorem dJ6_numberOfTrailingZeros_0f7a4_9 : decode cJ6_numberOfTrailingZeros_0f7a4 9 = .ok (.ifCond .gt 8, 3) := by decide +kernel
theorem dJ6_numberOfTrailingZeros_0f7a4_12 : decode cJ6_numberOfTrailingZeros_0f7a4 12 = .ok (.iload_n 0, 1) := by decide +kernel
theorem dJ6_numberOfTrailingZeros_0f7a4_13 : decode cJ6_numberOfTrailingZeros_0f7a4 13 = .ok (.bipush 32, 2) := by decide +kernel
theorem dJ6_numberOfTrailingZeros_0f7a4_15 : decode cJ6_numberOfTrailingZeros_0f7a4 15 = .ok (.iand, 1) := by decide +kernel
theorem dJ6_numberOfTrailingZeros_0f7a4_16 : decode cJ6_numberOfTrailingZeros_0f7a4 16 = .ok (.ireturn, 1) := by decide +kernel
theorem dJ6_numberOfTrailingZeros_0f7a4_17 : decode cJ6_numberOfTrailingZeros_0f7a4 17 = .ok (.iconst 1, 1) := by decide +kernel
theorem dJ6_numberOfTrailingZeros_0f7a4_18 : decode cJ6_numberOfTrailingZeros_0f7a4 18 = .ok (.istore_n 1, 1) := by decide +kernel
theorem dJ6_numberOfTrailingZeros_0f7a4_19 : decode cJ6_numberOfTrailingZeros_0f7a4 19 = .ok (.iload_n 0, 1) := by decide +kernel
theorem dJ6_numberOfTrailingZeros_0f7a4_20 : decode cJ6_numberOfTrailingZeros_0f7a4 20 = .ok (.ldc_w 264, 3) := by decide +kernel
theorem dJ6_numberOfTrailingZeros_0f7a4_23 : decode cJ6_numberOfTrailingZeros_0f7a4 23 = .ok (.if_icmp .le 11, 3) := by decide +kernel
theorem dJ6_numberOfTrailingZeros_0f7a4_26 : decode cJ6_numberOfTrailingZeros_0f7a4 26 = .ok (.iinc 1 16, 3) := by decide +kernel
theorem dJ6_numberOfTrailingZeros_0f7a4_29 : decode cJ6_numberOfTrailingZeros_0f7a4 29 = .ok (.iload_n 0, 1) := by decide +kernel
theorem dJ6_numberOfTrailingZeros_0f7a4_30 : decode cJ6_numberOfTrailingZeros_0f7a4 30 = .ok (.bipush 16, 2) := by decide +kernel
theorem dJ6_numberOfTrailingZeros_0f7a4_32 : decode cJ6_numberOfTrailingZeros_0f7a4 32 = .ok (.iushr, 1) := by decide +kernel
theorem dJ6_numberOfTrailingZeros_0f7a4_33 : decode cJ6_numberOfTrailingZeros_0f7a4 33 = .ok (.istore_n 0, 1) := by decide +kernel
theorem dJ6_numberOfTrailingZeros_0f7a4_34 : decode cJ6_numberOfTrailingZeros_0f7a4 34 = .ok (.iload_n 0, 1) := by decide +kernel
theorem dJ6_numberOfTrailingZeros_0f7a4_35 : decode cJ6_numberOfTrailingZeros_0f7a4 35 = .ok (.sipush 256, 3) := by decide +kernel
theorem dJ6_numberOfTrailingZeros_0f7a4_38 : decode cJ6_numberOfTrailingZeros_0f7a4 38 = .ok (.if_icmp .le 11, 3) := by decide +kernel
theorem dJ6_numberOfTrailingZeros_0f7a4_41 : decode cJ6_numberOfTrailingZeros_0f7a4 41 = .ok (.iinc 1 8, 3) := by decide +kernel
theorem dJ6_numberOfTrailingZeros_0f7a4_44 : decode cJ6_numberOfTrailingZeros_0f7a4 44 = .ok (.iload_n 0, 1) := by decide +kernel
theorem dJ6_numberOfTrailingZeros_0f7a4_45 : decode cJ6_numberOfTrailingZeros_0f7a4 45 = .ok (.bipush 8, 2) := by decide +kernel
theorem dJ6_numberOfTrailingZeros_0f7a4_47 : decode cJ6_numberOfTrailingZeros_0f7a4 47 = .ok (.iushr, 1) := by decide +kernel
theorem dJ6_numberOfTrailingZeros_0f7a4_48 : decode cJ6_numberOfTrailingZeros_0f7a4 48 = .ok (.istore_n 0, 1) := by decide +kernel
theorem dJ6_numberOfTrailingZeros_0f7a4_49 : decode cJ6_numberOfTrailingZeros_0f7a4 49 = .ok (.iload_n 0, 1) := by decide +kernel
theorem dJ6_numberOfTrailingZeros_0f7a4_50 : decode cJ6_numberOfTrailingZeros_0f7a4 50 = .ok (.bipush 16, 2) := by decide +kernel
theorem dJ6_numberOfTrailingZeros_0f7a4_52 : decode cJ6_numberOfTrailingZeros_0f7a4 52 = .ok (.if_icmp .le 10, 3) := by decide +kernel
theorem dJ6_numberOfTrailingZeros_0f7a4_55 : decode cJ6_numberOfTrailingZeros_0f7a4 55 = .ok (.iinc 1 4, 3) := by decide +kernel
theorem dJ6_numberOfTrailingZeros_0f7a4_58 : decode cJ6_numberOfTrailingZeros_0f7a4 58 = .ok (.iload_n 0, 1) := by decide +kernel
theorem dJ6_numberOfTrailingZeros_0f7a4_59 : decode cJ6_numberOfTrailingZeros_0f7a4 59 = .ok (.iconst 4, 1) := by decide +kernel
theorem dJ6_numberOfTrailingZeros_0f7a4_60 : decode cJ6_numberOfTrailingZeros_0f7a4 60 = .ok (.iushr, 1) := by decide +kernel
theorem dJ6_numberOfTrailingZeros_0f7a4_61 : decode cJ6_numberOfTrailingZeros_0f7a4 61 = .ok (.istore_n 0, 1) := by decide +kernel
theorem dJ6_numberOfTrailingZeros_0f7a4_62 : decode cJ6_numberOfTrailingZeros_0f7a4 62 = .ok (.iload_n 0, 1) := by decide +kernel
theorem dJ6_numberOfTrailingZeros_0f7a4_63 : decode cJ6_numberOfTrailingZeros_0f7a4 63 = .ok (.iconst 4, 1) := by decide +kernel
theorem dJ6_numberOfTrailingZeros_0f7a4_64 : decode cJ6_numberOfTrailingZeros_0f7a4 64 = .ok (.if_icmp .le 10, 3) := by decide +kernel
theorem dJ6_numberOfTrailingZeros_0f7a4_67 : decode cJ6_numberOfTrailingZeros_0f7a4 67 = .ok (.iinc 1 2, 3) := by decide +kernel
theorem dJ6_numberOfTrailingZeros_0f7a4_70 : decode cJ6_numberOfTrailingZeros_0f7a4 70 = .ok (.iload_n 0, 1) := by decide +kernel
theorem dJ6_numberOfTrailingZeros_0f7a4_71 : decode cJ6_numberOfTrailingZeros_0f7a4 71 = .ok (.iconst 2, 1) := by decide +kernel
theorem dJ6_numberOfTrailingZeros_0f7a4_72 : decode cJ6_numberOfTrailingZeros_0f7a4 72 = .ok (.iushr, 1) := by decide +kernel
theorem dJ6_numberOfTrailingZeros_0f7a4_73 : decode cJ6_numberOfTrailingZeros_0f7a4 73 = .ok (.istore_n 0, 1) := by decide +kernel
theorem dJ6_numberOfTrailingZeros_0f7a4_74 : decode cJ6_numberOfTrailingZeros_0f7a4 74 = .ok (.iload_n 1, 1) := by decide +kernel
theorem dJ6_numberOfTrailingZeros_0f7a4_75 : decode cJ6_numberOfTrailingZeros_0f7a4 75 = .ok (.iload_n 0, 1) := by decide +kernel
theorem dJ6_numberOfTrailingZeros_0f7a4_76 : decode cJ6_numberOfTrailingZeros_0f7a4 76 = .ok (.iconst 1, 1) := by decide +kernel
theorem dJ6_numberOfTrailingZeros_0f7a4_77 : decode cJ6_numberOfTrailingZeros_0f7a4 77 = .ok (.iushr, 1) := by decide +kernel
theorem dJ6_numberOfTrailingZeros_0f7a4_78 : decode cJ6_numberOfTrailingZeros_0f7a4 78 = .ok (.iadd, 1) := by decide +kernel
theorem dJ6_numberOfTrailingZeros_0f7a4_79 : decode cJ6_numberOfTrailingZeros_0f7a4 79 = .ok (.ireturn, 1) := by decide +kernel
theorem qw_124 : (Cond.fieldLink RX6 38 "ClosedUntil$Timetable" "pieces" "I" : Cond) ∈ TBL := List.mem_of_getElem? (i := 560) (by decide +kernel)
theorem qw_125 : (Cond.fieldLink RX6 15 "ClosedUntil$Timetable" "depth" "[I" : Cond) ∈ TBL := List.mem_of_getElem? (i := 122) (by decide +kernel)
theorem qw_126 : (Cond.fieldLink RX6 9 "ClosedUntil$Timetable" "below" "[I" : Cond) ∈ TBL := List.mem_of_getElem? (i := 121) (by decide +kernel)
theorem qw_127 : (Cond.methodLink RX6 64 Lib.Math.max.name : Cond) ∈ TBL := List.mem_of_getElem? (i := 581) (by decide +kernel)
theorem qw_128 : (Cond.static Lib.Math.max.name : Cond) ∈ TBL := List.mem_of_getElem? (i := 582) (by decide +kernel)
theorem qw_129 : (Cond.code Lib.Math.max.name Lib.Math.max.code 2 (some .int) : Cond) ∈ TBL := List.mem_of_getElem? (i := 583) (by decide +kernel)
theorem qw_130 : (Cond.code yX0_yearsOn cX0_yearsOn 7 (some .int) : Cond) ∈ TBL := List.mem_of_getElem? (i := 531) (by decide +kernel)
theorem qw_131 : (Cond.static yX0_yearsOn : Cond) ∈ TBL := List.mem_of_getElem? (i := 530) (by decide +kernel)
theorem qw_132 : (Cond.code yX6_toldTerm cX6_toldTerm 6 (some .int) : Cond) ∈ TBL := List.mem_of_getElem? (i := 575) (by decide +kernel)
theorem qw_133 : (Cond.initialized RX6 : Cond) ∈ TBL := List.mem_of_getElem? (i := 23) (by decide +kernel)
theorem qw_134 : (Cond.methodLink RX6 70 yX6_toldTerm : Cond) ∈ TBL := List.mem_of_getElem? (i := 573) (by decide +kernel)
theorem qw_135 : (Cond.static yX6_toldTerm : Cond) ∈ TBL := List.mem_of_getElem? (i := 574) (by decide +kernel)
theorem qw_136 : (Cond.code yX6_reviewedTerm cX6_reviewedTerm 7 (some .int) : Cond) ∈ TBL := List.mem_of_getElem? (i := 580) (by decide +kernel)
theorem qw_137 : (Cond.methodLink RX6 83 yX6_reviewedTerm : Cond) ∈ TBL := List.mem_of_getElem? (i := 578) (by decide +kernel)
theorem qw_138 : (Cond.static yX6_reviewedTerm : Cond) ∈ TBL := List.mem_of_getElem? (i := 579) (by decide +kernel)
theorem qw_139 : (Cond.methodLink RX6 90 Lib.Math.min.name : Cond) ∈ TBL := List.mem_of_getElem? (i := 572) (by decide +kernel)
theorem qw_140 : (Cond.code yX0_newYearBehind cX0_newYearBehind 1 (some .int) : Cond) ∈ TBL := List.mem_of_getElem? (i := 577) (by decide +kernel)
theorem qw_141 : (Cond.static yX0_newYearBehind : Cond) ∈ TBL := List.mem_of_getElem? (i := 576) (by decide +kernel)
theorem qw_142 : (Cond.fieldLink RX6 20 "ClosedUntil$Timetable" "terms" "[[I" : Cond) ∈ TBL := List.mem_of_getElem? (i := 124) (by decide +kernel)
theorem qw_143 : (Cond.code yX6_toldIn cX6_toldIn 4 (some .int) : Cond) ∈ TBL := List.mem_of_getElem? (i := 642) (by decide +kernel)
theorem qw_144 : (Cond.methodLink RX6 129 yX6_toldIn : Cond) ∈ TBL := List.mem_of_getElem? (i := 639) (by decide +kernel)
theorem qw_145 : (Cond.instanceMethod yX6_toldIn : Cond) ∈ TBL := List.mem_of_getElem? (i := 640) (by decide +kernel)
theorem qw_146 : (Cond.selects RX6 yX6_toldIn yX6_toldIn : Cond) ∈ TBL := List.mem_of_getElem? (i := 641) (by decide +kernel)
theorem qw_147 : (Cond.fieldLink RX6 23 "ClosedUntil$Timetable" "ends" "[[I" : Cond) ∈ TBL := List.mem_of_getElem? (i := 125) (by decide +kernel)
theorem qw_148 : (Cond.fieldLink RX6 42 "ClosedUntil$Timetable" "closures" "I" : Cond) ∈ TBL := List.mem_of_getElem? (i := 561) (by decide +kernel)
theorem qw_149 : (Cond.code yX6_closersOf cX6_closersOf 6 (some .int) : Cond) ∈ TBL := List.mem_of_getElem? (i := 755) (by decide +kernel)
theorem qw_150 : (Cond.methodLink RX6 136 yX6_closersOf : Cond) ∈ TBL := List.mem_of_getElem? (i := 782) (by decide +kernel)
theorem qw_151 : (Cond.instanceMethod yX6_closersOf : Cond) ∈ TBL := List.mem_of_getElem? (i := 753) (by decide +kernel)
theorem qw_152 : (Cond.selects RX6 yX6_closersOf yX6_closersOf : Cond) ∈ TBL := List.mem_of_getElem? (i := 754) (by decide +kernel)
theorem qw_153 : (Cond.fieldLink RX6 29 "ClosedUntil$Timetable" "openings" "[I" : Cond) ∈ TBL := List.mem_of_getElem? (i := 127) (by decide +kernel)
theorem qw_154 : (Cond.fieldLink RX6 26 "ClosedUntil$Timetable" "closers" "[I" : Cond) ∈ TBL := List.mem_of_getElem? (i := 126) (by decide +kernel)
theorem qw_155 : (Cond.constant RJ6 264 (65536) : Cond) ∈ TBL := List.mem_of_getElem? (i := 849) (by decide +kernel)
theorem qw_156 : (Cond.code yJ6_numberOfTrailingZeros_0f7a4 cJ6_numberOfTrailingZeros_0f7a4 2 (some .int) : Cond) ∈ TBL := List.mem_of_getElem? (i := 848) (by decide +kernel)
theorem qw_157 : (Cond.initialized RJ6 : Cond) ∈ TBL := List.mem_of_getElem? (i := 847) (by decide +kernel)
theorem qw_158 : (Cond.methodLink RX6 152 yJ6_numberOfTrailingZeros_0f7a4 : Cond) ∈ TBL := List.mem_of_getElem? (i := 845) (by decide +kernel)
theorem qw_159 : (Cond.static yJ6_numberOfTrailingZeros_0f7a4 : Cond) ∈ TBL := List.mem_of_getElem? (i := 846) (by decide +kernel)
theorem rgU2_4107713 {c0 c1 : Nat × va_E} {rows : va_W} {j : Nat} {v : Nat × va_E} (h : rows[j]? = some v) : ([c0, c1] ++ rows)[2 + j]? = some v := rowUp rfl h
theorem rgL2_904ffdf {c0 c1 : Nat × va_E} {R : va_W} : (([c0, c1] ++ R : va_W))[0]? = some c0 := rfl
theorem rgL2_e1dca27 {c0 c1 : Nat × va_E} {R : va_W} : (([c0, c1] ++ R : va_W))[1]? = some c1 := rfl
theorem rgT2_453da77 {t0 t1 : ClassId × FieldType} : (([t0, t1] : List (ClassId × FieldType)))[0]? = some t0 := rfl
theorem rgL10_ed6c27a {c0 c1 c2 c3 c4 c5 c6 c7 c8 c9 : Nat × va_E} {R : va_W} : (([c0, c1, c2, c3, c4, c5, c6, c7, c8, c9] ++ R : va_W))[0]? = some c0 := rfl
theorem rgL10_2ecdb4e {c0 c1 c2 c3 c4 c5 c6 c7 c8 c9 : Nat × va_E} {R : va_W} : (([c0, c1, c2, c3, c4, c5, c6, c7, c8, c9] ++ R : va_W))[5]? = some c5 := rfl
theorem rgT9_9e21aff {t0 t1 t2 t3 t4 t5 t6 t7 t8 : ClassId × FieldType} : (([t0, t1, t2, t3, t4, t5, t6, t7, t8] : List (ClassId × FieldType)))[4]? = some t4 := rfl
theorem rgL10_de5b6f1 {c0 c1 c2 c3 c4 c5 c6 c7 c8 c9 : Nat × va_E} {R : va_W} : (([c0, c1, c2, c3, c4, c5, c6, c7, c8, c9] ++ R : va_W))[6]? = some c6 := rfl
theorem rgT9_6f20d7e {t0 t1 t2 t3 t4 t5 t6 t7 t8 : ClassId × FieldType} : (([t0, t1, t2, t3, t4, t5, t6, t7, t8] : List (ClassId × FieldType)))[5]? = some t5 := rfl
theorem rgL10_19cd938 {c0 c1 c2 c3 c4 c5 c6 c7 c8 c9 : Nat × va_E} {R : va_W} : (([c0, c1, c2, c3, c4, c5, c6, c7, c8, c9] ++ R : va_W))[4]? = some c4 := rfl
theorem rgT9_3fbe917 {t0 t1 t2 t3 t4 t5 t6 t7 t8 : ClassId × FieldType} : (([t0, t1, t2, t3, t4, t5, t6, t7, t8] : List (ClassId × FieldType)))[3]? = some t3 := rfl
theorem rgL10_81c4950 {c0 c1 c2 c3 c4 c5 c6 c7 c8 c9 : Nat × va_E} {R : va_W} : (([c0, c1, c2, c3, c4, c5, c6, c7, c8, c9] ++ R : va_W))[3]? = some c3 := rfl
theorem rgT9_bc6cf1d {t0 t1 t2 t3 t4 t5 t6 t7 t8 : ClassId × FieldType} : (([t0, t1, t2, t3, t4, t5, t6, t7, t8] : List (ClassId × FieldType)))[2]? = some t2 := rfl
theorem rgU10_aa36529 {c0 c1 c2 c3 c4 c5 c6 c7 c8 c9 : Nat × va_E} {rows : va_W} {j : Nat} {v : Nat × va_E} (h : rows[j]? = some v) : ([c0, c1, c2, c3, c4, c5, c6, c7, c8, c9] ++ rows)[10 + j]? = some v := rowUp rfl h
theorem rgT9_e83ad87 {t0 t1 t2 t3 t4 t5 t6 t7 t8 : ClassId × FieldType} : (([t0, t1, t2, t3, t4, t5, t6, t7, t8] : List (ClassId × FieldType)))[8]? = some t8 := rfl
theorem rgP10_1e42bb6 {D : va_G} {cl : List vw_C} {H : Heap} {c0 c1 c2 c3 c4 c5 c6 c7 c8 c9 : Nat × va_E} {R : va_W} (h : va_P D cl ([c0, c1, c2, c3, c4, c5, c6, c7, c8, c9] ++ R) H) : va_P D cl ([]) H := h.sub (ws' := []) [] rfl
theorem rgK9_204429a {D : va_G} {cl : List vw_C} {U : State} {t0 t1 t2 t3 t4 t5 t6 t7 t8 : ClassId × FieldType} (h : va_K D cl [t0, t1, t2, t3, t4, t5, t6, t7, t8] U) : va_K D cl [] U := h.sub (tys' := []) [] rfl
theorem rgL10_167f2b6 {c0 c1 c2 c3 c4 c5 c6 c7 c8 c9 : Nat × va_E} {R : va_W} : (([c0, c1, c2, c3, c4, c5, c6, c7, c8, c9] ++ R : va_W))[8]? = some c8 := rfl
theorem rgL10_44a501e {c0 c1 c2 c3 c4 c5 c6 c7 c8 c9 : Nat × va_E} {R : va_W} : (([c0, c1, c2, c3, c4, c5, c6, c7, c8, c9] ++ R : va_W))[9]? = some c9 := rfl
theorem rgT9_b6a8be7 {t0 t1 t2 t3 t4 t5 t6 t7 t8 : ClassId × FieldType} : (([t0, t1, t2, t3, t4, t5, t6, t7, t8] : List (ClassId × FieldType)))[7]? = some t7 := rfl
theorem rgL10_1194c39 {c0 c1 c2 c3 c4 c5 c6 c7 c8 c9 : Nat × va_E} {R : va_W} : (([c0, c1, c2, c3, c4, c5, c6, c7, c8, c9] ++ R : va_W))[1]? = some c1 := rfl
theorem rgT9_705ed8a {t0 t1 t2 t3 t4 t5 t6 t7 t8 : ClassId × FieldType} : (([t0, t1, t2, t3, t4, t5, t6, t7, t8] : List (ClassId × FieldType)))[0]? = some t0 := rfl
theorem rgL10_f10613d {c0 c1 c2 c3 c4 c5 c6 c7 c8 c9 : Nat × va_E} {R : va_W} : (([c0, c1, c2, c3, c4, c5, c6, c7, c8, c9] ++ R : va_W))[2]? = some c2 := rfl
theorem rgT9_ade3714 {t0 t1 t2 t3 t4 t5 t6 t7 t8 : ClassId × FieldType} : (([t0, t1, t2, t3, t4, t5, t6, t7, t8] : List (ClassId × FieldType)))[1]? = some t1 := rfl
theorem rgL10_50db701 {c0 c1 c2 c3 c4 c5 c6 c7 c8 c9 : Nat × va_E} {R : va_W} : (([c0, c1, c2, c3, c4, c5, c6, c7, c8, c9] ++ R : va_W))[7]? = some c7 := rfl
theorem rgT9_4ac895f {t0 t1 t2 t3 t4 t5 t6 t7 t8 : ClassId × FieldType} : (([t0, t1, t2, t3, t4, t5, t6, t7, t8] : List (ClassId × FieldType)))[6]? = some t6 := rfl
theorem rgP4_d03f170 {D : va_G} {cl : List vw_C} {H : Heap} {c0 c1 c2 c3 : Nat × va_E} {R : va_W} (h : va_P D cl ([c0, c1, c2, c3] ++ R) H) : va_P D cl ([]) H := h.sub (ws' := []) [] rfl
theorem rgP15_1bfaa4d {D : va_G} {cl : List vw_C} {H : Heap} {c0 c1 c2 c3 c4 c5 c6 c7 c8 c9 c10 c11 c12 c13 c14 : Nat × va_E} {R : va_W} (h : va_P D cl ([c0, c1, c2, c3, c4, c5, c6, c7, c8, c9, c10, c11, c12, c13, c14] ++ R) H) : va_P D cl ([c0, c1, c2, c3, c4, c5, c7, c8, c9, c10] ++ R) H := h.part (X := [c0, c1, c2, c3, c4, c5, c6, c7, c8, c9, c10, c11, c12, c13, c14]) (cx := [c0, c1, c2, c3, c4, c5, c7, c8, c9, c10]) [0, 1, 2, 3, 4, 5, 7, 8, 9, 10] rfl
theorem rgK14_f3cef38 {D : va_G} {cl : List vw_C} {U : State} {t0 t1 t2 t3 t4 t5 t6 t7 t8 t9 t10 t11 t12 t13 : ClassId × FieldType} (h : va_K D cl [t0, t1, t2, t3, t4, t5, t6, t7, t8, t9, t10, t11, t12, t13] U) : va_K D cl [t0, t1, t2, t3, t4, t6, t7, t8] U := h.sub (tys' := [t0, t1, t2, t3, t4, t6, t7, t8]) [0, 1, 2, 3, 4, 6, 7, 8] rfl
theorem rgL15_9ccb6ee {c0 c1 c2 c3 c4 c5 c6 c7 c8 c9 c10 c11 c12 c13 c14 : Nat × va_E} {R : va_W} : (([c0, c1, c2, c3, c4, c5, c6, c7, c8, c9, c10, c11, c12, c13, c14] ++ R : va_W))[0]? = some c0 := rfl
theorem rgL15_52eb72f {c0 c1 c2 c3 c4 c5 c6 c7 c8 c9 c10 c11 c12 c13 c14 : Nat × va_E} {R : va_W} : (([c0, c1, c2, c3, c4, c5, c6, c7, c8, c9, c10, c11, c12, c13, c14] ++ R : va_W))[6]? = some c6 := rfl
theorem rgT14_bd48d55 {t0 t1 t2 t3 t4 t5 t6 t7 t8 t9 t10 t11 t12 t13 : ClassId × FieldType} : (([t0, t1, t2, t3, t4, t5, t6, t7, t8, t9, t10, t11, t12, t13] : List (ClassId × FieldType)))[5]? = some t5 := rfl
theorem rgP15_7a2eac0 {D : va_G} {cl : List vw_C} {H : Heap} {c0 c1 c2 c3 c4 c5 c6 c7 c8 c9 c10 c11 c12 c13 c14 : Nat × va_E} {R : va_W} (h : va_P D cl ([c0, c1, c2, c3, c4, c5, c6, c7, c8, c9, c10, c11, c12, c13, c14] ++ R) H) : va_P D cl ([c9, c12, c13, c14] ++ R) H := h.part (X := [c0, c1, c2, c3, c4, c5, c6, c7, c8, c9, c10, c11, c12, c13, c14]) (cx := [c9, c12, c13, c14]) [9, 12, 13, 14] rfl
theorem rgK14_e17c2b5 {D : va_G} {cl : List vw_C} {U : State} {t0 t1 t2 t3 t4 t5 t6 t7 t8 t9 t10 t11 t12 t13 : ClassId × FieldType} (h : va_K D cl [t0, t1, t2, t3, t4, t5, t6, t7, t8, t9, t10, t11, t12, t13] U) : va_K D cl [t10, t11, t12] U := h.sub (tys' := [t10, t11, t12]) [10, 11, 12] rfl
theorem rgL15_effe1c2 {c0 c1 c2 c3 c4 c5 c6 c7 c8 c9 c10 c11 c12 c13 c14 : Nat × va_E} {R : va_W} : (([c0, c1, c2, c3, c4, c5, c6, c7, c8, c9, c10, c11, c12, c13, c14] ++ R : va_W))[9]? = some c9 := rfl
theorem rgL15_6a48bec {c0 c1 c2 c3 c4 c5 c6 c7 c8 c9 c10 c11 c12 c13 c14 : Nat × va_E} {R : va_W} : (([c0, c1, c2, c3, c4, c5, c6, c7, c8, c9, c10, c11, c12, c13, c14] ++ R : va_W))[11]? = some c11 := rfl
theorem rgT14_297e950 {t0 t1 t2 t3 t4 t5 t6 t7 t8 t9 t10 t11 t12 t13 : ClassId × FieldType} : (([t0, t1, t2, t3, t4, t5, t6, t7, t8, t9, t10, t11, t12, t13] : List (ClassId × FieldType)))[9]? = some t9 := rfl
theorem rgP15_8d36d56 {D : va_G} {cl : List vw_C} {H : Heap} {c0 c1 c2 c3 c4 c5 c6 c7 c8 c9 c10 c11 c12 c13 c14 : Nat × va_E} {R : va_W} (h : va_P D cl ([c0, c1, c2, c3, c4, c5, c6, c7, c8, c9, c10, c11, c12, c13, c14] ++ R) H) : va_P D cl ([]) H := h.sub (ws' := []) [] rfl
theorem rgK14_c7a8fe5 {D : va_G} {cl : List vw_C} {U : State} {t0 t1 t2 t3 t4 t5 t6 t7 t8 t9 t10 t11 t12 t13 : ClassId × FieldType} (h : va_K D cl [t0, t1, t2, t3, t4, t5, t6, t7, t8, t9, t10, t11, t12, t13] U) : va_K D cl [] U := h.sub (tys' := []) [] rfl
theorem rgL1_a1e3ca8 {c0 : Nat × va_E} {R : va_W} : (([c0] ++ R : va_W))[0]? = some c0 := rfl
theorem rgU1_1c30140 {c0 : Nat × va_E} {rows : va_W} {j : Nat} {v : Nat × va_E} (h : rows[j]? = some v) : ([c0] ++ rows)[1 + j]? = some v := rowUp rfl h
theorem rgP2_7b07557 {D : va_G} {cl : List vw_C} {H : Heap} {c0 c1 : Nat × va_E} {R : va_W} (h : va_P D cl ([c0, c1] ++ R) H) : va_P D cl ([c0] ++ R) H := h.part (X := [c0, c1]) (cx := [c0]) [0] rfl
theorem rgP2_6740c5e {D : va_G} {cl : List vw_C} {H : Heap} {c0 c1 : Nat × va_E} {R : va_W} (h : va_P D cl ([c0, c1] ++ R) H) : va_P D cl ([]) H := h.sub (ws' := []) [] rfl
theorem rgL3_6f2f016 {c0 c1 c2 : Nat × va_E} : (([c0, c1, c2] : va_W))[1]? = some c1 := rfl
set_option maxHeartbeats 4000000 in
set_option maxRecDepth 100000 in
theorem k_X6_layPieces (l : Launch) (dC : Nat → ClassId) (dI : Nat → Nat → Nat) (g : Gv) (sz : Nat) (a0 : Nat) (a1 : Nat) (a0_0 : Nat) (a0_1 : Nat) (a0_2 : Nat) (a0_3 : Nat) (a0_4 : Nat) (a0_5 : Nat) (a0_6 : Int32) (a0_7 : Int32) (a0_0_c : ClassId) (a0_0_f : Nat → Int32) (a0_1_c : ClassId) (a0_1_f : Nat → Int32) (a1_0 : Nat) (a1_1 : Nat) (a1_2 : Nat) (a1_3 : Nat) (a1_4 : Nat) (a1_5 : Nat) (a1_0_c : ClassId) (a1_0_f : Nat → Int32) (h_a0_6 : 0 ≤ a0_6.toInt ∧ a0_6.toInt ≤ 24) (h_a0_7 : 0 ≤ a0_7.toInt ∧ a0_7.toInt ≤ 12) : Met l yX6_layPieces (.code yX6_layPieces cX6_layPieces 5 none :: TBL) ({ frames := 0, cells := 0, slots := 0, locals := 0 }) (va_Pc [.ref a0, .ref a1] (fun U => U.heap.size = sz ∧ va_P (dC, dI) vwCl [(a0, .inr (5, [.ref a0_0, .ref a0_1, .ref a0_2, .ref a0_3, .ref a0_4, .ref a0_5, .int a0_6, .int a0_7])), (a0_0, .inl (a0_0_c, 24, .inl a0_0_f)), (a0_1, .inl (a0_1_c, 24, .inl a0_1_f)), (a1, .inr (2, [.ref a1_0, .ref a1_1, .ref a1_2, .ref a1_3, .ref a1_4, .ref a1_5])), (a1_0, .inl (a1_0_c, 24, .inl a1_0_f))] U.heap ∧ va_K (dC, dI) vwCl [(a0_0_c, .int), (a0_1_c, .int), (a1_0_c, .int)] U ∧ va_D (fun _ => True) [(a0, .inr (5, [.ref a0_0, .ref a0_1, .ref a0_2, .ref a0_3, .ref a0_4, .ref a0_5, .int a0_6, .int a0_7])), (a0_0, .inl (a0_0_c, 24, .inl a0_0_f)), (a0_1, .inl (a0_1_c, 24, .inl a0_1_f)), (a1, .inr (2, [.ref a1_0, .ref a1_1, .ref a1_2, .ref a1_3, .ref a1_4, .ref a1_5])), (a1_0, .inl (a1_0_c, 24, .inl a1_0_f))] ∧ Ev g (va_A [(a0, .inr (5, [.ref a0_0, .ref a0_1, .ref a0_2, .ref a0_3, .ref a0_4, .ref a0_5, .int a0_6, .int a0_7])), (a0_0, .inl (a0_0_c, 24, .inl a0_0_f)), (a0_1, .inl (a0_1_c, 24, .inl a0_1_f)), (a1, .inr (2, [.ref a1_0, .ref a1_1, .ref a1_2, .ref a1_3, .ref a1_4, .ref a1_5])), (a1_0, .inl (a1_0_c, 24, .inl a1_0_f))] sz) U)) (va_Qv (fun (_ : Unit) => True) (fun (_ : Unit) (t : State) => ∃ (za0_0_f : Nat → Int32) (za0_1_f : Nat → Int32), va_P (dC, dI) vwCl [(a0, .inr (5, [.ref a0_0, .ref a0_1, .ref a0_2, .ref a0_3, .ref a0_4, .ref a0_5, .int a0_6, .int a0_7])), (a0_0, .inl (a0_0_c, 24, .inl za0_0_f)), (a0_1, .inl (a0_1_c, 24, .inl za0_1_f)), (a1, .inr (2, [.ref a1_0, .ref a1_1, .ref a1_2, .ref a1_3, .ref a1_4, .ref a1_5])), (a1_0, .inl (a1_0_c, 24, .inl a1_0_f))] t.heap ∧ va_K (dC, dI) vwCl [] t ∧ va_D (va_A [(a0, .inr (5, [.ref a0_0, .ref a0_1, .ref a0_2, .ref a0_3, .ref a0_4, .ref a0_5, .int a0_6, .int a0_7])), (a0_0, .inl (a0_0_c, 24, .inl a0_0_f)), (a0_1, .inl (a0_1_c, 24, .inl a0_1_f)), (a1, .inr (2, [.ref a1_0, .ref a1_1, .ref a1_2, .ref a1_3, .ref a1_4, .ref a1_5])), (a1_0, .inl (a1_0_c, 24, .inl a1_0_f))] sz) [(a0, .inr (5, [.ref a0_0, .ref a0_1, .ref a0_2, .ref a0_3, .ref a0_4, .ref a0_5, .int a0_6, .int a0_7])), (a0_0, .inl (a0_0_c, 24, .inl za0_0_f)), (a0_1, .inl (a0_1_c, 24, .inl za0_1_f)), (a1, .inr (2, [.ref a1_0, .ref a1_1, .ref a1_2, .ref a1_3, .ref a1_4, .ref a1_5])), (a1_0, .inl (a1_0_c, 24, .inl a1_0_f))]) (va_A [(a0, .inr (5, [.ref a0_0, .ref a0_1, .ref a0_2, .ref a0_3, .ref a0_4, .ref a0_5, .int a0_6, .int a0_7])), (a0_0, .inl (a0_0_c, 24, .inl a0_0_f)), (a0_1, .inl (a0_1_c, 24, .inl a0_1_f)), (a1, .inr (2, [.ref a1_0, .ref a1_1, .ref a1_2, .ref a1_3, .ref a1_4, .ref a1_5])), (a1_0, .inl (a1_0_c, 24, .inl a1_0_f))] sz)) 0 0 (va_A [(a0, .inr (5, [.ref a0_0, .ref a0_1, .ref a0_2, .ref a0_3, .ref a0_4, .ref a0_5, .int a0_6, .int a0_7])), (a0_0, .inl (a0_0_c, 24, .inl a0_0_f)), (a0_1, .inl (a0_1_c, 24, .inl a0_1_f)), (a1, .inr (2, [.ref a1_0, .ref a1_1, .ref a1_2, .ref a1_3, .ref a1_4, .ref a1_5])), (a1_0, .inl (a1_0_c, 24, .inl a1_0_f))] sz) := by
  refine Met.ofW (cc := cX6_layPieces) (maxL := 5) (ret := none) (by decide) rfl ?_
  intro p e s m args below meth c s₁ B hml hv
  obtain ⟨rfl, hsz, hP, hK, hD0, hE⟩ := hv
  have hx := B.exec
  have hb := B.bytes
  have hr := B.returns
  have hts0 := atoms_spec (ws := (.code yX6_layPieces cX6_layPieces 5 none :: TBL)) B.pre
  have hts := fun (w : Cond) (h : w ∈ TBL) => hts0 w (List.mem_cons_of_mem _ h)
  have hown : s.vm.findClass RX6 = some m.cls := findClass_of_methodNamed B.named
  have hlocks := B.notSynchronized
  have hN := hE.1
  subst hsz
  have hD := hD0.self (sz := s.heap.size)
  generalize hAe : va_A [(a0, .inr (5, [.ref a0_0, .ref a0_1, .ref a0_2, .ref a0_3, .ref a0_4, .ref a0_5, .int a0_6, .int a0_7])), (a0_0, .inl (a0_0_c, 24, .inl a0_0_f)), (a0_1, .inl (a0_1_c, 24, .inl a0_1_f)), (a1, .inr (2, [.ref a1_0, .ref a1_1, .ref a1_2, .ref a1_3, .ref a1_4, .ref a1_5])), (a1_0, .inl (a1_0_c, 24, .inl a1_0_f))] s.heap.size = A at hD hE ⊢
  have hA : ∀ q : Nat, s.heap.size ≤ q → A q := fun q h => by rw [← hAe]; exact Or.inr h
  have hS : va_S A s.heap s.heap [] := va_S.rf
  replace hP : va_P (dC, dI) vwCl [(a0, .inr (5, [.ref a0_0, .ref a0_1, .ref a0_2, .ref a0_3, .ref a0_4, .ref a0_5, .int a0_6, .int a0_7])), (a0_0, .inl (a0_0_c, 24, .inl a0_0_f)), (a0_1, .inl (a0_1_c, 24, .inl a0_1_f)), (a1, .inr (2, [.ref a1_0, .ref a1_1, .ref a1_2, .ref a1_3, .ref a1_4, .ref a1_5])), (a1_0, .inl (a1_0_c, 24, .inl a1_0_f))] s.heap := hP
  have hl := lv_entry ([.ref a0, .ref a1]) (n := 5) (Nat.le_of_ble_eq_true rfl)
  rw [lg_entry_eq]
  generalize (lg_sl ([.ref a0, .ref a1]) ++ List.replicate (5 - (lg_sl ([.ref a0, .ref a1])).length) Slot.unset).toArray = ls at hl ⊢
  have hl : lv_has ls 5 [(0, .ref a0), (1, .ref a1)] := hl
  refine lv_iconst (v := 0) hx hb dX6_layPieces_0 (by decide) ?_
  refine lv_istore_n (lv' := [(2, .int 0), (0, .ref a0), (1, .ref a1)]) hx hb dX6_layPieces_1 rfl hl (by decide) rfl (fun ls hl => ?_)
  have qc0 : (0 : Int32).toInt = 0 := by decide
  refine wloop (fun n H locs ls => ∃ (l2_2 : Int32) (w2_1 : Nat → Int32), n = (2147483647 - l2_2.toInt).toNat ∧ (0 ≤ l2_2.toInt) ∧ lv_has ls 5 [(2, .int l2_2), (0, .ref a0), (1, .ref a1)] ∧ va_P (dC, dI) vwCl [(a0, .inr (5, [.ref a0_0, .ref a0_1, .ref a0_2, .ref a0_3, .ref a0_4, .ref a0_5, .int a0_6, .int a0_7])), (a0_0, .inl (a0_0_c, 24, .inl w2_1)), (a0_1, .inl (a0_1_c, 24, .inl a0_1_f)), (a1, .inr (2, [.ref a1_0, .ref a1_1, .ref a1_2, .ref a1_3, .ref a1_4, .ref a1_5])), (a1_0, .inl (a1_0_c, 24, .inl a1_0_f))] H ∧ va_D A [(a0, .inr (5, [.ref a0_0, .ref a0_1, .ref a0_2, .ref a0_3, .ref a0_4, .ref a0_5, .int a0_6, .int a0_7])), (a0_0, .inl (a0_0_c, 24, .inl w2_1)), (a0_1, .inl (a0_1_c, 24, .inl a0_1_f)), (a1, .inr (2, [.ref a1_0, .ref a1_1, .ref a1_2, .ref a1_3, .ref a1_4, .ref a1_5])), (a1_0, .inl (a1_0_c, 24, .inl a1_0_f))] ∧ va_S A s.heap H locs) ?_ ((2147483647 - (0 : Int32).toInt).toNat) _ _ _ ⟨0, a0_0_f, rfl, (by omega), lv_sub hl [0, 1, 2] rfl, hP, hD, hS⟩
  intro n2 H locs ls hI ih2
  obtain ⟨l2_2, w2_1, hn2, g_l2_2, hl, hP, hD, hS⟩ := hI
  have b_l2_2 := i32b l2_2
  refine lv_iload_n hx hb dX6_layPieces_2 rfl (lv_at hl 0 rfl) ?_
  refine lv_aload_n hx hb dX6_layPieces_3 rfl (lv_at hl 1 rfl) ?_
  refine va_get (D := (dC, dI)) (ci := 5) (v := .int a0_6) (C := RX6) (T := TX6) (N := 8) hx hb hts inlX6 hown hK hP 0 rgL5_a6879b9 rfl 6 (by decide) (hts (.fieldLink RX6 38 "ClosedUntil$Timetable" "pieces" "I") qw_124) (fun _ h9 => h9) rfl dX6_layPieces_4 ?_
  refine lv_icmp_ge (tgt := 23) hx hb dX6_layPieces_7 (by decide) (fun c7_1 => ?_) (fun c7_1 => ?_)
  · have c7_1 : a0_6.toInt ≤ l2_2.toInt := (cv_le rfl rfl).mp c7_1
    refine lv_iconst (v := 0) hx hb dX6_layPieces_23 (by decide) ?_
    refine lv_istore_n (lv' := [(2, .int 0), (0, .ref a0), (1, .ref a1)]) hx hb dX6_layPieces_24 rfl hl (by decide) rfl (fun ls hl => ?_)
    have qc0 : (0 : Int32).toInt = 0 := by decide
    refine wloop (fun n H locs ls => ∃ (l25_2 : Int32) (w25_1 : Nat → Int32) (w25_2 : Nat → Int32), n = (2147483647 - l25_2.toInt).toNat ∧ (0 ≤ l25_2.toInt) ∧ lv_has ls 5 [(2, .int l25_2), (0, .ref a0), (1, .ref a1)] ∧ va_P (dC, dI) vwCl [(a0, .inr (5, [.ref a0_0, .ref a0_1, .ref a0_2, .ref a0_3, .ref a0_4, .ref a0_5, .int a0_6, .int a0_7])), (a0_0, .inl (a0_0_c, 24, .inl w25_1)), (a0_1, .inl (a0_1_c, 24, .inl w25_2)), (a1, .inr (2, [.ref a1_0, .ref a1_1, .ref a1_2, .ref a1_3, .ref a1_4, .ref a1_5])), (a1_0, .inl (a1_0_c, 24, .inl a1_0_f))] H ∧ va_D A [(a0, .inr (5, [.ref a0_0, .ref a0_1, .ref a0_2, .ref a0_3, .ref a0_4, .ref a0_5, .int a0_6, .int a0_7])), (a0_0, .inl (a0_0_c, 24, .inl w25_1)), (a0_1, .inl (a0_1_c, 24, .inl w25_2)), (a1, .inr (2, [.ref a1_0, .ref a1_1, .ref a1_2, .ref a1_3, .ref a1_4, .ref a1_5])), (a1_0, .inl (a1_0_c, 24, .inl a1_0_f))] ∧ va_S A s.heap H locs) ?_ ((2147483647 - (0 : Int32).toInt).toNat) _ _ _ ⟨0, w2_1, a0_1_f, rfl, (by omega), lv_sub hl [0, 1, 2] rfl, hP, hD, hS⟩
    intro n25 H locs ls hI ih25
    obtain ⟨l25_2, w25_1, w25_2, hn25, g_l25_2, hl, hP, hD, hS⟩ := hI
    have b_l25_2 := i32b l25_2
    refine lv_iload_n hx hb dX6_layPieces_25 rfl (lv_at hl 0 rfl) ?_
    refine lv_aload_n hx hb dX6_layPieces_26 rfl (lv_at hl 1 rfl) ?_
    refine va_get (D := (dC, dI)) (ci := 5) (v := .int a0_6) (C := RX6) (T := TX6) (N := 8) hx hb hts inlX6 hown hK hP 0 rgL5_a6879b9 rfl 6 (by decide) (hts (.fieldLink RX6 38 "ClosedUntil$Timetable" "pieces" "I") qw_124) (fun _ h9 => h9) rfl dX6_layPieces_27 ?_
    refine lv_icmp_ge (tgt := 100) hx hb dX6_layPieces_30 (by decide) (fun c30_2 => ?_) (fun c30_2 => ?_)
    · have c30_2 : a0_6.toInt ≤ l25_2.toInt := (cv_le rfl rfl).mp c30_2
      refine W.widen (k := 0) (n := 0) (Nat.le_of_ble_eq_true rfl) (Nat.le_of_ble_eq_true rfl) ?_
      have hP9 := hP
      have hD9 := hD
      have hK9 := (rgK3_e7c053f hK)
      exact W.vret hx hb hr (fun t ht hW => ⟨⟨(), rfl, trivial, w25_1, w25_2, atB ht hP9, va_K.moved hW.alike hK9, hD9⟩, hS.F ht⟩) hS.2.2 dX6_layPieces_100
    · have c30_2 : ¬ (a0_6.toInt ≤ l25_2.toInt) := mt (cv_le rfl rfl).mpr c30_2
      refine lv_iload_n hx hb dX6_layPieces_33 rfl (lv_at hl 0 rfl) ?_
      refine lv_istore_n (lv' := [(3, .int l25_2), (2, .int l25_2), (0, .ref a0), (1, .ref a1)]) hx hb dX6_layPieces_34 rfl hl (by decide) rfl (fun ls hl => ?_)
      refine lv_iconst (v := 0) hx hb dX6_layPieces_35 (by decide) ?_
      refine lv_istore (lv' := [(4, .int 0), (3, .int l25_2), (2, .int l25_2), (0, .ref a0), (1, .ref a1)]) hx hb dX6_layPieces_36 hl (by decide) rfl (fun ls hl => ?_)
      have qc0 : (0 : Int32).toInt = 0 := by decide
      refine wloop (fun n H locs ls => ∃ (l38_4 : Int32) (l38_3 : Int32) (w38_1 : Nat → Int32), n = (2147483647 - l38_4.toInt).toNat ∧ (0 ≤ l38_4.toInt) ∧ lv_has ls 5 [(4, .int l38_4), (3, .int l38_3), (2, .int l25_2), (0, .ref a0), (1, .ref a1)] ∧ va_P (dC, dI) vwCl [(a0, .inr (5, [.ref a0_0, .ref a0_1, .ref a0_2, .ref a0_3, .ref a0_4, .ref a0_5, .int a0_6, .int a0_7])), (a0_0, .inl (a0_0_c, 24, .inl w38_1)), (a0_1, .inl (a0_1_c, 24, .inl w25_2)), (a1, .inr (2, [.ref a1_0, .ref a1_1, .ref a1_2, .ref a1_3, .ref a1_4, .ref a1_5])), (a1_0, .inl (a1_0_c, 24, .inl a1_0_f))] H ∧ va_D A [(a0, .inr (5, [.ref a0_0, .ref a0_1, .ref a0_2, .ref a0_3, .ref a0_4, .ref a0_5, .int a0_6, .int a0_7])), (a0_0, .inl (a0_0_c, 24, .inl w38_1)), (a0_1, .inl (a0_1_c, 24, .inl w25_2)), (a1, .inr (2, [.ref a1_0, .ref a1_1, .ref a1_2, .ref a1_3, .ref a1_4, .ref a1_5])), (a1_0, .inl (a1_0_c, 24, .inl a1_0_f))] ∧ va_S A s.heap H locs) ?_ ((2147483647 - (0 : Int32).toInt).toNat) _ _ _ ⟨0, l25_2, w25_1, rfl, (by omega), lv_sub hl [0, 1, 2, 3, 4] rfl, hP, hD, hS⟩
      intro n38 H locs ls hI ih38
      obtain ⟨l38_4, l38_3, w38_1, hn38, g_l38_4, hl, hP, hD, hS⟩ := hI
      have b_l38_4 := i32b l38_4
      have b_l38_3 := i32b l38_3
      refine lv_iload_n hx hb dX6_layPieces_38 rfl (lv_at hl 1 rfl) ?_
      refine lv_if_lt (tgt := 84) hx hb dX6_layPieces_39 (by decide) (fun c39_3 => ?_) (fun c39_3 => ?_)
      · have c39_3 : l38_3.toInt < 0 := (cv_lt rfl (by decide)).mp c39_3
        refine lv_aload_n hx hb dX6_layPieces_84 rfl (lv_at hl 3 rfl) ?_
        refine va_get (D := (dC, dI)) (ci := 5) (v := .ref a0_1) (C := RX6) (T := TX6) (N := 8) hx hb hts inlX6 hown hK hP 0 rgL5_a6879b9 rfl 1 (by decide) (hts (.fieldLink RX6 15 "ClosedUntil$Timetable" "depth" "[I") qw_125) (fun _ h9 => h9) rfl dX6_layPieces_85 ?_
        refine lv_iload_n hx hb dX6_layPieces_88 rfl (lv_at hl 2 rfl) ?_
        refine lv_iload hx hb dX6_layPieces_89 (lv_at hl 0 rfl) ?_
        refine lv_iconst (v := 1) hx hb dX6_layPieces_91 (by decide) ?_
        refine lv_isub hx hb dX6_layPieces_92 ?_
        refine lv_topi (fun x4 e_x4 => ?_)
        try have e_x4 := ti_sub e_x4 rfl (show (1 : Int32).toInt = 1 by decide) (by omega)
        refine va_iast hx hb hK hP hD hS 2 1 rgL5_4d93d4e rgT3_9bdde83 (vinI (by omega) (by omega)) dX6_layPieces_93 (fun H locs hP9 hD9 hS9 => ?_)
        obtain ⟨y5, e_y5⟩ : ∃ y, (upd w25_2 l25_2.toNatClampNeg x4) = y := ⟨_, rfl⟩
        clear hP hD hS
        obtain ⟨hP, hD⟩ := rgS5_55fc036 (e := (a0_1, .inl (a0_1_c, 24, .inl y5))) hP9 hD9 (congrArg (fun z9 => (((a0_1, .inl (a0_1_c, 24, .inl z9)) : Nat × va_E))) e_y5)
        have hS := hS9; clear hP9 hD9 hS9
        obtain ⟨x6, e_x6⟩ : ∃ y : Int32, y = l25_2 + 1 := ⟨_, rfl⟩
        refine lv_iinc (v := x6) (lv' := [(2, .int x6), (4, .int l38_4), (3, .int l38_3), (0, .ref a0), (1, .ref a1)]) hx hb dX6_layPieces_94 hl (k := 2) rfl (by rw [e_x6]; rfl) (by decide) rfl (fun ls hl => ?_)
        try have e_x6 := ti_add e_x6 rfl (show (1 : Int32).toInt = 1 by decide) (by omega)
        refine lv_goto (tgt := 25) hx hb dX6_layPieces_97 (by decide) ?_
        exact ih25 ((2147483647 - x6.toInt).toNat) _ _ _ (by omega) ⟨x6, w38_1, y5, rfl, (by omega), lv_sub hl [0, 3, 4] rfl, hP, hD, hS⟩
      · have c39_3 : ¬ (l38_3.toInt < 0) := mt (cv_lt rfl (by decide)).mpr c39_3
        refine lv_iload_n hx hb dX6_layPieces_42 rfl (lv_at hl 1 rfl) ?_
        refine lv_aload_n hx hb dX6_layPieces_43 rfl (lv_at hl 3 rfl) ?_
        refine va_get (D := (dC, dI)) (ci := 5) (v := .int a0_6) (C := RX6) (T := TX6) (N := 8) hx hb hts inlX6 hown hK hP 0 rgL5_a6879b9 rfl 6 (by decide) (hts (.fieldLink RX6 38 "ClosedUntil$Timetable" "pieces" "I") qw_124) (fun _ h9 => h9) rfl dX6_layPieces_44 ?_
        refine lv_icmp_ge (tgt := 84) hx hb dX6_layPieces_47 (by decide) (fun c47_7 => ?_) (fun c47_7 => ?_)
        · have c47_7 : a0_6.toInt ≤ l38_3.toInt := (cv_le rfl rfl).mp c47_7
          refine lv_aload_n hx hb dX6_layPieces_84 rfl (lv_at hl 3 rfl) ?_
          refine va_get (D := (dC, dI)) (ci := 5) (v := .ref a0_1) (C := RX6) (T := TX6) (N := 8) hx hb hts inlX6 hown hK hP 0 rgL5_a6879b9 rfl 1 (by decide) (hts (.fieldLink RX6 15 "ClosedUntil$Timetable" "depth" "[I") qw_125) (fun _ h9 => h9) rfl dX6_layPieces_85 ?_
          refine lv_iload_n hx hb dX6_layPieces_88 rfl (lv_at hl 2 rfl) ?_
          refine lv_iload hx hb dX6_layPieces_89 (lv_at hl 0 rfl) ?_
          refine lv_iconst (v := 1) hx hb dX6_layPieces_91 (by decide) ?_
          refine lv_isub hx hb dX6_layPieces_92 ?_
          refine lv_topi (fun x8 e_x8 => ?_)
          try have e_x8 := ti_sub e_x8 rfl (show (1 : Int32).toInt = 1 by decide) (by omega)
          refine va_iast hx hb hK hP hD hS 2 1 rgL5_4d93d4e rgT3_9bdde83 (vinI (by omega) (by omega)) dX6_layPieces_93 (fun H locs hP9 hD9 hS9 => ?_)
          obtain ⟨y9, e_y9⟩ : ∃ y, (upd w25_2 l25_2.toNatClampNeg x8) = y := ⟨_, rfl⟩
          clear hP hD hS
          obtain ⟨hP, hD⟩ := rgS5_55fc036 (e := (a0_1, .inl (a0_1_c, 24, .inl y9))) hP9 hD9 (congrArg (fun z9 => (((a0_1, .inl (a0_1_c, 24, .inl z9)) : Nat × va_E))) e_y9)
          have hS := hS9; clear hP9 hD9 hS9
          obtain ⟨x10, e_x10⟩ : ∃ y : Int32, y = l25_2 + 1 := ⟨_, rfl⟩
          refine lv_iinc (v := x10) (lv' := [(2, .int x10), (4, .int l38_4), (3, .int l38_3), (0, .ref a0), (1, .ref a1)]) hx hb dX6_layPieces_94 hl (k := 2) rfl (by rw [e_x10]; rfl) (by decide) rfl (fun ls hl => ?_)
          try have e_x10 := ti_add e_x10 rfl (show (1 : Int32).toInt = 1 by decide) (by omega)
          refine lv_goto (tgt := 25) hx hb dX6_layPieces_97 (by decide) ?_
          exact ih25 ((2147483647 - x10.toInt).toNat) _ _ _ (by omega) ⟨x10, w38_1, y9, rfl, (by omega), lv_sub hl [0, 3, 4] rfl, hP, hD, hS⟩
        · have c47_7 : ¬ (a0_6.toInt ≤ l38_3.toInt) := mt (cv_le rfl rfl).mpr c47_7
          refine lv_iload hx hb dX6_layPieces_50 (lv_at hl 0 rfl) ?_
          refine lv_aload_n hx hb dX6_layPieces_52 rfl (lv_at hl 3 rfl) ?_
          refine va_get (D := (dC, dI)) (ci := 5) (v := .int a0_6) (C := RX6) (T := TX6) (N := 8) hx hb hts inlX6 hown hK hP 0 rgL5_a6879b9 rfl 6 (by decide) (hts (.fieldLink RX6 38 "ClosedUntil$Timetable" "pieces" "I") qw_124) (fun _ h9 => h9) rfl dX6_layPieces_53 ?_
          refine lv_icmp_ge (tgt := 84) hx hb dX6_layPieces_56 (by decide) (fun c56_11 => ?_) (fun c56_11 => ?_)
          · have c56_11 : a0_6.toInt ≤ l38_4.toInt := (cv_le rfl rfl).mp c56_11
            refine lv_aload_n hx hb dX6_layPieces_84 rfl (lv_at hl 3 rfl) ?_
            refine va_get (D := (dC, dI)) (ci := 5) (v := .ref a0_1) (C := RX6) (T := TX6) (N := 8) hx hb hts inlX6 hown hK hP 0 rgL5_a6879b9 rfl 1 (by decide) (hts (.fieldLink RX6 15 "ClosedUntil$Timetable" "depth" "[I") qw_125) (fun _ h9 => h9) rfl dX6_layPieces_85 ?_
            refine lv_iload_n hx hb dX6_layPieces_88 rfl (lv_at hl 2 rfl) ?_
            refine lv_iload hx hb dX6_layPieces_89 (lv_at hl 0 rfl) ?_
            refine lv_iconst (v := 1) hx hb dX6_layPieces_91 (by decide) ?_
            refine lv_isub hx hb dX6_layPieces_92 ?_
            refine lv_topi (fun x12 e_x12 => ?_)
            try have e_x12 := ti_sub e_x12 rfl (show (1 : Int32).toInt = 1 by decide) (by omega)
            refine va_iast hx hb hK hP hD hS 2 1 rgL5_4d93d4e rgT3_9bdde83 (vinI (by omega) (by omega)) dX6_layPieces_93 (fun H locs hP9 hD9 hS9 => ?_)
            obtain ⟨y13, e_y13⟩ : ∃ y, (upd w25_2 l25_2.toNatClampNeg x12) = y := ⟨_, rfl⟩
            clear hP hD hS
            obtain ⟨hP, hD⟩ := rgS5_55fc036 (e := (a0_1, .inl (a0_1_c, 24, .inl y13))) hP9 hD9 (congrArg (fun z9 => (((a0_1, .inl (a0_1_c, 24, .inl z9)) : Nat × va_E))) e_y13)
            have hS := hS9; clear hP9 hD9 hS9
            obtain ⟨x14, e_x14⟩ : ∃ y : Int32, y = l25_2 + 1 := ⟨_, rfl⟩
            refine lv_iinc (v := x14) (lv' := [(2, .int x14), (4, .int l38_4), (3, .int l38_3), (0, .ref a0), (1, .ref a1)]) hx hb dX6_layPieces_94 hl (k := 2) rfl (by rw [e_x14]; rfl) (by decide) rfl (fun ls hl => ?_)
            try have e_x14 := ti_add e_x14 rfl (show (1 : Int32).toInt = 1 by decide) (by omega)
            refine lv_goto (tgt := 25) hx hb dX6_layPieces_97 (by decide) ?_
            exact ih25 ((2147483647 - x14.toInt).toNat) _ _ _ (by omega) ⟨x14, w38_1, y13, rfl, (by omega), lv_sub hl [0, 3, 4] rfl, hP, hD, hS⟩
          · have c56_11 : ¬ (a0_6.toInt ≤ l38_4.toInt) := mt (cv_le rfl rfl).mpr c56_11
            refine lv_aload_n hx hb dX6_layPieces_59 rfl (lv_at hl 3 rfl) ?_
            refine va_get (D := (dC, dI)) (ci := 5) (v := .ref a0_0) (C := RX6) (T := TX6) (N := 8) hx hb hts inlX6 hown hK hP 0 rgL5_a6879b9 rfl 0 (by decide) (hts (.fieldLink RX6 9 "ClosedUntil$Timetable" "below" "[I") qw_126) (fun _ h9 => h9) rfl dX6_layPieces_60 ?_
            refine lv_iload_n hx hb dX6_layPieces_63 rfl (lv_at hl 1 rfl) ?_
            refine lv_dup2_11 hx hb dX6_layPieces_64 rfl rfl ?_
            refine va_iald hx hb hK hP 1 0 rgL5_8fa4d66 rgT3_b86a1dc (vinI (by omega) (by omega)) dX6_layPieces_65 ?_
            refine lv_topi (fun x15 e_x15 => ?_)
            have b_x15 := i32b x15
            refine lv_iconst (v := 1) hx hb dX6_layPieces_66 (by decide) ?_
            refine lv_iload_n hx hb dX6_layPieces_67 rfl (lv_at hl 2 rfl) ?_
            refine lv_ishl hx hb dX6_layPieces_68 ?_
            refine lv_topi (fun x16 e_x16 => ?_)
            refine lv_ior hx hb dX6_layPieces_69 ?_
            refine lv_topi (fun x17 e_x17 => ?_)
            refine va_iast hx hb hK hP hD hS 1 0 rgL5_8fa4d66 rgT3_b86a1dc (vinI (by omega) (by omega)) dX6_layPieces_70 (fun H locs hP9 hD9 hS9 => ?_)
            obtain ⟨y18, e_y18⟩ : ∃ y, (upd w38_1 l38_3.toNatClampNeg x17) = y := ⟨_, rfl⟩
            clear hP hD hS
            obtain ⟨hP, hD⟩ := rgS5_08baf9a (e := (a0_0, .inl (a0_0_c, 24, .inl y18))) hP9 hD9 (congrArg (fun z9 => (((a0_0, .inl (a0_0_c, 24, .inl z9)) : Nat × va_E))) e_y18)
            have hS := hS9; clear hP9 hD9 hS9
            refine lv_aload_n hx hb dX6_layPieces_71 rfl (lv_at hl 4 rfl) ?_
            refine va_getN (D := (dC, dI)) (ci := 2) (v := .ref a1_0) (C := RX3) (T := TX3) (N := 6) hx hb hts inlX3 hown hK hP 3 rgL5_b55ecbc rfl 0 (by decide) (va_Nw.use rfl (nf_11 hN)) (fun _ h9 => h9) rfl dX6_layPieces_72 ?_
            refine lv_iload_n hx hb dX6_layPieces_75 rfl (lv_at hl 1 rfl) ?_
            refine va_iald hx hb hK hP 4 2 rgL5_c0b45fd rgT3_173f9f1 (vinI (by omega) (by omega)) dX6_layPieces_76 ?_
            refine lv_topi (fun x19 e_x19 => ?_)
            have b_x19 := i32b x19
            refine lv_istore_n (lv' := [(3, .int x19), (4, .int l38_4), (2, .int l25_2), (0, .ref a0), (1, .ref a1)]) hx hb dX6_layPieces_77 rfl hl (by decide) rfl (fun ls hl => ?_)
            obtain ⟨x20, e_x20⟩ : ∃ y : Int32, y = l38_4 + 1 := ⟨_, rfl⟩
            refine lv_iinc (v := x20) (lv' := [(4, .int x20), (3, .int x19), (2, .int l25_2), (0, .ref a0), (1, .ref a1)]) hx hb dX6_layPieces_78 hl (k := 1) rfl (by rw [e_x20]; rfl) (by decide) rfl (fun ls hl => ?_)
            try have e_x20 := ti_add e_x20 rfl (show (1 : Int32).toInt = 1 by decide) (by omega)
            refine lv_goto (tgt := 38) hx hb dX6_layPieces_81 (by decide) ?_
            exact ih38 ((2147483647 - x20.toInt).toNat) _ _ _ (by omega) ⟨x20, x19, y18, rfl, (by omega), lv_sub hl [0, 1, 2, 3, 4] rfl, hP, hD, hS⟩
  · have c7_1 : ¬ (a0_6.toInt ≤ l2_2.toInt) := mt (cv_le rfl rfl).mpr c7_1
    refine lv_aload_n hx hb dX6_layPieces_10 rfl (lv_at hl 1 rfl) ?_
    refine va_get (D := (dC, dI)) (ci := 5) (v := .ref a0_0) (C := RX6) (T := TX6) (N := 8) hx hb hts inlX6 hown hK hP 0 rgL5_a6879b9 rfl 0 (by decide) (hts (.fieldLink RX6 9 "ClosedUntil$Timetable" "below" "[I") qw_126) (fun _ h9 => h9) rfl dX6_layPieces_11 ?_
    refine lv_iload_n hx hb dX6_layPieces_14 rfl (lv_at hl 0 rfl) ?_
    refine lv_iconst (v := 0) hx hb dX6_layPieces_15 (by decide) ?_
    refine va_iast hx hb hK hP hD hS 1 0 rgL5_8fa4d66 rgT3_b86a1dc (vinI (by omega) (by omega)) dX6_layPieces_16 (fun H locs hP9 hD9 hS9 => ?_)
    obtain ⟨y21, e_y21⟩ : ∃ y, (upd w2_1 l2_2.toNatClampNeg (0)) = y := ⟨_, rfl⟩
    clear hP hD hS
    obtain ⟨hP, hD⟩ := rgS5_08baf9a (e := (a0_0, .inl (a0_0_c, 24, .inl y21))) hP9 hD9 (congrArg (fun z9 => (((a0_0, .inl (a0_0_c, 24, .inl z9)) : Nat × va_E))) e_y21)
    have hS := hS9; clear hP9 hD9 hS9
    obtain ⟨x22, e_x22⟩ : ∃ y : Int32, y = l2_2 + 1 := ⟨_, rfl⟩
    refine lv_iinc (v := x22) (lv' := [(2, .int x22), (0, .ref a0), (1, .ref a1)]) hx hb dX6_layPieces_17 hl (k := 0) rfl (by rw [e_x22]; rfl) (by decide) rfl (fun ls hl => ?_)
    try have e_x22 := ti_add e_x22 rfl (show (1 : Int32).toInt = 1 by decide) (by omega)
    refine lv_goto (tgt := 2) hx hb dX6_layPieces_20 (by decide) ?_
    exact ih2 ((2147483647 - x22.toInt).toNat) _ _ _ (by omega) ⟨x22, y21, rfl, (by omega), lv_sub hl [0, 1, 2] rfl, hP, hD, hS⟩
set_option maxHeartbeats 4000000 in
set_option maxRecDepth 100000 in
theorem k_X6_latestAbove (l : Launch) (dC : Nat → ClassId) (dI : Nat → Nat → Nat) (g : Gv) (a0 : Int32) (a1 : Nat) (a2 : Nat) (a2_0 : Nat) (a2_1 : Nat) (a2_2 : Nat) (a2_3 : Nat) (a2_4 : Nat) (a2_5 : Nat) (a2_0_c : ClassId) (a2_0_f : Nat → Int32) (rows : va_W) (h_a1 : RH g.2.2.2.2.1 24 a1 rows) : Met l yX6_latestAbove (.code yX6_latestAbove cX6_latestAbove 6 (some .int) :: TBL) ({ frames := 1, cells := 0, slots := 0, locals := 30 }) (va_Pc [.int a0, .ref a1, .ref a2] (fun U => va_P (dC, dI) vwCl (([(a2, .inr (2, [.ref a2_0, .ref a2_1, .ref a2_2, .ref a2_3, .ref a2_4, .ref a2_5])), (a2_0, .inl (a2_0_c, 24, .inl a2_0_f))] : va_W) ++ rows) U.heap ∧ va_K (dC, dI) vwCl [(a2_0_c, .int)] U ∧ Ev g (fun _ => False) U)) (vp_Si (fun (r : Int32) => True)) 0 0 (fun _ => False) := by
  refine Met.ofW (cc := cX6_latestAbove) (maxL := 6) (ret := (some .int)) (by decide) rfl ?_
  intro p e s m args below meth c s₁ B hml hv
  obtain ⟨rfl, hP, hK, hE⟩ := hv
  have hx := B.exec
  have hb := B.bytes
  have hr := B.returns
  have hts0 := atoms_spec (ws := (.code yX6_latestAbove cX6_latestAbove 6 (some .int) :: TBL)) B.pre
  have hts := fun (w : Cond) (h : w ∈ TBL) => hts0 w (List.mem_cons_of_mem _ h)
  have hown : s.vm.findClass RX6 = some m.cls := findClass_of_methodNamed B.named
  have hlocks := B.notSynchronized
  have hN := hE.1
  have hS : va_S (fun _ => False) s.heap s.heap [] := va_S.rf
  replace hP : va_P (dC, dI) vwCl (([(a2, .inr (2, [.ref a2_0, .ref a2_1, .ref a2_2, .ref a2_3, .ref a2_4, .ref a2_5])), (a2_0, .inl (a2_0_c, 24, .inl a2_0_f))] : va_W) ++ rows) s.heap := hP
  have hl := lv_entry ([.int a0, .ref a1, .ref a2]) (n := 6) (Nat.le_of_ble_eq_true rfl)
  rw [lg_entry_eq]
  generalize (lg_sl ([.int a0, .ref a1, .ref a2]) ++ List.replicate (6 - (lg_sl ([.int a0, .ref a1, .ref a2])).length) Slot.unset).toArray = ls at hl ⊢
  have hl : lv_has ls 6 [(0, .int a0), (1, .ref a1), (2, .ref a2)] := hl
  have hK := cyK hK (hts (.arrayClass .int) qw_54) hE.2.2.2.2.2.2.2.2.2.2.2.2.1
  replace hK : va_K (dC, dI) vwCl [(a2_0_c, .int), (g.2.2.2.2.1, .int)] s := hK
  have b_a0 := i32b a0
  have hRS : RS g.2.2.2.2.1 rows rows := RS.rf
  refine lv_iconst (v := (-1)) hx hb dX6_latestAbove_0 (by decide) ?_
  refine lv_istore_n (lv' := [(3, .int (-1)), (0, .int a0), (1, .ref a1), (2, .ref a2)]) hx hb dX6_latestAbove_1 rfl hl (by decide) rfl (fun ls hl => ?_)
  refine lv_iload_n hx hb dX6_latestAbove_2 rfl (lv_at hl 1 rfl) ?_
  refine lv_istore (lv' := [(4, .int a0), (3, .int (-1)), (0, .int a0), (1, .ref a1), (2, .ref a2)]) hx hb dX6_latestAbove_3 hl (by decide) rfl (fun ls hl => ?_)
  refine lv_iconst (v := 0) hx hb dX6_latestAbove_5 (by decide) ?_
  refine lv_istore (lv' := [(5, .int 0), (4, .int a0), (3, .int (-1)), (0, .int a0), (1, .ref a1), (2, .ref a2)]) hx hb dX6_latestAbove_6 hl (by decide) rfl (fun ls hl => ?_)
  have qcm1 : ((-1) : Int32).toInt = (-1) := by decide
  have qc0 : (0 : Int32).toInt = 0 := by decide
  refine wloop (fun n H locs ls => ∃ (l8_5 : Int32) (l8_4 : Int32) (l8_3 : Int32), n = (2147483647 - l8_5.toInt).toNat ∧ (0 ≤ l8_5.toInt) ∧ lv_has ls 6 [(5, .int l8_5), (4, .int l8_4), (3, .int l8_3), (0, .int a0), (1, .ref a1), (2, .ref a2)] ∧ H = s.heap ∧ locs = []) ?_ ((2147483647 - (0 : Int32).toInt).toNat) _ _ _ ⟨0, a0, (-1), rfl, (by omega), lv_sub hl [0, 1, 2, 3, 4, 5] rfl, rfl, rfl⟩
  intro n8 H locs ls hI ih8
  obtain ⟨l8_5, l8_4, l8_3, hn8, g_l8_5, hl, rfl, rfl⟩ := hI
  have b_l8_5 := i32b l8_5
  have b_l8_4 := i32b l8_4
  have b_l8_3 := i32b l8_3
  refine lv_iload hx hb dX6_latestAbove_8 (lv_at hl 0 rfl) ?_
  refine lv_bipush (v := 24) hx hb dX6_latestAbove_10 (by decide) ?_
  refine lv_icmp_ge (tgt := 51) hx hb dX6_latestAbove_12 (by decide) (fun c12_1 => ?_) (fun c12_1 => ?_)
  · have c12_1 : 24 ≤ l8_5.toInt := (cv_le (by decide) rfl).mp c12_1
    refine lv_iload_n hx hb dX6_latestAbove_51 rfl (lv_at hl 2 rfl) ?_
    exact W.iret (v := l8_3) hx hb hr (fun t ht hW => ⟨l8_3, rfl, trivial, ht⟩) (fun _ h => absurd h List.not_mem_nil) dX6_latestAbove_52
  · have c12_1 : ¬ (24 ≤ l8_5.toInt) := mt (cv_le (by decide) rfl).mpr c12_1
    refine lv_iload hx hb dX6_latestAbove_15 (lv_at hl 1 rfl) ?_
    refine lv_if_lt (tgt := 51) hx hb dX6_latestAbove_17 (by decide) (fun c17_2 => ?_) (fun c17_2 => ?_)
    · have c17_2 : l8_4.toInt < 0 := (cv_lt rfl (by decide)).mp c17_2
      refine lv_iload_n hx hb dX6_latestAbove_51 rfl (lv_at hl 2 rfl) ?_
      exact W.iret (v := l8_3) hx hb hr (fun t ht hW => ⟨l8_3, rfl, trivial, ht⟩) (fun _ h => absurd h List.not_mem_nil) dX6_latestAbove_52
    · have c17_2 : ¬ (l8_4.toInt < 0) := mt (cv_lt rfl (by decide)).mpr c17_2
      refine lv_iload hx hb dX6_latestAbove_20 (lv_at hl 1 rfl) ?_
      refine lv_aload_n hx hb dX6_latestAbove_22 rfl (lv_at hl 4 rfl) ?_
      obtain ⟨j3, rr4, hr5⟩ := RS.rh hRS h_a1
      refine va_alen hx hb hK hP (2 + j3) 1 (rgU2_4107713 hr5) rgT2_d592b55 (v := 24) (show Int32.ofNat 24 = 24 from by decide) dX6_latestAbove_23 ?_
      refine lv_icmp_ge (tgt := 51) hx hb dX6_latestAbove_24 (by decide) (fun c24_6 => ?_) (fun c24_6 => ?_)
      · have c24_6 : 24 ≤ l8_4.toInt := (cv_le (by decide) rfl).mp c24_6
        refine lv_iload_n hx hb dX6_latestAbove_51 rfl (lv_at hl 2 rfl) ?_
        exact W.iret (v := l8_3) hx hb hr (fun t ht hW => ⟨l8_3, rfl, trivial, ht⟩) (fun _ h => absurd h List.not_mem_nil) dX6_latestAbove_52
      · have c24_6 : ¬ (24 ≤ l8_4.toInt) := mt (cv_le (by decide) rfl).mpr c24_6
        refine lv_iload_n hx hb dX6_latestAbove_27 rfl (lv_at hl 2 rfl) ?_
        refine lv_aload_n hx hb dX6_latestAbove_28 rfl (lv_at hl 4 rfl) ?_
        refine lv_iload hx hb dX6_latestAbove_29 (lv_at hl 1 rfl) ?_
        obtain ⟨j7, rr8, hr9⟩ := RS.rh hRS h_a1
        refine va_iald hx hb hK hP (2 + j7) 1 (rgU2_4107713 hr9) rgT2_d592b55 (vinI (by omega) (by omega)) dX6_latestAbove_31 ?_
        refine lv_topi (fun x10 e_x10 => ?_)
        have b_x10 := i32b x10
        refine va_mmax hx hb (by rw [hml]; exact hl.1.symm) hown (hts (.methodLink RX6 64 Lib.Math.max.name) qw_127) (hts (.static Lib.Math.max.name) qw_128) (hts (.initialized "java/lang/Math") qw_15) (hts (.code Lib.Math.max.name Lib.Math.max.code 2 (some .int)) qw_129) (Nat.le_of_ble_eq_true rfl) (Nat.le_of_ble_eq_true rfl) (Nat.le_of_ble_eq_true rfl) (Nat.le_of_ble_eq_true rfl) dX6_latestAbove_32 ?_
        refine lv_topi (fun x11 e_x11 => ?_)
        have e_x11 := ti_max e_x11 rfl rfl
        refine lv_istore_n (lv' := [(3, .int x11), (5, .int l8_5), (4, .int l8_4), (0, .int a0), (1, .ref a1), (2, .ref a2)]) hx hb dX6_latestAbove_35 rfl hl (by decide) rfl (fun ls hl => ?_)
        refine lv_aload_n hx hb dX6_latestAbove_36 rfl (lv_at hl 5 rfl) ?_
        refine va_getN (D := (dC, dI)) (ci := 2) (v := .ref a2_0) (C := RX3) (T := TX3) (N := 6) hx hb hts inlX3 hown hK hP 0 rgL2_904ffdf rfl 0 (by decide) (va_Nw.use rfl (nf_11 hN)) (fun _ h9 => h9) rfl dX6_latestAbove_37 ?_
        refine lv_iload hx hb dX6_latestAbove_40 (lv_at hl 2 rfl) ?_
        refine va_iald hx hb hK hP 1 0 rgL2_e1dca27 rgT2_453da77 (vinI (by omega) (by omega)) dX6_latestAbove_42 ?_
        refine lv_topi (fun x12 e_x12 => ?_)
        have b_x12 := i32b x12
        refine lv_istore (lv' := [(4, .int x12), (3, .int x11), (5, .int l8_5), (0, .int a0), (1, .ref a1), (2, .ref a2)]) hx hb dX6_latestAbove_43 hl (by decide) rfl (fun ls hl => ?_)
        obtain ⟨x13, e_x13⟩ : ∃ y : Int32, y = l8_5 + 1 := ⟨_, rfl⟩
        refine lv_iinc (v := x13) (lv' := [(5, .int x13), (4, .int x12), (3, .int x11), (0, .int a0), (1, .ref a1), (2, .ref a2)]) hx hb dX6_latestAbove_45 hl (k := 2) rfl (by rw [e_x13]; rfl) (by decide) rfl (fun ls hl => ?_)
        try have e_x13 := ti_add e_x13 rfl (show (1 : Int32).toInt = 1 by decide) (by omega)
        refine lv_goto (tgt := 8) hx hb dX6_latestAbove_48 (by decide) ?_
        exact ih8 ((2147483647 - x13.toInt).toNat) _ _ _ (by omega) ⟨x13, x12, x11, rfl, (by omega), lv_sub hl [0, 1, 2, 3, 4, 5] rfl, rfl, rfl⟩
set_option maxHeartbeats 4000000 in
set_option maxRecDepth 100000 in
theorem k_X6_toldTerm (l : Launch) (dC : Nat → ClassId) (dI : Nat → Nat → Nat) (g : Gv) (a0 : Int32) (a1 : Int32) (a2 : Nat) (a3 : Nat) (a2_0 : Int32) (a2_1 : Nat) (a2_2 : Int32) (a2_3 : Nat) (a2_4 : Int32) (a2_5 : Nat) (a2_6 : Nat) (a2_7 : Nat) (a2_8 : Int32) (a2_9 : Nat) (a2_10 : Nat) (a2_11 : Nat) (a2_12 : Nat) (a2_13 : Nat) (a2_1_c : ClassId) (a2_1_f : Nat → Int32) (a2_3_c : ClassId) (a2_3_f : Nat → Int32) (a2_5_c : ClassId) (a2_5_f : Nat → Int32) (a2_9_c : ClassId) (a2_9_f : Nat → Int32) (a2_10_c : ClassId) (a2_10_f : Nat → Int32) (a2_12_c : ClassId) (a2_12_f : Nat → Option Nat) (a2_13_c : ClassId) (a2_13_f : Nat → Int32) (a3_0 : Nat) (a3_1 : Nat) (a3_2 : Nat) (a3_3 : Nat) (a3_4 : Nat) (a3_5 : Nat) (a3_1_c : ClassId) (a3_1_f : Nat → Int32) (rows : va_W) (h_a2_0 : 0 ≤ a2_0.toInt ∧ a2_0.toInt ≤ 8) (h_a2_2 : 0 ≤ a2_2.toInt ∧ a2_2.toInt ≤ 4) (h_a2_4 : 0 ≤ a2_4.toInt ∧ a2_4.toInt ≤ 24) (h_a2_8 : 0 ≤ a2_8.toInt ∧ a2_8.toInt ≤ 12) (h_a2_12_f : GR g.2.2.2.2.1 3 12 a2_12_f rows) (ha0r : 0 ≤ a0.toInt ∧ a0.toInt < 12) (ha1r : 0 ≤ a1.toInt ∧ a1.toInt < 24) (hsub : SubOk a2_9_f a2_10_f a0.toNatClampNeg) : Met l yX6_toldTerm (.code yX6_toldTerm cX6_toldTerm 6 (some .int) :: TBL) ({ frames := 3, cells := 0, slots := 0, locals := 73 }) (va_Pc [.int a0, .int a1, .ref a2, .ref a3] (fun U => va_P (dC, dI) vwCl (([(a2, .inr (0, [.int a2_0, .ref a2_1, .int a2_2, .ref a2_3, .int a2_4, .ref a2_5, .ref a2_6, .ref a2_7, .int a2_8, .ref a2_9, .ref a2_10, .ref a2_11, .ref a2_12, .ref a2_13])), (a2_1, .inl (a2_1_c, 8, .inl a2_1_f)), (a2_3, .inl (a2_3_c, 4, .inl a2_3_f)), (a2_5, .inl (a2_5_c, 24, .inl a2_5_f)), (a2_9, .inl (a2_9_c, 12, .inl a2_9_f)), (a2_10, .inl (a2_10_c, 12, .inl a2_10_f)), (a2_12, .inl (a2_12_c, 12, .inr (.inr (.inr (.inr a2_12_f))))), (a2_13, .inl (a2_13_c, 12, .inl a2_13_f)), (a3, .inr (2, [.ref a3_0, .ref a3_1, .ref a3_2, .ref a3_3, .ref a3_4, .ref a3_5])), (a3_1, .inl (a3_1_c, 8, .inl a3_1_f))] : va_W) ++ rows) U.heap ∧ va_K (dC, dI) vwCl [(a2_1_c, .int), (a2_3_c, .int), (a2_5_c, .int), (a2_9_c, .int), (a2_10_c, .int), (a2_12_c, .array .int), (a2_13_c, .int), (a3_1_c, .int)] U ∧ Ev g (fun _ => False) U)) (vp_Si (fun (r : Int32) => True)) 0 0 (fun _ => False) := by
  refine Met.ofW (cc := cX6_toldTerm) (maxL := 6) (ret := (some .int)) (by decide) rfl ?_
  intro p e s m args below meth c s₁ B hml hv
  obtain ⟨rfl, hP, hK, hE⟩ := hv
  have hx := B.exec
  have hb := B.bytes
  have hr := B.returns
  have hts0 := atoms_spec (ws := (.code yX6_toldTerm cX6_toldTerm 6 (some .int) :: TBL)) B.pre
  have hts := fun (w : Cond) (h : w ∈ TBL) => hts0 w (List.mem_cons_of_mem _ h)
  have hown : s.vm.findClass RX6 = some m.cls := findClass_of_methodNamed B.named
  have hlocks := B.notSynchronized
  have hN := hE.1
  have hS : va_S (fun _ => False) s.heap s.heap [] := va_S.rf
  replace hP : va_P (dC, dI) vwCl (([(a2, .inr (0, [.int a2_0, .ref a2_1, .int a2_2, .ref a2_3, .int a2_4, .ref a2_5, .ref a2_6, .ref a2_7, .int a2_8, .ref a2_9, .ref a2_10, .ref a2_11, .ref a2_12, .ref a2_13])), (a2_1, .inl (a2_1_c, 8, .inl a2_1_f)), (a2_3, .inl (a2_3_c, 4, .inl a2_3_f)), (a2_5, .inl (a2_5_c, 24, .inl a2_5_f)), (a2_9, .inl (a2_9_c, 12, .inl a2_9_f)), (a2_10, .inl (a2_10_c, 12, .inl a2_10_f)), (a2_12, .inl (a2_12_c, 12, .inr (.inr (.inr (.inr a2_12_f))))), (a2_13, .inl (a2_13_c, 12, .inl a2_13_f)), (a3, .inr (2, [.ref a3_0, .ref a3_1, .ref a3_2, .ref a3_3, .ref a3_4, .ref a3_5])), (a3_1, .inl (a3_1_c, 8, .inl a3_1_f))] : va_W) ++ rows) s.heap := hP
  have hl := lv_entry ([.int a0, .int a1, .ref a2, .ref a3]) (n := 6) (Nat.le_of_ble_eq_true rfl)
  rw [lg_entry_eq]
  generalize (lg_sl ([.int a0, .int a1, .ref a2, .ref a3]) ++ List.replicate (6 - (lg_sl ([.int a0, .int a1, .ref a2, .ref a3])).length) Slot.unset).toArray = ls at hl ⊢
  have hl : lv_has ls 6 [(0, .int a0), (1, .int a1), (2, .ref a2), (3, .ref a3)] := hl
  have hK := cyK hK (hts (.arrayClass .int) qw_54) hE.2.2.2.2.2.2.2.2.2.2.2.2.1
  replace hK : va_K (dC, dI) vwCl [(a2_1_c, .int), (a2_3_c, .int), (a2_5_c, .int), (a2_9_c, .int), (a2_10_c, .int), (a2_12_c, .array .int), (a2_13_c, .int), (a3_1_c, .int), (g.2.2.2.2.1, .int)] s := hK
  have b_a0 := i32b a0
  have b_a1 := i32b a1
  have hRS : RS g.2.2.2.2.1 rows rows := RS.rf
  refine lv_aload_n hx hb dX6_toldTerm_0 rfl (lv_at hl 2 rfl) ?_
  refine va_getN (D := (dC, dI)) (ci := 0) (v := .ref a2_10) (C := RX1) (T := TX1) (N := 14) hx hb hts inlX1 hown hK hP 0 rgL10_ed6c27a rfl 10 (by decide) (va_Nw.use rfl (nf_51 hN)) (fun _ h9 => h9) rfl dX6_toldTerm_1 ?_
  refine lv_iload_n hx hb dX6_toldTerm_4 rfl (lv_at hl 0 rfl) ?_
  refine va_iald hx hb hK hP 5 4 rgL10_2ecdb4e rgT9_9e21aff (vinI (by omega) (by omega)) dX6_toldTerm_5 ?_
  refine lv_topi (fun x1 e_x1 => ?_)
  have b_x1 := i32b x1
  refine lv_istore (lv' := [(4, .int x1), (0, .int a0), (1, .int a1), (2, .ref a2), (3, .ref a3)]) hx hb dX6_toldTerm_6 hl (by decide) rfl (fun ls hl => ?_)
  refine lv_aload_n hx hb dX6_toldTerm_8 rfl (lv_at hl 3 rfl) ?_
  refine va_getN (D := (dC, dI)) (ci := 0) (v := .ref a2_12) (C := RX1) (T := TX1) (N := 14) hx hb hts inlX1 hown hK hP 0 rgL10_ed6c27a rfl 12 (by decide) (va_Nw.use rfl (nf_57 hN)) (fun _ h9 => h9) rfl dX6_toldTerm_9 ?_
  refine lv_iload_n hx hb dX6_toldTerm_12 rfl (lv_at hl 1 rfl) ?_
  refine va_aldqA hx hb hK hP 6 5 rgL10_de5b6f1 rgT9_6f20d7e (vinI (by omega) (by omega)) dX6_toldTerm_13 ?_
  obtain ⟨y2, hg4, hy3⟩ := GR.at h_a2_12_f (i := a0.toNatClampNeg) (clI (by omega) (by omega))
  refine topv (w := .ref y2) (by rw [hg4]; rfl) ?_
  refine lv_astore (lv' := [(5, .ref y2), (4, .int x1), (0, .int a0), (1, .int a1), (2, .ref a2), (3, .ref a3)]) hx hb dX6_toldTerm_14 hl (by decide) rfl (fun ls hl => ?_)
  refine lv_aload_n hx hb dX6_toldTerm_16 rfl (lv_at hl 4 rfl) ?_
  refine va_getN (D := (dC, dI)) (ci := 0) (v := .ref a2_9) (C := RX1) (T := TX1) (N := 14) hx hb hts inlX1 hown hK hP 0 rgL10_ed6c27a rfl 9 (by decide) (va_Nw.use rfl (nf_48 hN)) (fun _ h9 => h9) rfl dX6_toldTerm_17 ?_
  refine lv_iload_n hx hb dX6_toldTerm_20 rfl (lv_at hl 2 rfl) ?_
  refine va_iald hx hb hK hP 4 3 rgL10_19cd938 rgT9_3fbe917 (vinI (by omega) (by omega)) dX6_toldTerm_21 ?_
  refine lv_topi (fun x5 e_x5 => ?_)
  have b_x5 := i32b x5
  have hs9 := SubOk.use hsub e_x1 e_x5
  rcases (show x5.toInt = 0 ∨ x5.toInt = 1 ∨ x5.toInt = 2 ∨ (x5.toInt < 0 ∨ 2 < x5.toInt) by omega) with hq6 | hq6 | hq6 | hq6
  · refine lv_tableIn (off := 26) (tgt := 48) hx hb dX6_toldTerm_22 (by omega) (by omega) (by rw [hq6]; rfl) (by decide) ?_
    refine lv_aload_n hx hb dX6_toldTerm_48 rfl (lv_at hl 4 rfl) ?_
    refine va_getN (D := (dC, dI)) (ci := 0) (v := .ref a2_5) (C := RX1) (T := TX1) (N := 14) hx hb hts inlX1 hown hK hP 0 rgL10_ed6c27a rfl 5 (by decide) (va_Nw.use rfl (nf_39 hN)) (fun _ h9 => h9) rfl dX6_toldTerm_49 ?_
    refine lv_iload_n hx hb dX6_toldTerm_52 rfl (lv_at hl 3 rfl) ?_
    refine va_iald hx hb hK hP 3 2 rgL10_81c4950 rgT9_bc6cf1d (vinI (by omega) (by omega)) dX6_toldTerm_53 ?_
    refine lv_topi (fun x7 e_x7 => ?_)
    have b_x7 := i32b x7
    refine lv_aload hx hb dX6_toldTerm_54 (lv_at hl 0 rfl) ?_
    refine lv_iconst (v := 0) hx hb dX6_toldTerm_56 (by decide) ?_
    obtain ⟨j8, rr9, hr10⟩ := RS.rh hRS hy3
    refine va_iald hx hb hK hP (10 + j8) 8 (rgU10_aa36529 hr10) rgT9_e83ad87 (vin0 (by decide)) dX6_toldTerm_57 ?_
    refine lv_topi (fun x11 e_x11 => ?_)
    have b_x11 := i32b x11
    have hPc := (rgP10_1e42bb6 hP)
    have hKc := (rgK9_204429a hK)
    refine vp_callSi ((va_runSN (As := [.int x7, .int x11]) (rest := []) ⟨hx, hb, hml, hown, hts⟩ (k_X0_yearsOn l dC dI g (x7) (x11) ) ⟨va_cnB 2 hts (gwC qw_130) rfl rfl rfl (nm_29 hN) (hts (.initialized RX0) qw_3) (by decide +kernel) ⟨Nat.le_of_ble_eq_true rfl, Nat.le_of_ble_eq_true rfl⟩, (hts (.static yX0_yearsOn) qw_131), trivial⟩ ⟨fun a U g9 mk q => ⟨q.1, q.2.1, va_K.moved (u := U) (U := U.calling g9 mk a) (Vm.Alike.refl U.vm) q.2.2.1, Ev.bl q.2.2.2⟩, fun U hU hW => ⟨rfl, atB hU hPc, va_K.moved hW.alike hKc, hE.go hS (fun _ h => h.elim) hU hW⟩⟩ rfl rfl hl.1 rfl (lv_room (Nat.le_of_ble_eq_true rfl)) dX6_toldTerm_58 ⟨Nat.le_of_ble_eq_true rfl, Nat.le_of_ble_eq_true rfl⟩)).run (fun r12 h_r12 => ?_)
    have b_r12 := i32b r12
    exact W.iret (v := r12) hx hb hr (fun t ht hW => ⟨r12, rfl, trivial, ht⟩) (fun _ h => absurd h List.not_mem_nil) dX6_toldTerm_61
  · refine lv_tableIn (off := 40) (tgt := 62) hx hb dX6_toldTerm_22 (by omega) (by omega) (by rw [hq6]; rfl) (by decide) ?_
    refine lv_aload_n hx hb dX6_toldTerm_62 rfl (lv_at hl 5 rfl) ?_
    refine va_getN (D := (dC, dI)) (ci := 2) (v := .ref a3_1) (C := RX3) (T := TX3) (N := 6) hx hb hts inlX3 hown hK hP 8 rgL10_167f2b6 rfl 1 (by decide) (va_Nw.use rfl (nf_17 hN)) (fun _ h9 => h9) rfl dX6_toldTerm_63 ?_
    refine lv_iload hx hb dX6_toldTerm_66 (lv_at hl 1 rfl) ?_
    refine va_iald hx hb hK hP 9 7 rgL10_44a501e rgT9_b6a8be7 (vinI (by omega) (by omega)) dX6_toldTerm_68 ?_
    refine lv_topi (fun x13 e_x13 => ?_)
    have b_x13 := i32b x13
    refine lv_iconst (v := (-1)) hx hb dX6_toldTerm_69 (by decide) ?_
    refine lv_icmp_eq (tgt := 88) hx hb dX6_toldTerm_70 (by decide) (fun c70_14 => ?_) (fun c70_14 => ?_)
    · have c70_14 : x13.toInt = (-1) := (cv_eq rfl (by decide)).mp c70_14
      refine lv_aload_n hx hb dX6_toldTerm_88 rfl (lv_at hl 4 rfl) ?_
      refine va_getN (D := (dC, dI)) (ci := 0) (v := .ref a2_1) (C := RX1) (T := TX1) (N := 14) hx hb hts inlX1 hown hK hP 0 rgL10_ed6c27a rfl 1 (by decide) (va_Nw.use rfl (nf_29 hN)) (fun _ h9 => h9) rfl dX6_toldTerm_89 ?_
      refine lv_iload hx hb dX6_toldTerm_92 (lv_at hl 1 rfl) ?_
      refine va_iald hx hb hK hP 1 0 rgL10_1194c39 rgT9_705ed8a (vinI (by omega) (by omega)) dX6_toldTerm_94 ?_
      refine lv_topi (fun x15 e_x15 => ?_)
      have b_x15 := i32b x15
      refine lv_iconst (v := (-1)) hx hb dX6_toldTerm_95 (by decide) ?_
      refine lv_icmp_eq (tgt := 114) hx hb dX6_toldTerm_96 (by decide) (fun c96_16 => ?_) (fun c96_16 => ?_)
      · have c96_16 : x15.toInt = (-1) := (cv_eq rfl (by decide)).mp c96_16
        refine lv_aload_n hx hb dX6_toldTerm_114 rfl (lv_at hl 4 rfl) ?_
        refine va_getN (D := (dC, dI)) (ci := 0) (v := .ref a2_5) (C := RX1) (T := TX1) (N := 14) hx hb hts inlX1 hown hK hP 0 rgL10_ed6c27a rfl 5 (by decide) (va_Nw.use rfl (nf_39 hN)) (fun _ h9 => h9) rfl dX6_toldTerm_115 ?_
        refine lv_iload_n hx hb dX6_toldTerm_118 rfl (lv_at hl 3 rfl) ?_
        refine va_iald hx hb hK hP 3 2 rgL10_81c4950 rgT9_bc6cf1d (vinI (by omega) (by omega)) dX6_toldTerm_119 ?_
        refine lv_topi (fun x17 e_x17 => ?_)
        have b_x17 := i32b x17
        refine lv_aload hx hb dX6_toldTerm_120 (lv_at hl 0 rfl) ?_
        refine lv_iconst (v := 2) hx hb dX6_toldTerm_122 (by decide) ?_
        obtain ⟨j18, rr19, hr20⟩ := RS.rh hRS hy3
        refine va_iald hx hb hK hP (10 + j18) 8 (rgU10_aa36529 hr20) rgT9_e83ad87 (vin0 (by decide)) dX6_toldTerm_123 ?_
        refine lv_topi (fun x21 e_x21 => ?_)
        have b_x21 := i32b x21
        have hPc := (rgP10_1e42bb6 hP)
        have hKc := (rgK9_204429a hK)
        refine vp_callSi ((va_runSN (As := [.int x17, .int x21]) (rest := []) ⟨hx, hb, hml, hown, hts⟩ (k_X0_yearsOn l dC dI g (x17) (x21) ) ⟨va_cnB 2 hts (gwC qw_130) rfl rfl rfl (nm_29 hN) (hts (.initialized RX0) qw_3) (by decide +kernel) ⟨Nat.le_of_ble_eq_true rfl, Nat.le_of_ble_eq_true rfl⟩, (hts (.static yX0_yearsOn) qw_131), trivial⟩ ⟨fun a U g9 mk q => ⟨q.1, q.2.1, va_K.moved (u := U) (U := U.calling g9 mk a) (Vm.Alike.refl U.vm) q.2.2.1, Ev.bl q.2.2.2⟩, fun U hU hW => ⟨rfl, atB hU hPc, va_K.moved hW.alike hKc, hE.go hS (fun _ h => h.elim) hU hW⟩⟩ rfl rfl hl.1 rfl (lv_room (Nat.le_of_ble_eq_true rfl)) dX6_toldTerm_124 ⟨Nat.le_of_ble_eq_true rfl, Nat.le_of_ble_eq_true rfl⟩)).run (fun r22 h_r22 => ?_)
        have b_r22 := i32b r22
        exact W.iret (v := r22) hx hb hr (fun t ht hW => ⟨r22, rfl, trivial, ht⟩) (fun _ h => absurd h List.not_mem_nil) dX6_toldTerm_127
      · have c96_16 : ¬ (x15.toInt = (-1)) := mt (cv_eq rfl (by decide)).mpr c96_16
        refine lv_aload_n hx hb dX6_toldTerm_99 rfl (lv_at hl 4 rfl) ?_
        refine va_getN (D := (dC, dI)) (ci := 0) (v := .ref a2_1) (C := RX1) (T := TX1) (N := 14) hx hb hts inlX1 hown hK hP 0 rgL10_ed6c27a rfl 1 (by decide) (va_Nw.use rfl (nf_29 hN)) (fun _ h9 => h9) rfl dX6_toldTerm_100 ?_
        refine lv_iload hx hb dX6_toldTerm_103 (lv_at hl 1 rfl) ?_
        refine va_iald hx hb hK hP 1 0 rgL10_1194c39 rgT9_705ed8a (vinI (by omega) (by omega)) dX6_toldTerm_105 ?_
        refine lv_topi (fun x23 e_x23 => ?_)
        have b_x23 := i32b x23
        refine lv_aload hx hb dX6_toldTerm_106 (lv_at hl 0 rfl) ?_
        refine lv_iconst (v := 1) hx hb dX6_toldTerm_108 (by decide) ?_
        obtain ⟨j24, rr25, hr26⟩ := RS.rh hRS hy3
        refine va_iald hx hb hK hP (10 + j24) 8 (rgU10_aa36529 hr26) rgT9_e83ad87 (vin0 (by decide)) dX6_toldTerm_109 ?_
        refine lv_topi (fun x27 e_x27 => ?_)
        have b_x27 := i32b x27
        have hPc := (rgP10_1e42bb6 hP)
        have hKc := (rgK9_204429a hK)
        refine vp_callSi ((va_runSN (As := [.int x23, .int x27]) (rest := []) ⟨hx, hb, hml, hown, hts⟩ (k_X0_yearsOn l dC dI g (x23) (x27) ) ⟨va_cnB 2 hts (gwC qw_130) rfl rfl rfl (nm_29 hN) (hts (.initialized RX0) qw_3) (by decide +kernel) ⟨Nat.le_of_ble_eq_true rfl, Nat.le_of_ble_eq_true rfl⟩, (hts (.static yX0_yearsOn) qw_131), trivial⟩ ⟨fun a U g9 mk q => ⟨q.1, q.2.1, va_K.moved (u := U) (U := U.calling g9 mk a) (Vm.Alike.refl U.vm) q.2.2.1, Ev.bl q.2.2.2⟩, fun U hU hW => ⟨rfl, atB hU hPc, va_K.moved hW.alike hKc, hE.go hS (fun _ h => h.elim) hU hW⟩⟩ rfl rfl hl.1 rfl (lv_room (Nat.le_of_ble_eq_true rfl)) dX6_toldTerm_110 ⟨Nat.le_of_ble_eq_true rfl, Nat.le_of_ble_eq_true rfl⟩)).run (fun r28 h_r28 => ?_)
        have b_r28 := i32b r28
        exact W.iret (v := r28) hx hb hr (fun t ht hW => ⟨r28, rfl, trivial, ht⟩) (fun _ h => absurd h List.not_mem_nil) dX6_toldTerm_113
    · have c70_14 : ¬ (x13.toInt = (-1)) := mt (cv_eq rfl (by decide)).mpr c70_14
      refine lv_aload_n hx hb dX6_toldTerm_73 rfl (lv_at hl 5 rfl) ?_
      refine va_getN (D := (dC, dI)) (ci := 2) (v := .ref a3_1) (C := RX3) (T := TX3) (N := 6) hx hb hts inlX3 hown hK hP 8 rgL10_167f2b6 rfl 1 (by decide) (va_Nw.use rfl (nf_17 hN)) (fun _ h9 => h9) rfl dX6_toldTerm_74 ?_
      refine lv_iload hx hb dX6_toldTerm_77 (lv_at hl 1 rfl) ?_
      refine va_iald hx hb hK hP 9 7 rgL10_44a501e rgT9_b6a8be7 (vinI (by omega) (by omega)) dX6_toldTerm_79 ?_
      refine lv_topi (fun x29 e_x29 => ?_)
      have b_x29 := i32b x29
      refine lv_aload hx hb dX6_toldTerm_80 (lv_at hl 0 rfl) ?_
      refine lv_iconst (v := 0) hx hb dX6_toldTerm_82 (by decide) ?_
      obtain ⟨j30, rr31, hr32⟩ := RS.rh hRS hy3
      refine va_iald hx hb hK hP (10 + j30) 8 (rgU10_aa36529 hr32) rgT9_e83ad87 (vin0 (by decide)) dX6_toldTerm_83 ?_
      refine lv_topi (fun x33 e_x33 => ?_)
      have b_x33 := i32b x33
      have hPc := (rgP10_1e42bb6 hP)
      have hKc := (rgK9_204429a hK)
      refine vp_callSi ((va_runSN (As := [.int x29, .int x33]) (rest := []) ⟨hx, hb, hml, hown, hts⟩ (k_X0_yearsOn l dC dI g (x29) (x33) ) ⟨va_cnB 2 hts (gwC qw_130) rfl rfl rfl (nm_29 hN) (hts (.initialized RX0) qw_3) (by decide +kernel) ⟨Nat.le_of_ble_eq_true rfl, Nat.le_of_ble_eq_true rfl⟩, (hts (.static yX0_yearsOn) qw_131), trivial⟩ ⟨fun a U g9 mk q => ⟨q.1, q.2.1, va_K.moved (u := U) (U := U.calling g9 mk a) (Vm.Alike.refl U.vm) q.2.2.1, Ev.bl q.2.2.2⟩, fun U hU hW => ⟨rfl, atB hU hPc, va_K.moved hW.alike hKc, hE.go hS (fun _ h => h.elim) hU hW⟩⟩ rfl rfl hl.1 rfl (lv_room (Nat.le_of_ble_eq_true rfl)) dX6_toldTerm_84 ⟨Nat.le_of_ble_eq_true rfl, Nat.le_of_ble_eq_true rfl⟩)).run (fun r34 h_r34 => ?_)
      have b_r34 := i32b r34
      exact W.iret (v := r34) hx hb hr (fun t ht hW => ⟨r34, rfl, trivial, ht⟩) (fun _ h => absurd h List.not_mem_nil) dX6_toldTerm_87
  · refine lv_tableIn (off := 106) (tgt := 128) hx hb dX6_toldTerm_22 (by omega) (by omega) (by rw [hq6]; rfl) (by decide) ?_
    refine lv_aload_n hx hb dX6_toldTerm_128 rfl (lv_at hl 4 rfl) ?_
    refine va_getN (D := (dC, dI)) (ci := 0) (v := .ref a2_3) (C := RX1) (T := TX1) (N := 14) hx hb hts inlX1 hown hK hP 0 rgL10_ed6c27a rfl 3 (by decide) (va_Nw.use rfl (nf_34 hN)) (fun _ h9 => h9) rfl dX6_toldTerm_129 ?_
    refine lv_iload hx hb dX6_toldTerm_132 (lv_at hl 1 rfl) ?_
    refine va_iald hx hb hK hP 2 1 rgL10_f10613d rgT9_ade3714 (vinI (by omega) (by omega)) dX6_toldTerm_134 ?_
    refine lv_topi (fun x35 e_x35 => ?_)
    have b_x35 := i32b x35
    refine lv_aload hx hb dX6_toldTerm_135 (lv_at hl 0 rfl) ?_
    refine lv_iconst (v := 0) hx hb dX6_toldTerm_137 (by decide) ?_
    obtain ⟨j36, rr37, hr38⟩ := RS.rh hRS hy3
    refine va_iald hx hb hK hP (10 + j36) 8 (rgU10_aa36529 hr38) rgT9_e83ad87 (vin0 (by decide)) dX6_toldTerm_138 ?_
    refine lv_topi (fun x39 e_x39 => ?_)
    have b_x39 := i32b x39
    have hPc := (rgP10_1e42bb6 hP)
    have hKc := (rgK9_204429a hK)
    refine vp_callSi ((va_runSN (As := [.int x35, .int x39]) (rest := []) ⟨hx, hb, hml, hown, hts⟩ (k_X0_yearsOn l dC dI g (x35) (x39) ) ⟨va_cnB 2 hts (gwC qw_130) rfl rfl rfl (nm_29 hN) (hts (.initialized RX0) qw_3) (by decide +kernel) ⟨Nat.le_of_ble_eq_true rfl, Nat.le_of_ble_eq_true rfl⟩, (hts (.static yX0_yearsOn) qw_131), trivial⟩ ⟨fun a U g9 mk q => ⟨q.1, q.2.1, va_K.moved (u := U) (U := U.calling g9 mk a) (Vm.Alike.refl U.vm) q.2.2.1, Ev.bl q.2.2.2⟩, fun U hU hW => ⟨rfl, atB hU hPc, va_K.moved hW.alike hKc, hE.go hS (fun _ h => h.elim) hU hW⟩⟩ rfl rfl hl.1 rfl (lv_room (Nat.le_of_ble_eq_true rfl)) dX6_toldTerm_139 ⟨Nat.le_of_ble_eq_true rfl, Nat.le_of_ble_eq_true rfl⟩)).run (fun r40 h_r40 => ?_)
    have b_r40 := i32b r40
    exact W.iret (v := r40) hx hb hr (fun t ht hW => ⟨r40, rfl, trivial, ht⟩) (fun _ h => absurd h List.not_mem_nil) dX6_toldTerm_142
  · refine lv_tableOut (tgt := 143) hx hb dX6_toldTerm_22 hq6 (by decide) ?_
    refine lv_aload_n hx hb dX6_toldTerm_143 rfl (lv_at hl 4 rfl) ?_
    refine va_getN (D := (dC, dI)) (ci := 0) (v := .ref a2_13) (C := RX1) (T := TX1) (N := 14) hx hb hts inlX1 hown hK hP 0 rgL10_ed6c27a rfl 13 (by decide) (va_Nw.use rfl (nf_59 hN)) (fun _ h9 => h9) rfl dX6_toldTerm_144 ?_
    refine lv_iload_n hx hb dX6_toldTerm_147 rfl (lv_at hl 2 rfl) ?_
    refine va_iald hx hb hK hP 7 6 rgL10_50db701 rgT9_4ac895f (vinI (by omega) (by omega)) dX6_toldTerm_148 ?_
    refine lv_topi (fun x41 e_x41 => ?_)
    have b_x41 := i32b x41
    exact W.iret (v := x41) hx hb hr (fun t ht hW => ⟨x41, rfl, trivial, ht⟩) (fun _ h => absurd h List.not_mem_nil) dX6_toldTerm_149
set_option maxHeartbeats 4000000 in
set_option maxRecDepth 100000 in
theorem k_X6_reviewedTerm (l : Launch) (dC : Nat → ClassId) (dI : Nat → Nat → Nat) (g : Gv) (a0 : Int32) (a1 : Int32) (a2 : Nat) (a2_0 : Nat) (a2_1 : Nat) (a2_2 : Nat) (a2_3 : Nat) (a2_4 : Nat) (a2_5 : Nat) (a2_3_c : ClassId) (a2_3_f : Nat → Int32) (a2_4_c : ClassId) (a2_4_f : Nat → Option Nat) (a2_5_c : ClassId) (a2_5_f : Nat → Option Nat) (rows : va_W) (h_a2_3_f : vr 0 5 a2_3_f) (h_a2_4_f : GR g.2.2.2.2.1 5 12 a2_4_f rows) (h_a2_5_f : GR g.2.2.2.2.1 5 12 a2_5_f rows) (ha1r : 0 ≤ a1.toInt ∧ a1.toInt < 12) : Met l yX6_reviewedTerm (.code yX6_reviewedTerm cX6_reviewedTerm 7 (some .int) :: TBL) ({ frames := 3, cells := 0, slots := 0, locals := 73 }) (va_Pc [.int a0, .int a1, .ref a2] (fun U => va_P (dC, dI) vwCl (([(a2, .inr (2, [.ref a2_0, .ref a2_1, .ref a2_2, .ref a2_3, .ref a2_4, .ref a2_5])), (a2_3, .inl (a2_3_c, 12, .inl a2_3_f)), (a2_4, .inl (a2_4_c, 12, .inr (.inr (.inr (.inr a2_4_f))))), (a2_5, .inl (a2_5_c, 12, .inr (.inr (.inr (.inr a2_5_f)))))] : va_W) ++ rows) U.heap ∧ va_K (dC, dI) vwCl [(a2_3_c, .int), (a2_4_c, .array .int), (a2_5_c, .array .int)] U ∧ Ev g (fun _ => False) U)) (vp_Si (fun (r : Int32) => True)) 0 0 (fun _ => False) := by
  refine Met.ofW (cc := cX6_reviewedTerm) (maxL := 7) (ret := (some .int)) (by decide) rfl ?_
  intro p e s m args below meth c s₁ B hml hv
  obtain ⟨rfl, hP, hK, hE⟩ := hv
  have hx := B.exec
  have hb := B.bytes
  have hr := B.returns
  have hts0 := atoms_spec (ws := (.code yX6_reviewedTerm cX6_reviewedTerm 7 (some .int) :: TBL)) B.pre
  have hts := fun (w : Cond) (h : w ∈ TBL) => hts0 w (List.mem_cons_of_mem _ h)
  have hown : s.vm.findClass RX6 = some m.cls := findClass_of_methodNamed B.named
  have hlocks := B.notSynchronized
  have hN := hE.1
  have hS : va_S (fun _ => False) s.heap s.heap [] := va_S.rf
  replace hP : va_P (dC, dI) vwCl (([(a2, .inr (2, [.ref a2_0, .ref a2_1, .ref a2_2, .ref a2_3, .ref a2_4, .ref a2_5])), (a2_3, .inl (a2_3_c, 12, .inl a2_3_f)), (a2_4, .inl (a2_4_c, 12, .inr (.inr (.inr (.inr a2_4_f))))), (a2_5, .inl (a2_5_c, 12, .inr (.inr (.inr (.inr a2_5_f)))))] : va_W) ++ rows) s.heap := hP
  have hl := lv_entry ([.int a0, .int a1, .ref a2]) (n := 7) (Nat.le_of_ble_eq_true rfl)
  rw [lg_entry_eq]
  generalize (lg_sl ([.int a0, .int a1, .ref a2]) ++ List.replicate (7 - (lg_sl ([.int a0, .int a1, .ref a2])).length) Slot.unset).toArray = ls at hl ⊢
  have hl : lv_has ls 7 [(0, .int a0), (1, .int a1), (2, .ref a2)] := hl
  have hK := cyK hK (hts (.arrayClass .int) qw_54) hE.2.2.2.2.2.2.2.2.2.2.2.2.1
  replace hK : va_K (dC, dI) vwCl [(a2_3_c, .int), (a2_4_c, .array .int), (a2_5_c, .array .int), (g.2.2.2.2.1, .int)] s := hK
  have b_a0 := i32b a0
  have b_a1 := i32b a1
  have hRS : RS g.2.2.2.2.1 rows rows := RS.rf
  refine lv_iload_n hx hb dX6_reviewedTerm_0 rfl (lv_at hl 0 rfl) ?_
  refine lv_istore_n (lv' := [(3, .int a0), (0, .int a0), (1, .int a1), (2, .ref a2)]) hx hb dX6_reviewedTerm_1 rfl hl (by decide) rfl (fun ls hl => ?_)
  refine lv_iconst (v := 0) hx hb dX6_reviewedTerm_2 (by decide) ?_
  refine lv_istore (lv' := [(4, .int 0), (3, .int a0), (0, .int a0), (1, .int a1), (2, .ref a2)]) hx hb dX6_reviewedTerm_3 hl (by decide) rfl (fun ls hl => ?_)
  have qc0 : (0 : Int32).toInt = 0 := by decide
  refine wloop (fun n H locs ls => ∃ (l5_4 : Int32) (l5_3 : Int32), n = (2147483647 - l5_4.toInt).toNat ∧ (0 ≤ l5_4.toInt) ∧ lv_has ls 7 [(4, .int l5_4), (3, .int l5_3), (0, .int a0), (1, .int a1), (2, .ref a2)] ∧ H = s.heap ∧ locs = []) ?_ ((2147483647 - (0 : Int32).toInt).toNat) _ _ _ ⟨0, a0, rfl, (by omega), lv_sub hl [0, 1, 2, 3, 4] rfl, rfl, rfl⟩
  intro n5 H locs ls hI ih5
  obtain ⟨l5_4, l5_3, hn5, g_l5_4, hl, rfl, rfl⟩ := hI
  have b_l5_4 := i32b l5_4
  have b_l5_3 := i32b l5_3
  refine lv_iload hx hb dX6_reviewedTerm_5 (lv_at hl 0 rfl) ?_
  refine lv_aload_n hx hb dX6_reviewedTerm_7 rfl (lv_at hl 4 rfl) ?_
  refine va_getN (D := (dC, dI)) (ci := 2) (v := .ref a2_3) (C := RX3) (T := TX3) (N := 6) hx hb hts inlX3 hown hK hP 0 rgL4_6945f2e rfl 3 (by decide) (va_Nw.use rfl (nf_22 hN)) (fun _ h9 => h9) rfl dX6_reviewedTerm_8 ?_
  refine lv_iload_n hx hb dX6_reviewedTerm_11 rfl (lv_at hl 3 rfl) ?_
  refine va_iald hx hb hK hP 1 0 rgL4_3765c98 rgT4_b662ba5 (vinI (by omega) (by omega)) dX6_reviewedTerm_12 ?_
  refine lv_topi (fun x1 e_x1 => ?_)
  have b_x1 : 0 ≤ x1.toInt ∧ x1.toInt ≤ 5 := vr_at (lo := 0) (hi := 5) (f := a2_3_f) h_a2_3_f e_x1
  refine lv_icmp_ge (tgt := 62) hx hb dX6_reviewedTerm_13 (by decide) (fun c13_2 => ?_) (fun c13_2 => ?_)
  · have c13_2 : x1.toInt ≤ l5_4.toInt := (cv_le rfl rfl).mp c13_2
    refine lv_iload_n hx hb dX6_reviewedTerm_62 rfl (lv_at hl 1 rfl) ?_
    exact W.iret (v := l5_3) hx hb hr (fun t ht hW => ⟨l5_3, rfl, trivial, ht⟩) (fun _ h => absurd h List.not_mem_nil) dX6_reviewedTerm_63
  · have c13_2 : ¬ (x1.toInt ≤ l5_4.toInt) := mt (cv_le rfl rfl).mpr c13_2
    refine lv_aload_n hx hb dX6_reviewedTerm_16 rfl (lv_at hl 4 rfl) ?_
    refine va_getN (D := (dC, dI)) (ci := 2) (v := .ref a2_4) (C := RX3) (T := TX3) (N := 6) hx hb hts inlX3 hown hK hP 0 rgL4_6945f2e rfl 4 (by decide) (va_Nw.use rfl (nf_24 hN)) (fun _ h9 => h9) rfl dX6_reviewedTerm_17 ?_
    refine lv_iload_n hx hb dX6_reviewedTerm_20 rfl (lv_at hl 3 rfl) ?_
    refine va_aldqA hx hb hK hP 2 1 rgL4_97f54b4 rgT4_b124325 (vinI (by omega) (by omega)) dX6_reviewedTerm_21 ?_
    obtain ⟨y3, hg5, hy4⟩ := GR.at h_a2_4_f (i := a1.toNatClampNeg) (clI (by omega) (by omega))
    refine topv (w := .ref y3) (by rw [hg5]; rfl) ?_
    refine lv_iload hx hb dX6_reviewedTerm_22 (lv_at hl 0 rfl) ?_
    obtain ⟨j6, rr7, hr8⟩ := RS.rh hRS hy4
    refine va_iald hx hb hK hP (4 + j6) 3 (rgU4_1dd8f5a hr8) rgT4_a0d579d (vinI (by omega) (by omega)) dX6_reviewedTerm_24 ?_
    refine lv_topi (fun x9 e_x9 => ?_)
    have b_x9 := i32b x9
    refine lv_istore (lv' := [(5, .int x9), (4, .int l5_4), (3, .int l5_3), (0, .int a0), (1, .int a1), (2, .ref a2)]) hx hb dX6_reviewedTerm_25 hl (by decide) rfl (fun ls hl => ?_)
    refine lv_iload_n hx hb dX6_reviewedTerm_27 rfl (lv_at hl 2 rfl) ?_
    refine lv_iload hx hb dX6_reviewedTerm_28 (lv_at hl 0 rfl) ?_
    refine lv_icmp_le (tgt := 56) hx hb dX6_reviewedTerm_30 (by decide) (fun c30_10 => ?_) (fun c30_10 => ?_)
    · have c30_10 : l5_3.toInt ≤ x9.toInt := (cv_le rfl rfl).mp c30_10
      obtain ⟨x11, e_x11⟩ : ∃ y : Int32, y = l5_4 + 1 := ⟨_, rfl⟩
      refine lv_iinc (v := x11) (lv' := [(4, .int x11), (5, .int x9), (3, .int l5_3), (0, .int a0), (1, .int a1), (2, .ref a2)]) hx hb dX6_reviewedTerm_56 hl (k := 1) rfl (by rw [e_x11]; rfl) (by decide) rfl (fun ls hl => ?_)
      try have e_x11 := ti_add e_x11 rfl (show (1 : Int32).toInt = 1 by decide) (by omega)
      refine lv_goto (tgt := 5) hx hb dX6_reviewedTerm_59 (by decide) ?_
      exact ih5 ((2147483647 - x11.toInt).toNat) _ _ _ (by omega) ⟨x11, l5_3, rfl, (by omega), lv_sub hl [0, 2, 3, 4, 5] rfl, rfl, rfl⟩
    · have c30_10 : ¬ (l5_3.toInt ≤ x9.toInt) := mt (cv_le rfl rfl).mpr c30_10
      refine lv_iload_n hx hb dX6_reviewedTerm_33 rfl (lv_at hl 2 rfl) ?_
      refine lv_aload_n hx hb dX6_reviewedTerm_34 rfl (lv_at hl 5 rfl) ?_
      refine va_getN (D := (dC, dI)) (ci := 2) (v := .ref a2_5) (C := RX3) (T := TX3) (N := 6) hx hb hts inlX3 hown hK hP 0 rgL4_6945f2e rfl 5 (by decide) (va_Nw.use rfl (nf_25 hN)) (fun _ h9 => h9) rfl dX6_reviewedTerm_35 ?_
      refine lv_iload_n hx hb dX6_reviewedTerm_38 rfl (lv_at hl 4 rfl) ?_
      refine va_aldqA hx hb hK hP 3 2 rgL4_05dcacb rgT4_df3fd44 (vinI (by omega) (by omega)) dX6_reviewedTerm_39 ?_
      obtain ⟨y12, hg14, hy13⟩ := GR.at h_a2_5_f (i := a1.toNatClampNeg) (clI (by omega) (by omega))
      refine topv (w := .ref y12) (by rw [hg14]; rfl) ?_
      refine lv_iload hx hb dX6_reviewedTerm_40 (lv_at hl 1 rfl) ?_
      obtain ⟨j15, rr16, hr17⟩ := RS.rh hRS hy13
      refine va_iald hx hb hK hP (4 + j15) 3 (rgU4_1dd8f5a hr17) rgT4_a0d579d (vinI (by omega) (by omega)) dX6_reviewedTerm_42 ?_
      refine lv_topi (fun x18 e_x18 => ?_)
      have b_x18 := i32b x18
      have hPc := (rgP4_d03f170 hP)
      have hKc := (rgK4_6738937 hK)
      refine vp_callSi ((va_runSN (As := [.int l5_3, .int x18]) (rest := []) ⟨hx, hb, hml, hown, hts⟩ (k_X0_yearsOn l dC dI g (l5_3) (x18) ) ⟨va_cnB 2 hts (gwC qw_130) rfl rfl rfl (nm_29 hN) (hts (.initialized RX0) qw_3) (by decide +kernel) ⟨Nat.le_of_ble_eq_true rfl, Nat.le_of_ble_eq_true rfl⟩, (hts (.static yX0_yearsOn) qw_131), trivial⟩ ⟨fun a U g9 mk q => ⟨q.1, q.2.1, va_K.moved (u := U) (U := U.calling g9 mk a) (Vm.Alike.refl U.vm) q.2.2.1, Ev.bl q.2.2.2⟩, fun U hU hW => ⟨rfl, atB hU hPc, va_K.moved hW.alike hKc, hE.go hS (fun _ h => h.elim) hU hW⟩⟩ rfl rfl hl.1 rfl (lv_room (Nat.le_of_ble_eq_true rfl)) dX6_reviewedTerm_43 ⟨Nat.le_of_ble_eq_true rfl, Nat.le_of_ble_eq_true rfl⟩)).run (fun r19 h_r19 => ?_)
      have b_r19 := i32b r19
      refine lv_istore (lv' := [(6, .int r19), (5, .int x9), (4, .int l5_4), (3, .int l5_3), (0, .int a0), (1, .int a1), (2, .ref a2)]) hx hb dX6_reviewedTerm_46 hl (by decide) rfl (fun ls hl => ?_)
      refine lv_iload hx hb dX6_reviewedTerm_48 (lv_at hl 0 rfl) ?_
      refine lv_iload hx hb dX6_reviewedTerm_50 (lv_at hl 1 rfl) ?_
      refine va_mmax hx hb (by rw [hml]; exact hl.1.symm) hown (hts (.methodLink RX6 64 Lib.Math.max.name) qw_127) (hts (.static Lib.Math.max.name) qw_128) (hts (.initialized "java/lang/Math") qw_15) (hts (.code Lib.Math.max.name Lib.Math.max.code 2 (some .int)) qw_129) (Nat.le_of_ble_eq_true rfl) (Nat.le_of_ble_eq_true rfl) (Nat.le_of_ble_eq_true rfl) (Nat.le_of_ble_eq_true rfl) dX6_reviewedTerm_52 ?_
      refine lv_topi (fun x20 e_x20 => ?_)
      have e_x20 := ti_max e_x20 rfl rfl
      refine lv_istore_n (lv' := [(3, .int x20), (6, .int r19), (5, .int x9), (4, .int l5_4), (0, .int a0), (1, .int a1), (2, .ref a2)]) hx hb dX6_reviewedTerm_55 rfl hl (by decide) rfl (fun ls hl => ?_)
      obtain ⟨x21, e_x21⟩ : ∃ y : Int32, y = l5_4 + 1 := ⟨_, rfl⟩
      refine lv_iinc (v := x21) (lv' := [(4, .int x21), (3, .int x20), (6, .int r19), (5, .int x9), (0, .int a0), (1, .int a1), (2, .ref a2)]) hx hb dX6_reviewedTerm_56 hl (k := 3) rfl (by rw [e_x21]; rfl) (by decide) rfl (fun ls hl => ?_)
      try have e_x21 := ti_add e_x21 rfl (show (1 : Int32).toInt = 1 by decide) (by omega)
      refine lv_goto (tgt := 5) hx hb dX6_reviewedTerm_59 (by decide) ?_
      exact ih5 ((2147483647 - x21.toInt).toNat) _ _ _ (by omega) ⟨x21, x20, rfl, (by omega), lv_sub hl [0, 1, 4, 5, 6] rfl, rfl, rfl⟩
set_option maxHeartbeats 4000000 in
set_option maxRecDepth 100000 in
theorem k_X6_termOf (l : Launch) (dC : Nat → ClassId) (dI : Nat → Nat → Nat) (g : Gv) (a0 : Int32) (a1 : Int32) (a2 : Nat) (a3 : Nat) (a2_0 : Int32) (a2_1 : Nat) (a2_2 : Int32) (a2_3 : Nat) (a2_4 : Int32) (a2_5 : Nat) (a2_6 : Nat) (a2_7 : Nat) (a2_8 : Int32) (a2_9 : Nat) (a2_10 : Nat) (a2_11 : Nat) (a2_12 : Nat) (a2_13 : Nat) (a2_1_c : ClassId) (a2_1_f : Nat → Int32) (a2_3_c : ClassId) (a2_3_f : Nat → Int32) (a2_5_c : ClassId) (a2_5_f : Nat → Int32) (a2_9_c : ClassId) (a2_9_f : Nat → Int32) (a2_10_c : ClassId) (a2_10_f : Nat → Int32) (a2_11_c : ClassId) (a2_11_f : Nat → Int32) (a2_12_c : ClassId) (a2_12_f : Nat → Option Nat) (a2_13_c : ClassId) (a2_13_f : Nat → Int32) (a3_0 : Nat) (a3_1 : Nat) (a3_2 : Nat) (a3_3 : Nat) (a3_4 : Nat) (a3_5 : Nat) (a3_1_c : ClassId) (a3_1_f : Nat → Int32) (a3_2_c : ClassId) (a3_2_f : Nat → Int32) (a3_3_c : ClassId) (a3_3_f : Nat → Int32) (a3_4_c : ClassId) (a3_4_f : Nat → Option Nat) (a3_5_c : ClassId) (a3_5_f : Nat → Option Nat) (rows : va_W) (h_a2_0 : 0 ≤ a2_0.toInt ∧ a2_0.toInt ≤ 8) (h_a2_2 : 0 ≤ a2_2.toInt ∧ a2_2.toInt ≤ 4) (h_a2_4 : 0 ≤ a2_4.toInt ∧ a2_4.toInt ≤ 24) (h_a2_8 : 0 ≤ a2_8.toInt ∧ a2_8.toInt ≤ 12) (h_a2_12_f : GR g.2.2.2.2.1 3 12 a2_12_f rows) (h_a3_3_f : vr 0 5 a3_3_f) (h_a3_4_f : GR g.2.2.2.2.1 5 12 a3_4_f rows) (h_a3_5_f : GR g.2.2.2.2.1 5 12 a3_5_f rows) (ha0r : 0 ≤ a0.toInt ∧ a0.toInt < 12) (ha1r : 0 ≤ a1.toInt ∧ a1.toInt < 24) (hsub : SubOk a2_9_f a2_10_f a0.toNatClampNeg) : Met l yX6_termOf (.code yX6_termOf cX6_termOf 6 (some .int) :: TBL) ({ frames := 4, cells := 0, slots := 0, locals := 99 }) (va_Pc [.int a0, .int a1, .ref a2, .ref a3] (fun U => va_P (dC, dI) vwCl (([(a2, .inr (0, [.int a2_0, .ref a2_1, .int a2_2, .ref a2_3, .int a2_4, .ref a2_5, .ref a2_6, .ref a2_7, .int a2_8, .ref a2_9, .ref a2_10, .ref a2_11, .ref a2_12, .ref a2_13])), (a2_1, .inl (a2_1_c, 8, .inl a2_1_f)), (a2_3, .inl (a2_3_c, 4, .inl a2_3_f)), (a2_5, .inl (a2_5_c, 24, .inl a2_5_f)), (a2_9, .inl (a2_9_c, 12, .inl a2_9_f)), (a2_10, .inl (a2_10_c, 12, .inl a2_10_f)), (a2_11, .inl (a2_11_c, 12, .inl a2_11_f)), (a2_12, .inl (a2_12_c, 12, .inr (.inr (.inr (.inr a2_12_f))))), (a2_13, .inl (a2_13_c, 12, .inl a2_13_f)), (a3, .inr (2, [.ref a3_0, .ref a3_1, .ref a3_2, .ref a3_3, .ref a3_4, .ref a3_5])), (a3_1, .inl (a3_1_c, 8, .inl a3_1_f)), (a3_2, .inl (a3_2_c, 12, .inl a3_2_f)), (a3_3, .inl (a3_3_c, 12, .inl a3_3_f)), (a3_4, .inl (a3_4_c, 12, .inr (.inr (.inr (.inr a3_4_f))))), (a3_5, .inl (a3_5_c, 12, .inr (.inr (.inr (.inr a3_5_f)))))] : va_W) ++ rows) U.heap ∧ va_K (dC, dI) vwCl [(a2_1_c, .int), (a2_3_c, .int), (a2_5_c, .int), (a2_9_c, .int), (a2_10_c, .int), (a2_11_c, .boolean), (a2_12_c, .array .int), (a2_13_c, .int), (a3_1_c, .int), (a3_2_c, .int), (a3_3_c, .int), (a3_4_c, .array .int), (a3_5_c, .array .int)] U ∧ Ev g (fun _ => False) U)) (vp_Si (fun (r : Int32) => True)) 0 0 (fun _ => False) := by
  refine Met.ofW (cc := cX6_termOf) (maxL := 6) (ret := (some .int)) (by decide) rfl ?_
  intro p e s m args below meth c s₁ B hml hv
  obtain ⟨rfl, hP, hK, hE⟩ := hv
  have hx := B.exec
  have hb := B.bytes
  have hr := B.returns
  have hts0 := atoms_spec (ws := (.code yX6_termOf cX6_termOf 6 (some .int) :: TBL)) B.pre
  have hts := fun (w : Cond) (h : w ∈ TBL) => hts0 w (List.mem_cons_of_mem _ h)
  have hown : s.vm.findClass RX6 = some m.cls := findClass_of_methodNamed B.named
  have hlocks := B.notSynchronized
  have hN := hE.1
  have hS : va_S (fun _ => False) s.heap s.heap [] := va_S.rf
  replace hP : va_P (dC, dI) vwCl (([(a2, .inr (0, [.int a2_0, .ref a2_1, .int a2_2, .ref a2_3, .int a2_4, .ref a2_5, .ref a2_6, .ref a2_7, .int a2_8, .ref a2_9, .ref a2_10, .ref a2_11, .ref a2_12, .ref a2_13])), (a2_1, .inl (a2_1_c, 8, .inl a2_1_f)), (a2_3, .inl (a2_3_c, 4, .inl a2_3_f)), (a2_5, .inl (a2_5_c, 24, .inl a2_5_f)), (a2_9, .inl (a2_9_c, 12, .inl a2_9_f)), (a2_10, .inl (a2_10_c, 12, .inl a2_10_f)), (a2_11, .inl (a2_11_c, 12, .inl a2_11_f)), (a2_12, .inl (a2_12_c, 12, .inr (.inr (.inr (.inr a2_12_f))))), (a2_13, .inl (a2_13_c, 12, .inl a2_13_f)), (a3, .inr (2, [.ref a3_0, .ref a3_1, .ref a3_2, .ref a3_3, .ref a3_4, .ref a3_5])), (a3_1, .inl (a3_1_c, 8, .inl a3_1_f)), (a3_2, .inl (a3_2_c, 12, .inl a3_2_f)), (a3_3, .inl (a3_3_c, 12, .inl a3_3_f)), (a3_4, .inl (a3_4_c, 12, .inr (.inr (.inr (.inr a3_4_f))))), (a3_5, .inl (a3_5_c, 12, .inr (.inr (.inr (.inr a3_5_f)))))] : va_W) ++ rows) s.heap := hP
  have hl := lv_entry ([.int a0, .int a1, .ref a2, .ref a3]) (n := 6) (Nat.le_of_ble_eq_true rfl)
  rw [lg_entry_eq]
  generalize (lg_sl ([.int a0, .int a1, .ref a2, .ref a3]) ++ List.replicate (6 - (lg_sl ([.int a0, .int a1, .ref a2, .ref a3])).length) Slot.unset).toArray = ls at hl ⊢
  have hl : lv_has ls 6 [(0, .int a0), (1, .int a1), (2, .ref a2), (3, .ref a3)] := hl
  have hK := cyK hK (hts (.arrayClass .int) qw_54) hE.2.2.2.2.2.2.2.2.2.2.2.2.1
  replace hK : va_K (dC, dI) vwCl [(a2_1_c, .int), (a2_3_c, .int), (a2_5_c, .int), (a2_9_c, .int), (a2_10_c, .int), (a2_11_c, .boolean), (a2_12_c, .array .int), (a2_13_c, .int), (a3_1_c, .int), (a3_2_c, .int), (a3_3_c, .int), (a3_4_c, .array .int), (a3_5_c, .array .int), (g.2.2.2.2.1, .int)] s := hK
  have b_a0 := i32b a0
  have b_a1 := i32b a1
  have hRS : RS g.2.2.2.2.1 rows rows := RS.rf
  refine lv_iload_n hx hb dX6_termOf_0 rfl (lv_at hl 0 rfl) ?_
  refine lv_iload_n hx hb dX6_termOf_1 rfl (lv_at hl 1 rfl) ?_
  refine lv_aload_n hx hb dX6_termOf_2 rfl (lv_at hl 2 rfl) ?_
  refine lv_aload_n hx hb dX6_termOf_3 rfl (lv_at hl 3 rfl) ?_
  have hPc := (rgP15_1bfaa4d hP)
  have hKc := (rgK14_f3cef38 hK)
  refine vp_callSi ((va_runS (As := [.int a0, .int a1, .ref a2, .ref a3]) (rest := []) ⟨hx, hb, hml, hown, hts⟩ (k_X6_toldTerm l dC dI g (a0) (a1) (a2) (a3) (a2_0) (a2_1) (a2_2) (a2_3) (a2_4) (a2_5) (a2_6) (a2_7) (a2_8) (a2_9) (a2_10) (a2_11) (a2_12) (a2_13) (a2_1_c) (a2_1_f) (a2_3_c) (a2_3_f) (a2_5_c) (a2_5_f) (a2_9_c) (a2_9_f) (a2_10_c) (a2_10_f) (a2_12_c) (a2_12_f) (a2_13_c) (a2_13_f) (a3_0) (a3_1) (a3_2) (a3_3) (a3_4) (a3_5) (a3_1_c) (a3_1_f) (rows) (by omega) (by omega) (by omega) (by omega) (RS.gr hRS h_a2_12_f) (by omega) (by omega) (by assumption)) (va_cwS 4 hts (gwS qw_134 qw_135 qw_133 qw_132) rfl rfl rfl (by decide +kernel) ⟨Nat.le_of_ble_eq_true rfl, Nat.le_of_ble_eq_true rfl⟩) ⟨fun a U g9 mk q => ⟨q.1, q.2.1, va_K.moved (u := U) (U := U.calling g9 mk a) (Vm.Alike.refl U.vm) q.2.2.1, Ev.bl q.2.2.2⟩, fun U hU hW => ⟨rfl, atB hU hPc, va_K.moved hW.alike hKc, hE.go hS (fun _ h => h.elim) hU hW⟩⟩ rfl rfl hl.1 rfl (lv_room (Nat.le_of_ble_eq_true rfl)) dX6_termOf_4 ⟨Nat.le_of_ble_eq_true rfl, Nat.le_of_ble_eq_true rfl⟩)).run (fun r1 h_r1 => ?_)
  have b_r1 := i32b r1
  refine lv_istore (lv' := [(4, .int r1), (0, .int a0), (1, .int a1), (2, .ref a2), (3, .ref a3)]) hx hb dX6_termOf_7 hl (by decide) rfl (fun ls hl => ?_)
  refine lv_aload_n hx hb dX6_termOf_9 rfl (lv_at hl 3 rfl) ?_
  refine va_getN (D := (dC, dI)) (ci := 0) (v := .ref a2_11) (C := RX1) (T := TX1) (N := 14) hx hb hts inlX1 hown hK hP 0 rgL15_9ccb6ee rfl 11 (by decide) (va_Nw.use rfl (nf_54 hN)) (fun _ h9 => h9) rfl dX6_termOf_10 ?_
  refine lv_iload_n hx hb dX6_termOf_13 rfl (lv_at hl 1 rfl) ?_
  refine va_zald hx hb hK hP 6 5 rgL15_52eb72f rgT14_bd48d55 (vinI (by omega) (by omega)) dX6_termOf_14 ?_
  refine lv_topi (fun x2 e_x2 => ?_)
  have b_x2 := i32b x2
  refine lv_if_eq (tgt := 25) hx hb dX6_termOf_15 (by decide) (fun c15_3 => ?_) (fun c15_3 => ?_)
  · have c15_3 : x2.toInt = 0 := (cv_eq rfl (by decide)).mp c15_3
    refine lv_iload hx hb dX6_termOf_25 (lv_at hl 0 rfl) ?_
    refine lv_iload_n hx hb dX6_termOf_27 rfl (lv_at hl 1 rfl) ?_
    refine lv_aload_n hx hb dX6_termOf_28 rfl (lv_at hl 4 rfl) ?_
    have hPc := (rgP15_7a2eac0 hP)
    have hKc := (rgK14_e17c2b5 hK)
    refine vp_callSi ((va_runS (As := [.int r1, .int a0, .ref a3]) (rest := []) ⟨hx, hb, hml, hown, hts⟩ (k_X6_reviewedTerm l dC dI g (r1) (a0) (a3) (a3_0) (a3_1) (a3_2) (a3_3) (a3_4) (a3_5) (a3_3_c) (a3_3_f) (a3_4_c) (a3_4_f) (a3_5_c) (a3_5_f) (rows) h_a3_3_f (RS.gr hRS h_a3_4_f) (RS.gr hRS h_a3_5_f) (by omega)) (va_cwS 3 hts (gwS qw_137 qw_138 qw_133 qw_136) rfl rfl rfl (by decide +kernel) ⟨Nat.le_of_ble_eq_true rfl, Nat.le_of_ble_eq_true rfl⟩) ⟨fun a U g9 mk q => ⟨q.1, q.2.1, va_K.moved (u := U) (U := U.calling g9 mk a) (Vm.Alike.refl U.vm) q.2.2.1, Ev.bl q.2.2.2⟩, fun U hU hW => ⟨rfl, atB hU hPc, va_K.moved hW.alike hKc, hE.go hS (fun _ h => h.elim) hU hW⟩⟩ rfl rfl hl.1 rfl (lv_room (Nat.le_of_ble_eq_true rfl)) dX6_termOf_29 ⟨Nat.le_of_ble_eq_true rfl, Nat.le_of_ble_eq_true rfl⟩)).run (fun r4 h_r4 => ?_)
    have b_r4 := i32b r4
    refine lv_istore (lv' := [(4, .int r4), (0, .int a0), (1, .int a1), (2, .ref a2), (3, .ref a3)]) hx hb dX6_termOf_32 hl (by decide) rfl (fun ls hl => ?_)
    refine lv_aload_n hx hb dX6_termOf_34 rfl (lv_at hl 4 rfl) ?_
    refine va_getN (D := (dC, dI)) (ci := 2) (v := .ref a3_2) (C := RX3) (T := TX3) (N := 6) hx hb hts inlX3 hown hK hP 9 rgL15_effe1c2 rfl 2 (by decide) (va_Nw.use rfl (nf_19 hN)) (fun _ h9 => h9) rfl dX6_termOf_35 ?_
    refine lv_iload_n hx hb dX6_termOf_38 rfl (lv_at hl 1 rfl) ?_
    refine va_iald hx hb hK hP 11 9 rgL15_6a48bec rgT14_297e950 (vinI (by omega) (by omega)) dX6_termOf_39 ?_
    refine lv_topi (fun x5 e_x5 => ?_)
    have b_x5 := i32b x5
    refine lv_istore (lv' := [(5, .int x5), (4, .int r4), (0, .int a0), (1, .int a1), (2, .ref a2), (3, .ref a3)]) hx hb dX6_termOf_40 hl (by decide) rfl (fun ls hl => ?_)
    refine lv_iload hx hb dX6_termOf_42 (lv_at hl 0 rfl) ?_
    refine lv_iconst (v := (-1)) hx hb dX6_termOf_44 (by decide) ?_
    refine lv_icmp_ne (tgt := 53) hx hb dX6_termOf_45 (by decide) (fun c45_6 => ?_) (fun c45_6 => ?_)
    · have c45_6 : ¬ (x5.toInt = (-1)) := mt (cv_eq rfl (by decide)).mpr c45_6
      refine lv_iload hx hb dX6_termOf_53 (lv_at hl 1 rfl) ?_
      refine lv_iload hx hb dX6_termOf_55 (lv_at hl 0 rfl) ?_
      refine va_mmin hx hb (by rw [hml]; exact hl.1.symm) hown (hts (.methodLink RX6 90 Lib.Math.min.name) qw_139) (hts (.static Lib.Math.min.name) qw_17) (hts (.initialized "java/lang/Math") qw_15) (hts (.code Lib.Math.min.name Lib.Math.min.code 2 (some .int)) qw_18) (Nat.le_of_ble_eq_true rfl) (Nat.le_of_ble_eq_true rfl) (Nat.le_of_ble_eq_true rfl) (Nat.le_of_ble_eq_true rfl) dX6_termOf_57 ?_
      refine lv_topi (fun x7 e_x7 => ?_)
      have e_x7 := ti_min e_x7 rfl rfl
      exact W.iret (v := x7) hx hb hr (fun t ht hW => ⟨x7, rfl, trivial, ht⟩) (fun _ h => absurd h List.not_mem_nil) dX6_termOf_60
    · have c45_6 : x5.toInt = (-1) := (cv_eq rfl (by decide)).mp c45_6
      refine lv_iload hx hb dX6_termOf_48 (lv_at hl 1 rfl) ?_
      refine lv_goto (tgt := 60) hx hb dX6_termOf_50 (by decide) ?_
      exact W.iret (v := r4) hx hb hr (fun t ht hW => ⟨r4, rfl, trivial, ht⟩) (fun _ h => absurd h List.not_mem_nil) dX6_termOf_60
  · have c15_3 : ¬ (x2.toInt = 0) := mt (cv_eq rfl (by decide)).mpr c15_3
    refine lv_iload hx hb dX6_termOf_18 (lv_at hl 0 rfl) ?_
    have hPc := (rgP15_8d36d56 hP)
    have hKc := (rgK14_c7a8fe5 hK)
    refine vp_callSi ((va_runSN (As := [.int r1]) (rest := []) ⟨hx, hb, hml, hown, hts⟩ (k_X0_newYearBehind l dC dI g (r1) ) ⟨va_cnB 1 hts (gwC qw_140) rfl rfl rfl (nm_30 hN) (hts (.initialized RX0) qw_3) (by decide +kernel) ⟨Nat.le_of_ble_eq_true rfl, Nat.le_of_ble_eq_true rfl⟩, (hts (.static yX0_newYearBehind) qw_141), trivial⟩ ⟨fun a U g9 mk q => ⟨q.1, q.2.1, va_K.moved (u := U) (U := U.calling g9 mk a) (Vm.Alike.refl U.vm) q.2.2.1, Ev.bl q.2.2.2⟩, fun U hU hW => ⟨rfl, atB hU hPc, va_K.moved hW.alike hKc, hE.go hS (fun _ h => h.elim) hU hW⟩⟩ rfl rfl hl.1 rfl (lv_room (Nat.le_of_ble_eq_true rfl)) dX6_termOf_20 ⟨Nat.le_of_ble_eq_true rfl, Nat.le_of_ble_eq_true rfl⟩)).run (fun r8 h_r8 => ?_)
    have b_r8 := i32b r8
    refine lv_istore (lv' := [(4, .int r8), (0, .int a0), (1, .int a1), (2, .ref a2), (3, .ref a3)]) hx hb dX6_termOf_23 hl (by decide) rfl (fun ls hl => ?_)
    refine lv_iload hx hb dX6_termOf_25 (lv_at hl 0 rfl) ?_
    refine lv_iload_n hx hb dX6_termOf_27 rfl (lv_at hl 1 rfl) ?_
    refine lv_aload_n hx hb dX6_termOf_28 rfl (lv_at hl 4 rfl) ?_
    have hPc := (rgP15_7a2eac0 hP)
    have hKc := (rgK14_e17c2b5 hK)
    refine vp_callSi ((va_runS (As := [.int r8, .int a0, .ref a3]) (rest := []) ⟨hx, hb, hml, hown, hts⟩ (k_X6_reviewedTerm l dC dI g (r8) (a0) (a3) (a3_0) (a3_1) (a3_2) (a3_3) (a3_4) (a3_5) (a3_3_c) (a3_3_f) (a3_4_c) (a3_4_f) (a3_5_c) (a3_5_f) (rows) h_a3_3_f (RS.gr hRS h_a3_4_f) (RS.gr hRS h_a3_5_f) (by omega)) (va_cwS 3 hts (gwS qw_137 qw_138 qw_133 qw_136) rfl rfl rfl (by decide +kernel) ⟨Nat.le_of_ble_eq_true rfl, Nat.le_of_ble_eq_true rfl⟩) ⟨fun a U g9 mk q => ⟨q.1, q.2.1, va_K.moved (u := U) (U := U.calling g9 mk a) (Vm.Alike.refl U.vm) q.2.2.1, Ev.bl q.2.2.2⟩, fun U hU hW => ⟨rfl, atB hU hPc, va_K.moved hW.alike hKc, hE.go hS (fun _ h => h.elim) hU hW⟩⟩ rfl rfl hl.1 rfl (lv_room (Nat.le_of_ble_eq_true rfl)) dX6_termOf_29 ⟨Nat.le_of_ble_eq_true rfl, Nat.le_of_ble_eq_true rfl⟩)).run (fun r9 h_r9 => ?_)
    have b_r9 := i32b r9
    refine lv_istore (lv' := [(4, .int r9), (0, .int a0), (1, .int a1), (2, .ref a2), (3, .ref a3)]) hx hb dX6_termOf_32 hl (by decide) rfl (fun ls hl => ?_)
    refine lv_aload_n hx hb dX6_termOf_34 rfl (lv_at hl 4 rfl) ?_
    refine va_getN (D := (dC, dI)) (ci := 2) (v := .ref a3_2) (C := RX3) (T := TX3) (N := 6) hx hb hts inlX3 hown hK hP 9 rgL15_effe1c2 rfl 2 (by decide) (va_Nw.use rfl (nf_19 hN)) (fun _ h9 => h9) rfl dX6_termOf_35 ?_
    refine lv_iload_n hx hb dX6_termOf_38 rfl (lv_at hl 1 rfl) ?_
    refine va_iald hx hb hK hP 11 9 rgL15_6a48bec rgT14_297e950 (vinI (by omega) (by omega)) dX6_termOf_39 ?_
    refine lv_topi (fun x10 e_x10 => ?_)
    have b_x10 := i32b x10
    refine lv_istore (lv' := [(5, .int x10), (4, .int r9), (0, .int a0), (1, .int a1), (2, .ref a2), (3, .ref a3)]) hx hb dX6_termOf_40 hl (by decide) rfl (fun ls hl => ?_)
    refine lv_iload hx hb dX6_termOf_42 (lv_at hl 0 rfl) ?_
    refine lv_iconst (v := (-1)) hx hb dX6_termOf_44 (by decide) ?_
    refine lv_icmp_ne (tgt := 53) hx hb dX6_termOf_45 (by decide) (fun c45_11 => ?_) (fun c45_11 => ?_)
    · have c45_11 : ¬ (x10.toInt = (-1)) := mt (cv_eq rfl (by decide)).mpr c45_11
      refine lv_iload hx hb dX6_termOf_53 (lv_at hl 1 rfl) ?_
      refine lv_iload hx hb dX6_termOf_55 (lv_at hl 0 rfl) ?_
      refine va_mmin hx hb (by rw [hml]; exact hl.1.symm) hown (hts (.methodLink RX6 90 Lib.Math.min.name) qw_139) (hts (.static Lib.Math.min.name) qw_17) (hts (.initialized "java/lang/Math") qw_15) (hts (.code Lib.Math.min.name Lib.Math.min.code 2 (some .int)) qw_18) (Nat.le_of_ble_eq_true rfl) (Nat.le_of_ble_eq_true rfl) (Nat.le_of_ble_eq_true rfl) (Nat.le_of_ble_eq_true rfl) dX6_termOf_57 ?_
      refine lv_topi (fun x12 e_x12 => ?_)
      have e_x12 := ti_min e_x12 rfl rfl
      exact W.iret (v := x12) hx hb hr (fun t ht hW => ⟨x12, rfl, trivial, ht⟩) (fun _ h => absurd h List.not_mem_nil) dX6_termOf_60
    · have c45_11 : x10.toInt = (-1) := (cv_eq rfl (by decide)).mp c45_11
      refine lv_iload hx hb dX6_termOf_48 (lv_at hl 1 rfl) ?_
      refine lv_goto (tgt := 60) hx hb dX6_termOf_50 (by decide) ?_
      exact W.iret (v := r9) hx hb hr (fun t ht hW => ⟨r9, rfl, trivial, ht⟩) (fun _ h => absurd h List.not_mem_nil) dX6_termOf_60
set_option maxHeartbeats 4000000 in
set_option maxRecDepth 100000 in
theorem k_X6_toldIn (l : Launch) (dC : Nat → ClassId) (dI : Nat → Nat → Nat) (g : Gv) (a0 : Nat) (a1 : Nat) (a0_0 : Nat) (a0_1 : Nat) (a0_2 : Nat) (a0_3 : Nat) (a0_4 : Nat) (a0_5 : Nat) (a0_6 : Int32) (a0_7 : Int32) (rows : va_W) (h_a0_6 : 0 ≤ a0_6.toInt ∧ a0_6.toInt ≤ 24) (h_a0_7 : 0 ≤ a0_7.toInt ∧ a0_7.toInt ≤ 12) (h_a1 : RH g.2.2.2.2.1 24 a1 rows) : Met l yX6_toldIn (.code yX6_toldIn cX6_toldIn 4 (some .int) :: TBL) ({ frames := 0, cells := 0, slots := 0, locals := 0 }) (va_Pc [.ref a0, .ref a1] (fun U => va_P (dC, dI) vwCl (([(a0, .inr (5, [.ref a0_0, .ref a0_1, .ref a0_2, .ref a0_3, .ref a0_4, .ref a0_5, .int a0_6, .int a0_7]))] : va_W) ++ rows) U.heap ∧ va_K (dC, dI) vwCl [] U ∧ Ev g (fun _ => False) U)) (vp_Si (fun (r : Int32) => True)) 0 0 (fun _ => False) := by
  refine Met.ofW (cc := cX6_toldIn) (maxL := 4) (ret := (some .int)) (by decide) rfl ?_
  intro p e s m args below meth c s₁ B hml hv
  obtain ⟨rfl, hP, hK, hE⟩ := hv
  have hx := B.exec
  have hb := B.bytes
  have hr := B.returns
  have hts0 := atoms_spec (ws := (.code yX6_toldIn cX6_toldIn 4 (some .int) :: TBL)) B.pre
  have hts := fun (w : Cond) (h : w ∈ TBL) => hts0 w (List.mem_cons_of_mem _ h)
  have hown : s.vm.findClass RX6 = some m.cls := findClass_of_methodNamed B.named
  have hlocks := B.notSynchronized
  have hN := hE.1
  have hS : va_S (fun _ => False) s.heap s.heap [] := va_S.rf
  replace hP : va_P (dC, dI) vwCl (([(a0, .inr (5, [.ref a0_0, .ref a0_1, .ref a0_2, .ref a0_3, .ref a0_4, .ref a0_5, .int a0_6, .int a0_7]))] : va_W) ++ rows) s.heap := hP
  have hl := lv_entry ([.ref a0, .ref a1]) (n := 4) (Nat.le_of_ble_eq_true rfl)
  rw [lg_entry_eq]
  generalize (lg_sl ([.ref a0, .ref a1]) ++ List.replicate (4 - (lg_sl ([.ref a0, .ref a1])).length) Slot.unset).toArray = ls at hl ⊢
  have hl : lv_has ls 4 [(0, .ref a0), (1, .ref a1)] := hl
  have hK := cyK hK (hts (.arrayClass .int) qw_54) hE.2.2.2.2.2.2.2.2.2.2.2.2.1
  replace hK : va_K (dC, dI) vwCl [(g.2.2.2.2.1, .int)] s := hK
  have hRS : RS g.2.2.2.2.1 rows rows := RS.rf
  refine lv_iconst (v := 0) hx hb dX6_toldIn_0 (by decide) ?_
  refine lv_istore_n (lv' := [(2, .int 0), (0, .ref a0), (1, .ref a1)]) hx hb dX6_toldIn_1 rfl hl (by decide) rfl (fun ls hl => ?_)
  refine lv_iconst (v := 0) hx hb dX6_toldIn_2 (by decide) ?_
  refine lv_istore_n (lv' := [(3, .int 0), (2, .int 0), (0, .ref a0), (1, .ref a1)]) hx hb dX6_toldIn_3 rfl hl (by decide) rfl (fun ls hl => ?_)
  have qc0 : (0 : Int32).toInt = 0 := by decide
  refine wloop (fun n H locs ls => ∃ (l4_3 : Int32) (l4_2 : Int32), n = (2147483647 - l4_3.toInt).toNat ∧ (0 ≤ l4_3.toInt) ∧ lv_has ls 4 [(3, .int l4_3), (2, .int l4_2), (0, .ref a0), (1, .ref a1)] ∧ H = s.heap ∧ locs = []) ?_ ((2147483647 - (0 : Int32).toInt).toNat) _ _ _ ⟨0, 0, rfl, (by omega), lv_sub hl [0, 1, 2, 3] rfl, rfl, rfl⟩
  intro n4 H locs ls hI ih4
  obtain ⟨l4_3, l4_2, hn4, g_l4_3, hl, rfl, rfl⟩ := hI
  have b_l4_3 := i32b l4_3
  have b_l4_2 := i32b l4_2
  refine lv_iload_n hx hb dX6_toldIn_4 rfl (lv_at hl 0 rfl) ?_
  refine lv_aload_n hx hb dX6_toldIn_5 rfl (lv_at hl 2 rfl) ?_
  refine va_get (D := (dC, dI)) (ci := 5) (v := .int a0_6) (C := RX6) (T := TX6) (N := 8) hx hb hts inlX6 hown hK hP 0 rgL1_a1e3ca8 rfl 6 (by decide) (hts (.fieldLink RX6 38 "ClosedUntil$Timetable" "pieces" "I") qw_124) (fun _ h9 => h9) rfl dX6_toldIn_6 ?_
  refine lv_icmp_ge (tgt := 31) hx hb dX6_toldIn_9 (by decide) (fun c9_1 => ?_) (fun c9_1 => ?_)
  · have c9_1 : a0_6.toInt ≤ l4_3.toInt := (cv_le rfl rfl).mp c9_1
    refine lv_iload_n hx hb dX6_toldIn_31 rfl (lv_at hl 1 rfl) ?_
    exact W.iret (v := l4_2) hx hb hr (fun t ht hW => ⟨l4_2, rfl, trivial, ht⟩) (fun _ h => absurd h List.not_mem_nil) dX6_toldIn_32
  · have c9_1 : ¬ (a0_6.toInt ≤ l4_3.toInt) := mt (cv_le rfl rfl).mpr c9_1
    refine lv_aload_n hx hb dX6_toldIn_12 rfl (lv_at hl 3 rfl) ?_
    refine lv_iload_n hx hb dX6_toldIn_13 rfl (lv_at hl 0 rfl) ?_
    obtain ⟨j2, rr3, hr4⟩ := RS.rh hRS h_a1
    refine va_iald hx hb hK hP (1 + j2) 0 (rgU1_1c30140 hr4) rgT1_bb00d73 (vinI (by omega) (by omega)) dX6_toldIn_14 ?_
    refine lv_topi (fun x5 e_x5 => ?_)
    have b_x5 := i32b x5
    refine lv_iconst (v := (-1)) hx hb dX6_toldIn_15 (by decide) ?_
    refine lv_icmp_eq (tgt := 25) hx hb dX6_toldIn_16 (by decide) (fun c16_6 => ?_) (fun c16_6 => ?_)
    · have c16_6 : x5.toInt = (-1) := (cv_eq rfl (by decide)).mp c16_6
      obtain ⟨x7, e_x7⟩ : ∃ y : Int32, y = l4_3 + 1 := ⟨_, rfl⟩
      refine lv_iinc (v := x7) (lv' := [(3, .int x7), (2, .int l4_2), (0, .ref a0), (1, .ref a1)]) hx hb dX6_toldIn_25 hl (k := 0) rfl (by rw [e_x7]; rfl) (by decide) rfl (fun ls hl => ?_)
      try have e_x7 := ti_add e_x7 rfl (show (1 : Int32).toInt = 1 by decide) (by omega)
      refine lv_goto (tgt := 4) hx hb dX6_toldIn_28 (by decide) ?_
      exact ih4 ((2147483647 - x7.toInt).toNat) _ _ _ (by omega) ⟨x7, l4_2, rfl, (by omega), lv_sub hl [0, 1, 2, 3] rfl, rfl, rfl⟩
    · have c16_6 : ¬ (x5.toInt = (-1)) := mt (cv_eq rfl (by decide)).mpr c16_6
      refine lv_iload_n hx hb dX6_toldIn_19 rfl (lv_at hl 1 rfl) ?_
      refine lv_iconst (v := 1) hx hb dX6_toldIn_20 (by decide) ?_
      refine lv_iload_n hx hb dX6_toldIn_21 rfl (lv_at hl 0 rfl) ?_
      refine lv_ishl hx hb dX6_toldIn_22 ?_
      refine lv_topi (fun x8 e_x8 => ?_)
      refine lv_ior hx hb dX6_toldIn_23 ?_
      refine lv_topi (fun x9 e_x9 => ?_)
      refine lv_istore_n (lv' := [(2, .int x9), (3, .int l4_3), (0, .ref a0), (1, .ref a1)]) hx hb dX6_toldIn_24 rfl hl (by decide) rfl (fun ls hl => ?_)
      obtain ⟨x10, e_x10⟩ : ∃ y : Int32, y = l4_3 + 1 := ⟨_, rfl⟩
      refine lv_iinc (v := x10) (lv' := [(3, .int x10), (2, .int x9), (0, .ref a0), (1, .ref a1)]) hx hb dX6_toldIn_25 hl (k := 1) rfl (by rw [e_x10]; rfl) (by decide) rfl (fun ls hl => ?_)
      try have e_x10 := ti_add e_x10 rfl (show (1 : Int32).toInt = 1 by decide) (by omega)
      refine lv_goto (tgt := 4) hx hb dX6_toldIn_28 (by decide) ?_
      exact ih4 ((2147483647 - x10.toInt).toNat) _ _ _ (by omega) ⟨x10, x9, rfl, (by omega), lv_sub hl [0, 1, 2, 3] rfl, rfl, rfl⟩
set_option maxHeartbeats 4000000 in
set_option maxRecDepth 100000 in
theorem k_X6_targetsOf (l : Launch) (dC : Nat → ClassId) (dI : Nat → Nat → Nat) (g : Gv) (a0 : Nat) (a1 : Int32) (a0_0 : Nat) (a0_1 : Nat) (a0_2 : Nat) (a0_3 : Nat) (a0_4 : Nat) (a0_5 : Nat) (a0_6 : Int32) (a0_7 : Int32) (a0_2_c : ClassId) (a0_2_f : Nat → Option Nat) (rows : va_W) (h_a0_6 : 0 ≤ a0_6.toInt ∧ a0_6.toInt ≤ 24) (h_a0_7 : 0 ≤ a0_7.toInt ∧ a0_7.toInt ≤ 12) (h_a0_2_f : GR g.2.2.2.2.1 24 12 a0_2_f rows) (ha1r : 0 ≤ a1.toInt ∧ a1.toInt < 12) : Met l yX6_targetsOf (.code yX6_targetsOf cX6_targetsOf 2 (some .int) :: TBL) ({ frames := 1, cells := 0, slots := 0, locals := 23 }) (va_Pc [.ref a0, .int a1] (fun U => va_P (dC, dI) vwCl (([(a0, .inr (5, [.ref a0_0, .ref a0_1, .ref a0_2, .ref a0_3, .ref a0_4, .ref a0_5, .int a0_6, .int a0_7])), (a0_2, .inl (a0_2_c, 12, .inr (.inr (.inr (.inr a0_2_f)))))] : va_W) ++ rows) U.heap ∧ va_K (dC, dI) vwCl [(a0_2_c, .array .int)] U ∧ Ev g (fun _ => False) U)) (vp_Si (fun (r : Int32) => True)) 0 0 (fun _ => False) := by
  refine Met.ofW (cc := cX6_targetsOf) (maxL := 2) (ret := (some .int)) (by decide) rfl ?_
  intro p e s m args below meth c s₁ B hml hv
  obtain ⟨rfl, hP, hK, hE⟩ := hv
  have hx := B.exec
  have hb := B.bytes
  have hr := B.returns
  have hts0 := atoms_spec (ws := (.code yX6_targetsOf cX6_targetsOf 2 (some .int) :: TBL)) B.pre
  have hts := fun (w : Cond) (h : w ∈ TBL) => hts0 w (List.mem_cons_of_mem _ h)
  have hown : s.vm.findClass RX6 = some m.cls := findClass_of_methodNamed B.named
  have hlocks := B.notSynchronized
  have hN := hE.1
  have hS : va_S (fun _ => False) s.heap s.heap [] := va_S.rf
  replace hP : va_P (dC, dI) vwCl (([(a0, .inr (5, [.ref a0_0, .ref a0_1, .ref a0_2, .ref a0_3, .ref a0_4, .ref a0_5, .int a0_6, .int a0_7])), (a0_2, .inl (a0_2_c, 12, .inr (.inr (.inr (.inr a0_2_f)))))] : va_W) ++ rows) s.heap := hP
  have hl := lv_entry ([.ref a0, .int a1]) (n := 2) (Nat.le_of_ble_eq_true rfl)
  rw [lg_entry_eq]
  generalize (lg_sl ([.ref a0, .int a1]) ++ List.replicate (2 - (lg_sl ([.ref a0, .int a1])).length) Slot.unset).toArray = ls at hl ⊢
  have hl : lv_has ls 2 [(0, .ref a0), (1, .int a1)] := hl
  have hK := cyK hK (hts (.arrayClass .int) qw_54) hE.2.2.2.2.2.2.2.2.2.2.2.2.1
  replace hK : va_K (dC, dI) vwCl [(a0_2_c, .array .int), (g.2.2.2.2.1, .int)] s := hK
  have b_a1 := i32b a1
  have hRS : RS g.2.2.2.2.1 rows rows := RS.rf
  refine lv_aload_n hx hb dX6_targetsOf_0 rfl (lv_at hl 0 rfl) ?_
  refine lv_aload_n hx hb dX6_targetsOf_1 rfl (lv_at hl 0 rfl) ?_
  refine va_get (D := (dC, dI)) (ci := 5) (v := .ref a0_2) (C := RX6) (T := TX6) (N := 8) hx hb hts inlX6 hown hK hP 0 rgL2_904ffdf rfl 2 (by decide) (hts (.fieldLink RX6 20 "ClosedUntil$Timetable" "terms" "[[I") qw_142) (fun _ h9 => h9) rfl dX6_targetsOf_2 ?_
  refine lv_iload_n hx hb dX6_targetsOf_5 rfl (lv_at hl 1 rfl) ?_
  refine va_aldqA hx hb hK hP 1 0 rgL2_e1dca27 rgT2_453da77 (vinI (by omega) (by omega)) dX6_targetsOf_6 ?_
  obtain ⟨y1, hg3, hy2⟩ := GR.at h_a0_2_f (i := a1.toNatClampNeg) (clI (by omega) (by omega))
  refine topv (w := .ref y1) (by rw [hg3]; rfl) ?_
  have hPc := (rgP2_7b07557 hP)
  have hKc := (rgK2_b4df2fa hK)
  refine vp_callSi ((va_runV (As := [.ref y1]) (rest := []) ⟨hx, hb, hml, hown, hts⟩ (k_X6_toldIn l dC dI g (a0) (y1) (a0_0) (a0_1) (a0_2) (a0_3) (a0_4) (a0_5) (a0_6) (a0_7) (rows) (by omega) (by omega) (RS.rh hRS hy2)) (cwV 1 hts (gwV qw_144 qw_145 qw_146 qw_133 qw_143) rfl rfl rfl (by decide +kernel) ⟨Nat.le_of_ble_eq_true rfl, Nat.le_of_ble_eq_true rfl⟩) ⟨fun a U g9 mk q => ⟨q.1, q.2.1, va_K.moved (u := U) (U := U.calling g9 mk a) (Vm.Alike.refl U.vm) q.2.2.1, Ev.bl q.2.2.2⟩, va_recv hK hP (ci := 5) (q0 := 0) rfl rgL2_904ffdf, fun U hU hW => ⟨rfl, atB hU hPc, va_K.moved hW.alike hKc, hE.go hS (fun _ h => h.elim) hU hW⟩⟩ rfl rfl hl.1 rfl (lv_room (Nat.le_of_ble_eq_true rfl)) dX6_targetsOf_7 ⟨Nat.le_of_ble_eq_true rfl, Nat.le_of_ble_eq_true rfl⟩)).run (fun r4 h_r4 => ?_)
  have b_r4 := i32b r4
  exact W.iret (v := r4) hx hb hr (fun t ht hW => ⟨r4, rfl, trivial, ht⟩) (fun _ h => absurd h List.not_mem_nil) dX6_targetsOf_10
set_option maxHeartbeats 4000000 in
set_option maxRecDepth 100000 in
theorem k_X6_closedUnder (l : Launch) (dC : Nat → ClassId) (dI : Nat → Nat → Nat) (g : Gv) (a0 : Nat) (a1 : Int32) (a0_0 : Nat) (a0_1 : Nat) (a0_2 : Nat) (a0_3 : Nat) (a0_4 : Nat) (a0_5 : Nat) (a0_6 : Int32) (a0_7 : Int32) (a0_3_c : ClassId) (a0_3_f : Nat → Option Nat) (rows : va_W) (h_a0_6 : 0 ≤ a0_6.toInt ∧ a0_6.toInt ≤ 24) (h_a0_7 : 0 ≤ a0_7.toInt ∧ a0_7.toInt ≤ 12) (h_a0_3_f : GR g.2.2.2.2.1 24 12 a0_3_f rows) (ha1r : 0 ≤ a1.toInt ∧ a1.toInt < 12) : Met l yX6_closedUnder (.code yX6_closedUnder cX6_closedUnder 2 (some .int) :: TBL) ({ frames := 1, cells := 0, slots := 0, locals := 23 }) (va_Pc [.ref a0, .int a1] (fun U => va_P (dC, dI) vwCl (([(a0, .inr (5, [.ref a0_0, .ref a0_1, .ref a0_2, .ref a0_3, .ref a0_4, .ref a0_5, .int a0_6, .int a0_7])), (a0_3, .inl (a0_3_c, 12, .inr (.inr (.inr (.inr a0_3_f)))))] : va_W) ++ rows) U.heap ∧ va_K (dC, dI) vwCl [(a0_3_c, .array .int)] U ∧ Ev g (fun _ => False) U)) (vp_Si (fun (r : Int32) => True)) 0 0 (fun _ => False) := by
  refine Met.ofW (cc := cX6_closedUnder) (maxL := 2) (ret := (some .int)) (by decide) rfl ?_
  intro p e s m args below meth c s₁ B hml hv
  obtain ⟨rfl, hP, hK, hE⟩ := hv
  have hx := B.exec
  have hb := B.bytes
  have hr := B.returns
  have hts0 := atoms_spec (ws := (.code yX6_closedUnder cX6_closedUnder 2 (some .int) :: TBL)) B.pre
  have hts := fun (w : Cond) (h : w ∈ TBL) => hts0 w (List.mem_cons_of_mem _ h)
  have hown : s.vm.findClass RX6 = some m.cls := findClass_of_methodNamed B.named
  have hlocks := B.notSynchronized
  have hN := hE.1
  have hS : va_S (fun _ => False) s.heap s.heap [] := va_S.rf
  replace hP : va_P (dC, dI) vwCl (([(a0, .inr (5, [.ref a0_0, .ref a0_1, .ref a0_2, .ref a0_3, .ref a0_4, .ref a0_5, .int a0_6, .int a0_7])), (a0_3, .inl (a0_3_c, 12, .inr (.inr (.inr (.inr a0_3_f)))))] : va_W) ++ rows) s.heap := hP
  have hl := lv_entry ([.ref a0, .int a1]) (n := 2) (Nat.le_of_ble_eq_true rfl)
  rw [lg_entry_eq]
  generalize (lg_sl ([.ref a0, .int a1]) ++ List.replicate (2 - (lg_sl ([.ref a0, .int a1])).length) Slot.unset).toArray = ls at hl ⊢
  have hl : lv_has ls 2 [(0, .ref a0), (1, .int a1)] := hl
  have hK := cyK hK (hts (.arrayClass .int) qw_54) hE.2.2.2.2.2.2.2.2.2.2.2.2.1
  replace hK : va_K (dC, dI) vwCl [(a0_3_c, .array .int), (g.2.2.2.2.1, .int)] s := hK
  have b_a1 := i32b a1
  have hRS : RS g.2.2.2.2.1 rows rows := RS.rf
  refine lv_aload_n hx hb dX6_closedUnder_0 rfl (lv_at hl 0 rfl) ?_
  refine lv_aload_n hx hb dX6_closedUnder_1 rfl (lv_at hl 0 rfl) ?_
  refine va_get (D := (dC, dI)) (ci := 5) (v := .ref a0_3) (C := RX6) (T := TX6) (N := 8) hx hb hts inlX6 hown hK hP 0 rgL2_904ffdf rfl 3 (by decide) (hts (.fieldLink RX6 23 "ClosedUntil$Timetable" "ends" "[[I") qw_147) (fun _ h9 => h9) rfl dX6_closedUnder_2 ?_
  refine lv_iload_n hx hb dX6_closedUnder_5 rfl (lv_at hl 1 rfl) ?_
  refine va_aldqA hx hb hK hP 1 0 rgL2_e1dca27 rgT2_453da77 (vinI (by omega) (by omega)) dX6_closedUnder_6 ?_
  obtain ⟨y1, hg3, hy2⟩ := GR.at h_a0_3_f (i := a1.toNatClampNeg) (clI (by omega) (by omega))
  refine topv (w := .ref y1) (by rw [hg3]; rfl) ?_
  have hPc := (rgP2_7b07557 hP)
  have hKc := (rgK2_b4df2fa hK)
  refine vp_callSi ((va_runV (As := [.ref y1]) (rest := []) ⟨hx, hb, hml, hown, hts⟩ (k_X6_toldIn l dC dI g (a0) (y1) (a0_0) (a0_1) (a0_2) (a0_3) (a0_4) (a0_5) (a0_6) (a0_7) (rows) (by omega) (by omega) (RS.rh hRS hy2)) (cwV 1 hts (gwV qw_144 qw_145 qw_146 qw_133 qw_143) rfl rfl rfl (by decide +kernel) ⟨Nat.le_of_ble_eq_true rfl, Nat.le_of_ble_eq_true rfl⟩) ⟨fun a U g9 mk q => ⟨q.1, q.2.1, va_K.moved (u := U) (U := U.calling g9 mk a) (Vm.Alike.refl U.vm) q.2.2.1, Ev.bl q.2.2.2⟩, va_recv hK hP (ci := 5) (q0 := 0) rfl rgL2_904ffdf, fun U hU hW => ⟨rfl, atB hU hPc, va_K.moved hW.alike hKc, hE.go hS (fun _ h => h.elim) hU hW⟩⟩ rfl rfl hl.1 rfl (lv_room (Nat.le_of_ble_eq_true rfl)) dX6_closedUnder_7 ⟨Nat.le_of_ble_eq_true rfl, Nat.le_of_ble_eq_true rfl⟩)).run (fun r4 h_r4 => ?_)
  have b_r4 := i32b r4
  exact W.iret (v := r4) hx hb hr (fun t ht hW => ⟨r4, rfl, trivial, ht⟩) (fun _ h => absurd h List.not_mem_nil) dX6_closedUnder_10
set_option maxHeartbeats 4000000 in
set_option maxRecDepth 100000 in
theorem k_X6_openingOf (l : Launch) (dC : Nat → ClassId) (dI : Nat → Nat → Nat) (g : Gv) (a0 : Nat) (a1 : Int32) (a2 : Int32) (a0_0 : Nat) (a0_1 : Nat) (a0_2 : Nat) (a0_3 : Nat) (a0_4 : Nat) (a0_5 : Nat) (a0_6 : Int32) (a0_7 : Int32) (a0_3_c : ClassId) (a0_3_f : Nat → Option Nat) (rows : va_W) (h_a0_6 : 0 ≤ a0_6.toInt ∧ a0_6.toInt ≤ 24) (h_a0_7 : 0 ≤ a0_7.toInt ∧ a0_7.toInt ≤ 12) (h_a0_3_f : GR g.2.2.2.2.1 24 12 a0_3_f rows) (ha1r : 0 ≤ a1.toInt ∧ a1.toInt < 24) : Met l yX6_openingOf (.code yX6_openingOf cX6_openingOf 5 (some .int) :: TBL) ({ frames := 1, cells := 0, slots := 0, locals := 30 }) (va_Pc [.ref a0, .int a1, .int a2] (fun U => va_P (dC, dI) vwCl (([(a0, .inr (5, [.ref a0_0, .ref a0_1, .ref a0_2, .ref a0_3, .ref a0_4, .ref a0_5, .int a0_6, .int a0_7])), (a0_3, .inl (a0_3_c, 12, .inr (.inr (.inr (.inr a0_3_f)))))] : va_W) ++ rows) U.heap ∧ va_K (dC, dI) vwCl [(a0_3_c, .array .int)] U ∧ Ev g (fun _ => False) U)) (vp_Si (fun (r : Int32) => True)) 0 0 (fun _ => False) := by
  refine Met.ofW (cc := cX6_openingOf) (maxL := 5) (ret := (some .int)) (by decide) rfl ?_
  intro p e s m args below meth c s₁ B hml hv
  obtain ⟨rfl, hP, hK, hE⟩ := hv
  have hx := B.exec
  have hb := B.bytes
  have hr := B.returns
  have hts0 := atoms_spec (ws := (.code yX6_openingOf cX6_openingOf 5 (some .int) :: TBL)) B.pre
  have hts := fun (w : Cond) (h : w ∈ TBL) => hts0 w (List.mem_cons_of_mem _ h)
  have hown : s.vm.findClass RX6 = some m.cls := findClass_of_methodNamed B.named
  have hlocks := B.notSynchronized
  have hN := hE.1
  have hS : va_S (fun _ => False) s.heap s.heap [] := va_S.rf
  replace hP : va_P (dC, dI) vwCl (([(a0, .inr (5, [.ref a0_0, .ref a0_1, .ref a0_2, .ref a0_3, .ref a0_4, .ref a0_5, .int a0_6, .int a0_7])), (a0_3, .inl (a0_3_c, 12, .inr (.inr (.inr (.inr a0_3_f)))))] : va_W) ++ rows) s.heap := hP
  have hl := lv_entry ([.ref a0, .int a1, .int a2]) (n := 5) (Nat.le_of_ble_eq_true rfl)
  rw [lg_entry_eq]
  generalize (lg_sl ([.ref a0, .int a1, .int a2]) ++ List.replicate (5 - (lg_sl ([.ref a0, .int a1, .int a2])).length) Slot.unset).toArray = ls at hl ⊢
  have hl : lv_has ls 5 [(0, .ref a0), (1, .int a1), (2, .int a2)] := hl
  have hK := cyK hK (hts (.arrayClass .int) qw_54) hE.2.2.2.2.2.2.2.2.2.2.2.2.1
  replace hK : va_K (dC, dI) vwCl [(a0_3_c, .array .int), (g.2.2.2.2.1, .int)] s := hK
  have b_a1 := i32b a1
  have b_a2 := i32b a2
  have hRS : RS g.2.2.2.2.1 rows rows := RS.rf
  refine lv_iconst (v := 0) hx hb dX6_openingOf_0 (by decide) ?_
  refine lv_istore_n (lv' := [(3, .int 0), (0, .ref a0), (1, .int a1), (2, .int a2)]) hx hb dX6_openingOf_1 rfl hl (by decide) rfl (fun ls hl => ?_)
  refine lv_iconst (v := 0) hx hb dX6_openingOf_2 (by decide) ?_
  refine lv_istore (lv' := [(4, .int 0), (3, .int 0), (0, .ref a0), (1, .int a1), (2, .int a2)]) hx hb dX6_openingOf_3 hl (by decide) rfl (fun ls hl => ?_)
  have qc0 : (0 : Int32).toInt = 0 := by decide
  refine wloop (fun n H locs ls => ∃ (l5_4 : Int32) (l5_3 : Int32), n = (2147483647 - l5_4.toInt).toNat ∧ (0 ≤ l5_4.toInt) ∧ lv_has ls 5 [(4, .int l5_4), (3, .int l5_3), (0, .ref a0), (1, .int a1), (2, .int a2)] ∧ H = s.heap ∧ locs = []) ?_ ((2147483647 - (0 : Int32).toInt).toNat) _ _ _ ⟨0, 0, rfl, (by omega), lv_sub hl [0, 1, 2, 3, 4] rfl, rfl, rfl⟩
  intro n5 H locs ls hI ih5
  obtain ⟨l5_4, l5_3, hn5, g_l5_4, hl, rfl, rfl⟩ := hI
  have b_l5_4 := i32b l5_4
  have b_l5_3 := i32b l5_3
  refine lv_iload hx hb dX6_openingOf_5 (lv_at hl 0 rfl) ?_
  refine lv_aload_n hx hb dX6_openingOf_7 rfl (lv_at hl 2 rfl) ?_
  refine va_get (D := (dC, dI)) (ci := 5) (v := .int a0_7) (C := RX6) (T := TX6) (N := 8) hx hb hts inlX6 hown hK hP 0 rgL2_904ffdf rfl 7 (by decide) (hts (.fieldLink RX6 42 "ClosedUntil$Timetable" "closures" "I") qw_148) (fun _ h9 => h9) rfl dX6_openingOf_8 ?_
  refine lv_icmp_ge (tgt := 43) hx hb dX6_openingOf_11 (by decide) (fun c11_1 => ?_) (fun c11_1 => ?_)
  · have c11_1 : a0_7.toInt ≤ l5_4.toInt := (cv_le rfl rfl).mp c11_1
    refine lv_iload_n hx hb dX6_openingOf_43 rfl (lv_at hl 1 rfl) ?_
    exact W.iret (v := l5_3) hx hb hr (fun t ht hW => ⟨l5_3, rfl, trivial, ht⟩) (fun _ h => absurd h List.not_mem_nil) dX6_openingOf_44
  · have c11_1 : ¬ (a0_7.toInt ≤ l5_4.toInt) := mt (cv_le rfl rfl).mpr c11_1
    refine lv_iload_n hx hb dX6_openingOf_14 rfl (lv_at hl 4 rfl) ?_
    refine lv_iload hx hb dX6_openingOf_15 (lv_at hl 0 rfl) ?_
    have hPc := (rgP2_6740c5e hP)
    have hKc := (rgK2_b4df2fa hK)
    refine vp_callSi ((va_runSN (As := [.int a2, .int l5_4]) (rest := []) ⟨hx, hb, hml, hown, hts⟩ (k_X8_hasBit l dC dI g (a2) (l5_4) ) ⟨va_cnB 2 hts (gwC qw_27) rfl rfl rfl (nm_38 hN) (hts (.initialized RX8) qw_28) (by decide +kernel) ⟨Nat.le_of_ble_eq_true rfl, Nat.le_of_ble_eq_true rfl⟩, (hts (.static yX8_hasBit) qw_29), trivial⟩ ⟨fun a U g9 mk q => ⟨q.1, q.2.1, va_K.moved (u := U) (U := U.calling g9 mk a) (Vm.Alike.refl U.vm) q.2.2.1, Ev.bl q.2.2.2⟩, fun U hU hW => ⟨rfl, atB hU hPc, va_K.moved hW.alike hKc, hE.go hS (fun _ h => h.elim) hU hW⟩⟩ rfl rfl hl.1 rfl (lv_room (Nat.le_of_ble_eq_true rfl)) dX6_openingOf_17 ⟨Nat.le_of_ble_eq_true rfl, Nat.le_of_ble_eq_true rfl⟩)).run (fun r2 h_r2 => ?_)
    have h_r2 : (r2 = 0 ∨ r2 = 1) := h_r2
    have b_r2 := z01 (show r2 = 0 ∨ r2 = 1 from h_r2)
    refine lv_if_eq (tgt := 37) hx hb dX6_openingOf_20 (by decide) (fun c20_3 => ?_) (fun c20_3 => ?_)
    · have c20_3 : r2.toInt = 0 := (cv_eq rfl (by decide)).mp c20_3
      obtain ⟨x4, e_x4⟩ : ∃ y : Int32, y = l5_4 + 1 := ⟨_, rfl⟩
      refine lv_iinc (v := x4) (lv' := [(4, .int x4), (3, .int l5_3), (0, .ref a0), (1, .int a1), (2, .int a2)]) hx hb dX6_openingOf_37 hl (k := 0) rfl (by rw [e_x4]; rfl) (by decide) rfl (fun ls hl => ?_)
      try have e_x4 := ti_add e_x4 rfl (show (1 : Int32).toInt = 1 by decide) (by omega)
      refine lv_goto (tgt := 5) hx hb dX6_openingOf_40 (by decide) ?_
      exact ih5 ((2147483647 - x4.toInt).toNat) _ _ _ (by omega) ⟨x4, l5_3, rfl, (by omega), lv_sub hl [0, 1, 2, 3, 4] rfl, rfl, rfl⟩
    · have c20_3 : ¬ (r2.toInt = 0) := mt (cv_eq rfl (by decide)).mpr c20_3
      refine lv_iload_n hx hb dX6_openingOf_23 rfl (lv_at hl 1 rfl) ?_
      refine lv_aload_n hx hb dX6_openingOf_24 rfl (lv_at hl 2 rfl) ?_
      refine va_get (D := (dC, dI)) (ci := 5) (v := .ref a0_3) (C := RX6) (T := TX6) (N := 8) hx hb hts inlX6 hown hK hP 0 rgL2_904ffdf rfl 3 (by decide) (hts (.fieldLink RX6 23 "ClosedUntil$Timetable" "ends" "[[I") qw_147) (fun _ h9 => h9) rfl dX6_openingOf_25 ?_
      refine lv_iload hx hb dX6_openingOf_28 (lv_at hl 0 rfl) ?_
      refine va_aldqA hx hb hK hP 1 0 rgL2_e1dca27 rgT2_453da77 (vinI (by omega) (by omega)) dX6_openingOf_30 ?_
      obtain ⟨y5, hg7, hy6⟩ := GR.at h_a0_3_f (i := l5_4.toNatClampNeg) (clI (by omega) (by omega))
      refine topv (w := .ref y5) (by rw [hg7]; rfl) ?_
      refine lv_iload_n hx hb dX6_openingOf_31 rfl (lv_at hl 3 rfl) ?_
      obtain ⟨j8, rr9, hr10⟩ := RS.rh hRS hy6
      refine va_iald hx hb hK hP (2 + j8) 1 (rgU2_4107713 hr10) rgT2_d592b55 (vinI (by omega) (by omega)) dX6_openingOf_32 ?_
      refine lv_topi (fun x11 e_x11 => ?_)
      have b_x11 := i32b x11
      refine va_mmax hx hb (by rw [hml]; exact hl.1.symm) hown (hts (.methodLink RX6 64 Lib.Math.max.name) qw_127) (hts (.static Lib.Math.max.name) qw_128) (hts (.initialized "java/lang/Math") qw_15) (hts (.code Lib.Math.max.name Lib.Math.max.code 2 (some .int)) qw_129) (Nat.le_of_ble_eq_true rfl) (Nat.le_of_ble_eq_true rfl) (Nat.le_of_ble_eq_true rfl) (Nat.le_of_ble_eq_true rfl) dX6_openingOf_33 ?_
      refine lv_topi (fun x12 e_x12 => ?_)
      have e_x12 := ti_max e_x12 rfl rfl
      refine lv_istore_n (lv' := [(3, .int x12), (4, .int l5_4), (0, .ref a0), (1, .int a1), (2, .int a2)]) hx hb dX6_openingOf_36 rfl hl (by decide) rfl (fun ls hl => ?_)
      obtain ⟨x13, e_x13⟩ : ∃ y : Int32, y = l5_4 + 1 := ⟨_, rfl⟩
      refine lv_iinc (v := x13) (lv' := [(4, .int x13), (3, .int x12), (0, .ref a0), (1, .int a1), (2, .int a2)]) hx hb dX6_openingOf_37 hl (k := 1) rfl (by rw [e_x13]; rfl) (by decide) rfl (fun ls hl => ?_)
      try have e_x13 := ti_add e_x13 rfl (show (1 : Int32).toInt = 1 by decide) (by omega)
      refine lv_goto (tgt := 5) hx hb dX6_openingOf_40 (by decide) ?_
      exact ih5 ((2147483647 - x13.toInt).toNat) _ _ _ (by omega) ⟨x13, x12, rfl, (by omega), lv_sub hl [0, 1, 2, 3, 4] rfl, rfl, rfl⟩
set_option maxHeartbeats 4000000 in
set_option maxRecDepth 100000 in
theorem k_X6_closersOf (l : Launch) (dC : Nat → ClassId) (dI : Nat → Nat → Nat) (g : Gv) (a0 : Nat) (a1 : Int32) (a2 : Int32) (a3 : Int32) (a0_0 : Nat) (a0_1 : Nat) (a0_2 : Nat) (a0_3 : Nat) (a0_4 : Nat) (a0_5 : Nat) (a0_6 : Int32) (a0_7 : Int32) (a0_3_c : ClassId) (a0_3_f : Nat → Option Nat) (rows : va_W) (h_a0_6 : 0 ≤ a0_6.toInt ∧ a0_6.toInt ≤ 24) (h_a0_7 : 0 ≤ a0_7.toInt ∧ a0_7.toInt ≤ 12) (h_a0_3_f : GR g.2.2.2.2.1 24 12 a0_3_f rows) (ha1r : 0 ≤ a1.toInt ∧ a1.toInt < 24) : Met l yX6_closersOf (.code yX6_closersOf cX6_closersOf 6 (some .int) :: TBL) ({ frames := 1, cells := 0, slots := 0, locals := 21 }) (va_Pc [.ref a0, .int a1, .int a2, .int a3] (fun U => va_P (dC, dI) vwCl (([(a0, .inr (5, [.ref a0_0, .ref a0_1, .ref a0_2, .ref a0_3, .ref a0_4, .ref a0_5, .int a0_6, .int a0_7])), (a0_3, .inl (a0_3_c, 12, .inr (.inr (.inr (.inr a0_3_f)))))] : va_W) ++ rows) U.heap ∧ va_K (dC, dI) vwCl [(a0_3_c, .array .int)] U ∧ Ev g (fun _ => False) U)) (vp_Si (fun (r : Int32) => True)) 0 0 (fun _ => False) := by
  refine Met.ofW (cc := cX6_closersOf) (maxL := 6) (ret := (some .int)) (by decide) rfl ?_
  intro p e s m args below meth c s₁ B hml hv
  obtain ⟨rfl, hP, hK, hE⟩ := hv
  have hx := B.exec
  have hb := B.bytes
  have hr := B.returns
  have hts0 := atoms_spec (ws := (.code yX6_closersOf cX6_closersOf 6 (some .int) :: TBL)) B.pre
  have hts := fun (w : Cond) (h : w ∈ TBL) => hts0 w (List.mem_cons_of_mem _ h)
  have hown : s.vm.findClass RX6 = some m.cls := findClass_of_methodNamed B.named
  have hlocks := B.notSynchronized
  have hN := hE.1
  have hS : va_S (fun _ => False) s.heap s.heap [] := va_S.rf
  replace hP : va_P (dC, dI) vwCl (([(a0, .inr (5, [.ref a0_0, .ref a0_1, .ref a0_2, .ref a0_3, .ref a0_4, .ref a0_5, .int a0_6, .int a0_7])), (a0_3, .inl (a0_3_c, 12, .inr (.inr (.inr (.inr a0_3_f)))))] : va_W) ++ rows) s.heap := hP
  have hl := lv_entry ([.ref a0, .int a1, .int a2, .int a3]) (n := 6) (Nat.le_of_ble_eq_true rfl)
  rw [lg_entry_eq]
  generalize (lg_sl ([.ref a0, .int a1, .int a2, .int a3]) ++ List.replicate (6 - (lg_sl ([.ref a0, .int a1, .int a2, .int a3])).length) Slot.unset).toArray = ls at hl ⊢
  have hl : lv_has ls 6 [(0, .ref a0), (1, .int a1), (2, .int a2), (3, .int a3)] := hl
  have hK := cyK hK (hts (.arrayClass .int) qw_54) hE.2.2.2.2.2.2.2.2.2.2.2.2.1
  replace hK : va_K (dC, dI) vwCl [(a0_3_c, .array .int), (g.2.2.2.2.1, .int)] s := hK
  have b_a1 := i32b a1
  have b_a2 := i32b a2
  have b_a3 := i32b a3
  have hRS : RS g.2.2.2.2.1 rows rows := RS.rf
  refine lv_iconst (v := 0) hx hb dX6_closersOf_0 (by decide) ?_
  refine lv_istore (lv' := [(4, .int 0), (0, .ref a0), (1, .int a1), (2, .int a2), (3, .int a3)]) hx hb dX6_closersOf_1 hl (by decide) rfl (fun ls hl => ?_)
  refine lv_iconst (v := 0) hx hb dX6_closersOf_3 (by decide) ?_
  refine lv_istore (lv' := [(5, .int 0), (4, .int 0), (0, .ref a0), (1, .int a1), (2, .int a2), (3, .int a3)]) hx hb dX6_closersOf_4 hl (by decide) rfl (fun ls hl => ?_)
  have qc0 : (0 : Int32).toInt = 0 := by decide
  refine wloop (fun n H locs ls => ∃ (l6_5 : Int32) (l6_4 : Int32), n = (2147483647 - l6_5.toInt).toNat ∧ (0 ≤ l6_5.toInt) ∧ lv_has ls 6 [(5, .int l6_5), (4, .int l6_4), (0, .ref a0), (1, .int a1), (2, .int a2), (3, .int a3)] ∧ H = s.heap ∧ locs = []) ?_ ((2147483647 - (0 : Int32).toInt).toNat) _ _ _ ⟨0, 0, rfl, (by omega), lv_sub hl [0, 1, 2, 3, 4, 5] rfl, rfl, rfl⟩
  intro n6 H locs ls hI ih6
  obtain ⟨l6_5, l6_4, hn6, g_l6_5, hl, rfl, rfl⟩ := hI
  have b_l6_5 := i32b l6_5
  have b_l6_4 := i32b l6_4
  refine lv_iload hx hb dX6_closersOf_6 (lv_at hl 0 rfl) ?_
  refine lv_aload_n hx hb dX6_closersOf_8 rfl (lv_at hl 2 rfl) ?_
  refine va_get (D := (dC, dI)) (ci := 5) (v := .int a0_7) (C := RX6) (T := TX6) (N := 8) hx hb hts inlX6 hown hK hP 0 rgL2_904ffdf rfl 7 (by decide) (hts (.fieldLink RX6 42 "ClosedUntil$Timetable" "closures" "I") qw_148) (fun _ h9 => h9) rfl dX6_closersOf_9 ?_
  refine lv_icmp_ge (tgt := 52) hx hb dX6_closersOf_12 (by decide) (fun c12_1 => ?_) (fun c12_1 => ?_)
  · have c12_1 : a0_7.toInt ≤ l6_5.toInt := (cv_le rfl rfl).mp c12_1
    refine lv_iload hx hb dX6_closersOf_52 (lv_at hl 1 rfl) ?_
    exact W.iret (v := l6_4) hx hb hr (fun t ht hW => ⟨l6_4, rfl, trivial, ht⟩) (fun _ h => absurd h List.not_mem_nil) dX6_closersOf_54
  · have c12_1 : ¬ (a0_7.toInt ≤ l6_5.toInt) := mt (cv_le rfl rfl).mpr c12_1
    refine lv_iload_n hx hb dX6_closersOf_15 rfl (lv_at hl 5 rfl) ?_
    refine lv_iload hx hb dX6_closersOf_16 (lv_at hl 0 rfl) ?_
    have hPc := (rgP2_6740c5e hP)
    have hKc := (rgK2_b4df2fa hK)
    refine vp_callSi ((va_runSN (As := [.int a3, .int l6_5]) (rest := []) ⟨hx, hb, hml, hown, hts⟩ (k_X8_hasBit l dC dI g (a3) (l6_5) ) ⟨va_cnB 2 hts (gwC qw_27) rfl rfl rfl (nm_38 hN) (hts (.initialized RX8) qw_28) (by decide +kernel) ⟨Nat.le_of_ble_eq_true rfl, Nat.le_of_ble_eq_true rfl⟩, (hts (.static yX8_hasBit) qw_29), trivial⟩ ⟨fun a U g9 mk q => ⟨q.1, q.2.1, va_K.moved (u := U) (U := U.calling g9 mk a) (Vm.Alike.refl U.vm) q.2.2.1, Ev.bl q.2.2.2⟩, fun U hU hW => ⟨rfl, atB hU hPc, va_K.moved hW.alike hKc, hE.go hS (fun _ h => h.elim) hU hW⟩⟩ rfl rfl hl.1 rfl (lv_room (Nat.le_of_ble_eq_true rfl)) dX6_closersOf_18 ⟨Nat.le_of_ble_eq_true rfl, Nat.le_of_ble_eq_true rfl⟩)).run (fun r2 h_r2 => ?_)
    have h_r2 : (r2 = 0 ∨ r2 = 1) := h_r2
    have b_r2 := z01 (show r2 = 0 ∨ r2 = 1 from h_r2)
    refine lv_if_eq (tgt := 46) hx hb dX6_closersOf_21 (by decide) (fun c21_3 => ?_) (fun c21_3 => ?_)
    · have c21_3 : r2.toInt = 0 := (cv_eq rfl (by decide)).mp c21_3
      obtain ⟨x4, e_x4⟩ : ∃ y : Int32, y = l6_5 + 1 := ⟨_, rfl⟩
      refine lv_iinc (v := x4) (lv' := [(5, .int x4), (4, .int l6_4), (0, .ref a0), (1, .int a1), (2, .int a2), (3, .int a3)]) hx hb dX6_closersOf_46 hl (k := 0) rfl (by rw [e_x4]; rfl) (by decide) rfl (fun ls hl => ?_)
      try have e_x4 := ti_add e_x4 rfl (show (1 : Int32).toInt = 1 by decide) (by omega)
      refine lv_goto (tgt := 6) hx hb dX6_closersOf_49 (by decide) ?_
      exact ih6 ((2147483647 - x4.toInt).toNat) _ _ _ (by omega) ⟨x4, l6_4, rfl, (by omega), lv_sub hl [0, 1, 2, 3, 4, 5] rfl, rfl, rfl⟩
    · have c21_3 : ¬ (r2.toInt = 0) := mt (cv_eq rfl (by decide)).mpr c21_3
      refine lv_iload_n hx hb dX6_closersOf_24 rfl (lv_at hl 4 rfl) ?_
      refine lv_aload_n hx hb dX6_closersOf_25 rfl (lv_at hl 2 rfl) ?_
      refine va_get (D := (dC, dI)) (ci := 5) (v := .ref a0_3) (C := RX6) (T := TX6) (N := 8) hx hb hts inlX6 hown hK hP 0 rgL2_904ffdf rfl 3 (by decide) (hts (.fieldLink RX6 23 "ClosedUntil$Timetable" "ends" "[[I") qw_147) (fun _ h9 => h9) rfl dX6_closersOf_26 ?_
      refine lv_iload hx hb dX6_closersOf_29 (lv_at hl 0 rfl) ?_
      refine va_aldqA hx hb hK hP 1 0 rgL2_e1dca27 rgT2_453da77 (vinI (by omega) (by omega)) dX6_closersOf_31 ?_
      obtain ⟨y5, hg7, hy6⟩ := GR.at h_a0_3_f (i := l6_5.toNatClampNeg) (clI (by omega) (by omega))
      refine topv (w := .ref y5) (by rw [hg7]; rfl) ?_
      refine lv_iload_n hx hb dX6_closersOf_32 rfl (lv_at hl 3 rfl) ?_
      obtain ⟨j8, rr9, hr10⟩ := RS.rh hRS hy6
      refine va_iald hx hb hK hP (2 + j8) 1 (rgU2_4107713 hr10) rgT2_d592b55 (vinI (by omega) (by omega)) dX6_closersOf_33 ?_
      refine lv_topi (fun x11 e_x11 => ?_)
      have b_x11 := i32b x11
      refine lv_icmp_ge (tgt := 46) hx hb dX6_closersOf_34 (by decide) (fun c34_12 => ?_) (fun c34_12 => ?_)
      · have c34_12 : x11.toInt ≤ a2.toInt := (cv_le rfl rfl).mp c34_12
        obtain ⟨x13, e_x13⟩ : ∃ y : Int32, y = l6_5 + 1 := ⟨_, rfl⟩
        refine lv_iinc (v := x13) (lv' := [(5, .int x13), (4, .int l6_4), (0, .ref a0), (1, .int a1), (2, .int a2), (3, .int a3)]) hx hb dX6_closersOf_46 hl (k := 0) rfl (by rw [e_x13]; rfl) (by decide) rfl (fun ls hl => ?_)
        try have e_x13 := ti_add e_x13 rfl (show (1 : Int32).toInt = 1 by decide) (by omega)
        refine lv_goto (tgt := 6) hx hb dX6_closersOf_49 (by decide) ?_
        exact ih6 ((2147483647 - x13.toInt).toNat) _ _ _ (by omega) ⟨x13, l6_4, rfl, (by omega), lv_sub hl [0, 1, 2, 3, 4, 5] rfl, rfl, rfl⟩
      · have c34_12 : ¬ (x11.toInt ≤ a2.toInt) := mt (cv_le rfl rfl).mpr c34_12
        refine lv_iload hx hb dX6_closersOf_37 (lv_at hl 1 rfl) ?_
        refine lv_iconst (v := 1) hx hb dX6_closersOf_39 (by decide) ?_
        refine lv_iload hx hb dX6_closersOf_40 (lv_at hl 0 rfl) ?_
        refine lv_ishl hx hb dX6_closersOf_42 ?_
        refine lv_topi (fun x14 e_x14 => ?_)
        refine lv_ior hx hb dX6_closersOf_43 ?_
        refine lv_topi (fun x15 e_x15 => ?_)
        refine lv_istore (lv' := [(4, .int x15), (5, .int l6_5), (0, .ref a0), (1, .int a1), (2, .int a2), (3, .int a3)]) hx hb dX6_closersOf_44 hl (by decide) rfl (fun ls hl => ?_)
        obtain ⟨x16, e_x16⟩ : ∃ y : Int32, y = l6_5 + 1 := ⟨_, rfl⟩
        refine lv_iinc (v := x16) (lv' := [(5, .int x16), (4, .int x15), (0, .ref a0), (1, .int a1), (2, .int a2), (3, .int a3)]) hx hb dX6_closersOf_46 hl (k := 1) rfl (by rw [e_x16]; rfl) (by decide) rfl (fun ls hl => ?_)
        try have e_x16 := ti_add e_x16 rfl (show (1 : Int32).toInt = 1 by decide) (by omega)
        refine lv_goto (tgt := 6) hx hb dX6_closersOf_49 (by decide) ?_
        exact ih6 ((2147483647 - x16.toInt).toNat) _ _ _ (by omega) ⟨x16, x15, rfl, (by omega), lv_sub hl [0, 1, 2, 3, 4, 5] rfl, rfl, rfl⟩
set_option maxHeartbeats 4000000 in
set_option maxRecDepth 100000 in
theorem k_X6_openOn (l : Launch) (dC : Nat → ClassId) (dI : Nat → Nat → Nat) (g : Gv) (a0 : Nat) (a1 : Int32) (a2 : Int32) (a0_0 : Nat) (a0_1 : Nat) (a0_2 : Nat) (a0_3 : Nat) (a0_4 : Nat) (a0_5 : Nat) (a0_6 : Int32) (a0_7 : Int32) (a0_3_c : ClassId) (a0_3_f : Nat → Option Nat) (rows : va_W) (h_a0_6 : 0 ≤ a0_6.toInt ∧ a0_6.toInt ≤ 24) (h_a0_7 : 0 ≤ a0_7.toInt ∧ a0_7.toInt ≤ 12) (h_a0_3_f : GR g.2.2.2.2.1 24 12 a0_3_f rows) : Met l yX6_openOn (.code yX6_openOn cX6_openOn 5 (some .int) :: TBL) ({ frames := 2, cells := 0, slots := 0, locals := 46 }) (va_Pc [.ref a0, .int a1, .int a2] (fun U => va_P (dC, dI) vwCl (([(a0, .inr (5, [.ref a0_0, .ref a0_1, .ref a0_2, .ref a0_3, .ref a0_4, .ref a0_5, .int a0_6, .int a0_7])), (a0_3, .inl (a0_3_c, 12, .inr (.inr (.inr (.inr a0_3_f)))))] : va_W) ++ rows) U.heap ∧ va_K (dC, dI) vwCl [(a0_3_c, .array .int)] U ∧ Ev g (fun _ => False) U)) (vp_Si (fun (r : Int32) => True)) 0 0 (fun _ => False) := by
  refine Met.ofW (cc := cX6_openOn) (maxL := 5) (ret := (some .int)) (by decide) rfl ?_
  intro p e s m args below meth c s₁ B hml hv
  obtain ⟨rfl, hP, hK, hE⟩ := hv
  have hx := B.exec
  have hb := B.bytes
  have hr := B.returns
  have hts0 := atoms_spec (ws := (.code yX6_openOn cX6_openOn 5 (some .int) :: TBL)) B.pre
  have hts := fun (w : Cond) (h : w ∈ TBL) => hts0 w (List.mem_cons_of_mem _ h)
  have hown : s.vm.findClass RX6 = some m.cls := findClass_of_methodNamed B.named
  have hlocks := B.notSynchronized
  have hN := hE.1
  have hS : va_S (fun _ => False) s.heap s.heap [] := va_S.rf
  replace hP : va_P (dC, dI) vwCl (([(a0, .inr (5, [.ref a0_0, .ref a0_1, .ref a0_2, .ref a0_3, .ref a0_4, .ref a0_5, .int a0_6, .int a0_7])), (a0_3, .inl (a0_3_c, 12, .inr (.inr (.inr (.inr a0_3_f)))))] : va_W) ++ rows) s.heap := hP
  have hl := lv_entry ([.ref a0, .int a1, .int a2]) (n := 5) (Nat.le_of_ble_eq_true rfl)
  rw [lg_entry_eq]
  generalize (lg_sl ([.ref a0, .int a1, .int a2]) ++ List.replicate (5 - (lg_sl ([.ref a0, .int a1, .int a2])).length) Slot.unset).toArray = ls at hl ⊢
  have hl : lv_has ls 5 [(0, .ref a0), (1, .int a1), (2, .int a2)] := hl
  have hK := cyK hK (hts (.arrayClass .int) qw_54) hE.2.2.2.2.2.2.2.2.2.2.2.2.1
  replace hK : va_K (dC, dI) vwCl [(a0_3_c, .array .int), (g.2.2.2.2.1, .int)] s := hK
  have b_a1 := i32b a1
  have b_a2 := i32b a2
  have hRS : RS g.2.2.2.2.1 rows rows := RS.rf
  refine lv_iconst (v := 0) hx hb dX6_openOn_0 (by decide) ?_
  refine lv_istore_n (lv' := [(3, .int 0), (0, .ref a0), (1, .int a1), (2, .int a2)]) hx hb dX6_openOn_1 rfl hl (by decide) rfl (fun ls hl => ?_)
  refine lv_iconst (v := 0) hx hb dX6_openOn_2 (by decide) ?_
  refine lv_istore (lv' := [(4, .int 0), (3, .int 0), (0, .ref a0), (1, .int a1), (2, .int a2)]) hx hb dX6_openOn_3 hl (by decide) rfl (fun ls hl => ?_)
  have qc0 : (0 : Int32).toInt = 0 := by decide
  refine wloop (fun n H locs ls => ∃ (l5_4 : Int32) (l5_3 : Int32), n = (2147483647 - l5_4.toInt).toNat ∧ (0 ≤ l5_4.toInt) ∧ lv_has ls 5 [(4, .int l5_4), (3, .int l5_3), (0, .ref a0), (1, .int a1), (2, .int a2)] ∧ H = s.heap ∧ locs = []) ?_ ((2147483647 - (0 : Int32).toInt).toNat) _ _ _ ⟨0, 0, rfl, (by omega), lv_sub hl [0, 1, 2, 3, 4] rfl, rfl, rfl⟩
  intro n5 H locs ls hI ih5
  obtain ⟨l5_4, l5_3, hn5, g_l5_4, hl, rfl, rfl⟩ := hI
  have b_l5_4 := i32b l5_4
  have b_l5_3 := i32b l5_3
  refine lv_iload hx hb dX6_openOn_5 (lv_at hl 0 rfl) ?_
  refine lv_aload_n hx hb dX6_openOn_7 rfl (lv_at hl 2 rfl) ?_
  refine va_get (D := (dC, dI)) (ci := 5) (v := .int a0_6) (C := RX6) (T := TX6) (N := 8) hx hb hts inlX6 hown hK hP 0 rgL2_904ffdf rfl 6 (by decide) (hts (.fieldLink RX6 38 "ClosedUntil$Timetable" "pieces" "I") qw_124) (fun _ h9 => h9) rfl dX6_openOn_8 ?_
  refine lv_icmp_ge (tgt := 38) hx hb dX6_openOn_11 (by decide) (fun c11_1 => ?_) (fun c11_1 => ?_)
  · have c11_1 : a0_6.toInt ≤ l5_4.toInt := (cv_le rfl rfl).mp c11_1
    refine lv_iload_n hx hb dX6_openOn_38 rfl (lv_at hl 1 rfl) ?_
    exact W.iret (v := l5_3) hx hb hr (fun t ht hW => ⟨l5_3, rfl, trivial, ht⟩) (fun _ h => absurd h List.not_mem_nil) dX6_openOn_39
  · have c11_1 : ¬ (a0_6.toInt ≤ l5_4.toInt) := mt (cv_le rfl rfl).mpr c11_1
    refine lv_aload_n hx hb dX6_openOn_14 rfl (lv_at hl 2 rfl) ?_
    refine lv_iload hx hb dX6_openOn_15 (lv_at hl 0 rfl) ?_
    refine lv_iload_n hx hb dX6_openOn_17 rfl (lv_at hl 3 rfl) ?_
    refine lv_iload_n hx hb dX6_openOn_18 rfl (lv_at hl 4 rfl) ?_
    have hPc := hP
    have hKc := (rgK2_58023b0 hK)
    refine vp_callSi ((va_runV (As := [.int l5_4, .int a1, .int a2]) (rest := []) ⟨hx, hb, hml, hown, hts⟩ (k_X6_closersOf l dC dI g (a0) (l5_4) (a1) (a2) (a0_0) (a0_1) (a0_2) (a0_3) (a0_4) (a0_5) (a0_6) (a0_7) (a0_3_c) (a0_3_f) (rows) (by omega) (by omega) (RS.gr hRS h_a0_3_f) (by omega)) (cwV 3 hts (gwV qw_150 qw_151 qw_152 qw_133 qw_149) rfl rfl rfl (by decide +kernel) ⟨Nat.le_of_ble_eq_true rfl, Nat.le_of_ble_eq_true rfl⟩) ⟨fun a U g9 mk q => ⟨q.1, q.2.1, va_K.moved (u := U) (U := U.calling g9 mk a) (Vm.Alike.refl U.vm) q.2.2.1, Ev.bl q.2.2.2⟩, va_recv hK hP (ci := 5) (q0 := 0) rfl rgL2_904ffdf, fun U hU hW => ⟨rfl, atB hU hPc, va_K.moved hW.alike hKc, hE.go hS (fun _ h => h.elim) hU hW⟩⟩ rfl rfl hl.1 rfl (lv_room (Nat.le_of_ble_eq_true rfl)) dX6_openOn_19 ⟨Nat.le_of_ble_eq_true rfl, Nat.le_of_ble_eq_true rfl⟩)).run (fun r2 h_r2 => ?_)
    have b_r2 := i32b r2
    refine lv_if_ne (tgt := 32) hx hb dX6_openOn_22 (by decide) (fun c22_3 => ?_) (fun c22_3 => ?_)
    · have c22_3 : ¬ (r2.toInt = 0) := mt (cv_eq rfl (by decide)).mpr c22_3
      obtain ⟨x4, e_x4⟩ : ∃ y : Int32, y = l5_4 + 1 := ⟨_, rfl⟩
      refine lv_iinc (v := x4) (lv' := [(4, .int x4), (3, .int l5_3), (0, .ref a0), (1, .int a1), (2, .int a2)]) hx hb dX6_openOn_32 hl (k := 0) rfl (by rw [e_x4]; rfl) (by decide) rfl (fun ls hl => ?_)
      try have e_x4 := ti_add e_x4 rfl (show (1 : Int32).toInt = 1 by decide) (by omega)
      refine lv_goto (tgt := 5) hx hb dX6_openOn_35 (by decide) ?_
      exact ih5 ((2147483647 - x4.toInt).toNat) _ _ _ (by omega) ⟨x4, l5_3, rfl, (by omega), lv_sub hl [0, 1, 2, 3, 4] rfl, rfl, rfl⟩
    · have c22_3 : r2.toInt = 0 := (cv_eq rfl (by decide)).mp c22_3
      refine lv_iload_n hx hb dX6_openOn_25 rfl (lv_at hl 1 rfl) ?_
      refine lv_iconst (v := 1) hx hb dX6_openOn_26 (by decide) ?_
      refine lv_iload hx hb dX6_openOn_27 (lv_at hl 0 rfl) ?_
      refine lv_ishl hx hb dX6_openOn_29 ?_
      refine lv_topi (fun x5 e_x5 => ?_)
      refine lv_ior hx hb dX6_openOn_30 ?_
      refine lv_topi (fun x6 e_x6 => ?_)
      refine lv_istore_n (lv' := [(3, .int x6), (4, .int l5_4), (0, .ref a0), (1, .int a1), (2, .int a2)]) hx hb dX6_openOn_31 rfl hl (by decide) rfl (fun ls hl => ?_)
      obtain ⟨x7, e_x7⟩ : ∃ y : Int32, y = l5_4 + 1 := ⟨_, rfl⟩
      refine lv_iinc (v := x7) (lv' := [(4, .int x7), (3, .int x6), (0, .ref a0), (1, .int a1), (2, .int a2)]) hx hb dX6_openOn_32 hl (k := 1) rfl (by rw [e_x7]; rfl) (by decide) rfl (fun ls hl => ?_)
      try have e_x7 := ti_add e_x7 rfl (show (1 : Int32).toInt = 1 by decide) (by omega)
      refine lv_goto (tgt := 5) hx hb dX6_openOn_35 (by decide) ?_
      exact ih5 ((2147483647 - x7.toInt).toNat) _ _ _ (by omega) ⟨x7, x6, rfl, (by omega), lv_sub hl [0, 1, 2, 3, 4] rfl, rfl, rfl⟩
set_option maxHeartbeats 4000000 in
set_option maxRecDepth 100000 in
theorem k_X6_comesAhead (l : Launch) (dC : Nat → ClassId) (dI : Nat → Nat → Nat) (g : Gv) (a0 : Nat) (a1 : Int32) (a2 : Int32) (a0_0 : Nat) (a0_1 : Nat) (a0_2 : Nat) (a0_3 : Nat) (a0_4 : Nat) (a0_5 : Nat) (a0_6 : Int32) (a0_7 : Int32) (a0_1_c : ClassId) (a0_1_f : Nat → Int32) (a0_5_c : ClassId) (a0_5_f : Nat → Int32) (h_a0_6 : 0 ≤ a0_6.toInt ∧ a0_6.toInt ≤ 24) (h_a0_7 : 0 ≤ a0_7.toInt ∧ a0_7.toInt ≤ 12) (ha1r : 0 ≤ a1.toInt ∧ a1.toInt < 24) (ha2r : 0 ≤ a2.toInt ∧ a2.toInt < 24) : Met l yX6_comesAhead (.code yX6_comesAhead cX6_comesAhead 3 (some .boolean) :: TBL) ({ frames := 0, cells := 0, slots := 0, locals := 0 }) (va_Pc [.ref a0, .int a1, .int a2] (fun U => va_P (dC, dI) vwCl [(a0, .inr (5, [.ref a0_0, .ref a0_1, .ref a0_2, .ref a0_3, .ref a0_4, .ref a0_5, .int a0_6, .int a0_7])), (a0_1, .inl (a0_1_c, 24, .inl a0_1_f)), (a0_5, .inl (a0_5_c, 24, .inl a0_5_f))] U.heap ∧ va_K (dC, dI) vwCl [(a0_1_c, .int), (a0_5_c, .int)] U ∧ Ev g (fun _ => False) U)) (vp_Si (fun (r : Int32) => (r = 0 ∨ r = 1))) 0 0 (fun _ => False) := by
  refine Met.ofW (cc := cX6_comesAhead) (maxL := 3) (ret := (some .boolean)) (by decide) rfl ?_
  intro p e s m args below meth c s₁ B hml hv
  obtain ⟨rfl, hP, hK, hE⟩ := hv
  have hx := B.exec
  have hb := B.bytes
  have hr := B.returns
  have hts0 := atoms_spec (ws := (.code yX6_comesAhead cX6_comesAhead 3 (some .boolean) :: TBL)) B.pre
  have hts := fun (w : Cond) (h : w ∈ TBL) => hts0 w (List.mem_cons_of_mem _ h)
  have hown : s.vm.findClass RX6 = some m.cls := findClass_of_methodNamed B.named
  have hlocks := B.notSynchronized
  have hN := hE.1
  have hS : va_S (fun _ => False) s.heap s.heap [] := va_S.rf
  replace hP : va_P (dC, dI) vwCl [(a0, .inr (5, [.ref a0_0, .ref a0_1, .ref a0_2, .ref a0_3, .ref a0_4, .ref a0_5, .int a0_6, .int a0_7])), (a0_1, .inl (a0_1_c, 24, .inl a0_1_f)), (a0_5, .inl (a0_5_c, 24, .inl a0_5_f))] s.heap := hP
  have hl := lv_entry ([.ref a0, .int a1, .int a2]) (n := 3) (Nat.le_of_ble_eq_true rfl)
  rw [lg_entry_eq]
  generalize (lg_sl ([.ref a0, .int a1, .int a2]) ++ List.replicate (3 - (lg_sl ([.ref a0, .int a1, .int a2])).length) Slot.unset).toArray = ls at hl ⊢
  have hl : lv_has ls 3 [(0, .ref a0), (1, .int a1), (2, .int a2)] := hl
  have b_a1 := i32b a1
  have b_a2 := i32b a2
  refine lv_aload_n hx hb dX6_comesAhead_0 rfl (lv_at hl 0 rfl) ?_
  refine va_get (D := (dC, dI)) (ci := 5) (v := .ref a0_5) (C := RX6) (T := TX6) (N := 8) hx hb hts inlX6 hown hK hP 0 rgL3_619f1f5 rfl 5 (by decide) (hts (.fieldLink RX6 29 "ClosedUntil$Timetable" "openings" "[I") qw_153) (fun _ h9 => h9) rfl dX6_comesAhead_1 ?_
  refine lv_iload_n hx hb dX6_comesAhead_4 rfl (lv_at hl 1 rfl) ?_
  refine va_iald hx hb hK hP 2 1 rgL3_2e0c0f7 rgT2_d592b55 (vinI (by omega) (by omega)) dX6_comesAhead_5 ?_
  refine lv_topi (fun x1 e_x1 => ?_)
  have b_x1 := i32b x1
  refine lv_aload_n hx hb dX6_comesAhead_6 rfl (lv_at hl 0 rfl) ?_
  refine va_get (D := (dC, dI)) (ci := 5) (v := .ref a0_5) (C := RX6) (T := TX6) (N := 8) hx hb hts inlX6 hown hK hP 0 rgL3_619f1f5 rfl 5 (by decide) (hts (.fieldLink RX6 29 "ClosedUntil$Timetable" "openings" "[I") qw_153) (fun _ h9 => h9) rfl dX6_comesAhead_7 ?_
  refine lv_iload_n hx hb dX6_comesAhead_10 rfl (lv_at hl 2 rfl) ?_
  refine va_iald hx hb hK hP 2 1 rgL3_2e0c0f7 rgT2_d592b55 (vinI (by omega) (by omega)) dX6_comesAhead_11 ?_
  refine lv_topi (fun x2 e_x2 => ?_)
  have b_x2 := i32b x2
  refine lv_icmp_eq (tgt := 36) hx hb dX6_comesAhead_12 (by decide) (fun c12_3 => ?_) (fun c12_3 => ?_)
  · have c12_3 : x1.toInt = x2.toInt := (cv_eq rfl rfl).mp c12_3
    refine lv_aload_n hx hb dX6_comesAhead_36 rfl (lv_at hl 0 rfl) ?_
    refine va_get (D := (dC, dI)) (ci := 5) (v := .ref a0_1) (C := RX6) (T := TX6) (N := 8) hx hb hts inlX6 hown hK hP 0 rgL3_619f1f5 rfl 1 (by decide) (hts (.fieldLink RX6 15 "ClosedUntil$Timetable" "depth" "[I") qw_125) (fun _ h9 => h9) rfl dX6_comesAhead_37 ?_
    refine lv_iload_n hx hb dX6_comesAhead_40 rfl (lv_at hl 1 rfl) ?_
    refine va_iald hx hb hK hP 1 0 rgL3_6f2f016 rgT2_453da77 (vinI (by omega) (by omega)) dX6_comesAhead_41 ?_
    refine lv_topi (fun x4 e_x4 => ?_)
    have b_x4 := i32b x4
    refine lv_aload_n hx hb dX6_comesAhead_42 rfl (lv_at hl 0 rfl) ?_
    refine va_get (D := (dC, dI)) (ci := 5) (v := .ref a0_1) (C := RX6) (T := TX6) (N := 8) hx hb hts inlX6 hown hK hP 0 rgL3_619f1f5 rfl 1 (by decide) (hts (.fieldLink RX6 15 "ClosedUntil$Timetable" "depth" "[I") qw_125) (fun _ h9 => h9) rfl dX6_comesAhead_43 ?_
    refine lv_iload_n hx hb dX6_comesAhead_46 rfl (lv_at hl 2 rfl) ?_
    refine va_iald hx hb hK hP 1 0 rgL3_6f2f016 rgT2_453da77 (vinI (by omega) (by omega)) dX6_comesAhead_47 ?_
    refine lv_topi (fun x5 e_x5 => ?_)
    have b_x5 := i32b x5
    refine lv_icmp_eq (tgt := 72) hx hb dX6_comesAhead_48 (by decide) (fun c48_6 => ?_) (fun c48_6 => ?_)
    · have c48_6 : x4.toInt = x5.toInt := (cv_eq rfl rfl).mp c48_6
      refine lv_iload_n hx hb dX6_comesAhead_72 rfl (lv_at hl 1 rfl) ?_
      refine lv_iload_n hx hb dX6_comesAhead_73 rfl (lv_at hl 2 rfl) ?_
      refine lv_icmp_ge (tgt := 81) hx hb dX6_comesAhead_74 (by decide) (fun c74_7 => ?_) (fun c74_7 => ?_)
      · have c74_7 : a2.toInt ≤ a1.toInt := (cv_le rfl rfl).mp c74_7
        refine lv_iconst (v := 0) hx hb dX6_comesAhead_81 (by decide) ?_
        exact W.zret (v := 0) hx hb hr rfl (fun t ht hW => ⟨0, rfl, (by decide), ht⟩) (fun _ h => absurd h List.not_mem_nil) dX6_comesAhead_82
      · have c74_7 : ¬ (a2.toInt ≤ a1.toInt) := mt (cv_le rfl rfl).mpr c74_7
        refine lv_iconst (v := 1) hx hb dX6_comesAhead_77 (by decide) ?_
        refine lv_goto (tgt := 82) hx hb dX6_comesAhead_78 (by decide) ?_
        exact W.zret (v := 1) hx hb hr rfl (fun t ht hW => ⟨1, rfl, (by decide), ht⟩) (fun _ h => absurd h List.not_mem_nil) dX6_comesAhead_82
    · have c48_6 : ¬ (x4.toInt = x5.toInt) := mt (cv_eq rfl rfl).mpr c48_6
      refine lv_aload_n hx hb dX6_comesAhead_51 rfl (lv_at hl 0 rfl) ?_
      refine va_get (D := (dC, dI)) (ci := 5) (v := .ref a0_1) (C := RX6) (T := TX6) (N := 8) hx hb hts inlX6 hown hK hP 0 rgL3_619f1f5 rfl 1 (by decide) (hts (.fieldLink RX6 15 "ClosedUntil$Timetable" "depth" "[I") qw_125) (fun _ h9 => h9) rfl dX6_comesAhead_52 ?_
      refine lv_iload_n hx hb dX6_comesAhead_55 rfl (lv_at hl 1 rfl) ?_
      refine va_iald hx hb hK hP 1 0 rgL3_6f2f016 rgT2_453da77 (vinI (by omega) (by omega)) dX6_comesAhead_56 ?_
      refine lv_topi (fun x8 e_x8 => ?_)
      have b_x8 := i32b x8
      refine lv_aload_n hx hb dX6_comesAhead_57 rfl (lv_at hl 0 rfl) ?_
      refine va_get (D := (dC, dI)) (ci := 5) (v := .ref a0_1) (C := RX6) (T := TX6) (N := 8) hx hb hts inlX6 hown hK hP 0 rgL3_619f1f5 rfl 1 (by decide) (hts (.fieldLink RX6 15 "ClosedUntil$Timetable" "depth" "[I") qw_125) (fun _ h9 => h9) rfl dX6_comesAhead_58 ?_
      refine lv_iload_n hx hb dX6_comesAhead_61 rfl (lv_at hl 2 rfl) ?_
      refine va_iald hx hb hK hP 1 0 rgL3_6f2f016 rgT2_453da77 (vinI (by omega) (by omega)) dX6_comesAhead_62 ?_
      refine lv_topi (fun x9 e_x9 => ?_)
      have b_x9 := i32b x9
      refine lv_icmp_le (tgt := 70) hx hb dX6_comesAhead_63 (by decide) (fun c63_10 => ?_) (fun c63_10 => ?_)
      · have c63_10 : x8.toInt ≤ x9.toInt := (cv_le rfl rfl).mp c63_10
        refine lv_iconst (v := 0) hx hb dX6_comesAhead_70 (by decide) ?_
        exact W.zret (v := 0) hx hb hr rfl (fun t ht hW => ⟨0, rfl, (by decide), ht⟩) (fun _ h => absurd h List.not_mem_nil) dX6_comesAhead_71
      · have c63_10 : ¬ (x8.toInt ≤ x9.toInt) := mt (cv_le rfl rfl).mpr c63_10
        refine lv_iconst (v := 1) hx hb dX6_comesAhead_66 (by decide) ?_
        refine lv_goto (tgt := 71) hx hb dX6_comesAhead_67 (by decide) ?_
        exact W.zret (v := 1) hx hb hr rfl (fun t ht hW => ⟨1, rfl, (by decide), ht⟩) (fun _ h => absurd h List.not_mem_nil) dX6_comesAhead_71
  · have c12_3 : ¬ (x1.toInt = x2.toInt) := mt (cv_eq rfl rfl).mpr c12_3
    refine lv_aload_n hx hb dX6_comesAhead_15 rfl (lv_at hl 0 rfl) ?_
    refine va_get (D := (dC, dI)) (ci := 5) (v := .ref a0_5) (C := RX6) (T := TX6) (N := 8) hx hb hts inlX6 hown hK hP 0 rgL3_619f1f5 rfl 5 (by decide) (hts (.fieldLink RX6 29 "ClosedUntil$Timetable" "openings" "[I") qw_153) (fun _ h9 => h9) rfl dX6_comesAhead_16 ?_
    refine lv_iload_n hx hb dX6_comesAhead_19 rfl (lv_at hl 1 rfl) ?_
    refine va_iald hx hb hK hP 2 1 rgL3_2e0c0f7 rgT2_d592b55 (vinI (by omega) (by omega)) dX6_comesAhead_20 ?_
    refine lv_topi (fun x11 e_x11 => ?_)
    have b_x11 := i32b x11
    refine lv_aload_n hx hb dX6_comesAhead_21 rfl (lv_at hl 0 rfl) ?_
    refine va_get (D := (dC, dI)) (ci := 5) (v := .ref a0_5) (C := RX6) (T := TX6) (N := 8) hx hb hts inlX6 hown hK hP 0 rgL3_619f1f5 rfl 5 (by decide) (hts (.fieldLink RX6 29 "ClosedUntil$Timetable" "openings" "[I") qw_153) (fun _ h9 => h9) rfl dX6_comesAhead_22 ?_
    refine lv_iload_n hx hb dX6_comesAhead_25 rfl (lv_at hl 2 rfl) ?_
    refine va_iald hx hb hK hP 2 1 rgL3_2e0c0f7 rgT2_d592b55 (vinI (by omega) (by omega)) dX6_comesAhead_26 ?_
    refine lv_topi (fun x12 e_x12 => ?_)
    have b_x12 := i32b x12
    refine lv_icmp_ge (tgt := 34) hx hb dX6_comesAhead_27 (by decide) (fun c27_13 => ?_) (fun c27_13 => ?_)
    · have c27_13 : x12.toInt ≤ x11.toInt := (cv_le rfl rfl).mp c27_13
      refine lv_iconst (v := 0) hx hb dX6_comesAhead_34 (by decide) ?_
      exact W.zret (v := 0) hx hb hr rfl (fun t ht hW => ⟨0, rfl, (by decide), ht⟩) (fun _ h => absurd h List.not_mem_nil) dX6_comesAhead_35
    · have c27_13 : ¬ (x12.toInt ≤ x11.toInt) := mt (cv_le rfl rfl).mpr c27_13
      refine lv_iconst (v := 1) hx hb dX6_comesAhead_30 (by decide) ?_
      refine lv_goto (tgt := 35) hx hb dX6_comesAhead_31 (by decide) ?_
      exact W.zret (v := 1) hx hb hr rfl (fun t ht hW => ⟨1, rfl, (by decide), ht⟩) (fun _ h => absurd h List.not_mem_nil) dX6_comesAhead_35
set_option maxHeartbeats 4000000 in
set_option maxRecDepth 100000 in
theorem k_X6_openWhenGone (l : Launch) (dC : Nat → ClassId) (dI : Nat → Nat → Nat) (g : Gv) (a0 : Nat) (a1 : Int32) (a0_0 : Nat) (a0_1 : Nat) (a0_2 : Nat) (a0_3 : Nat) (a0_4 : Nat) (a0_5 : Nat) (a0_6 : Int32) (a0_7 : Int32) (a0_4_c : ClassId) (a0_4_f : Nat → Int32) (h_a0_6 : 0 ≤ a0_6.toInt ∧ a0_6.toInt ≤ 24) (h_a0_7 : 0 ≤ a0_7.toInt ∧ a0_7.toInt ≤ 12) : Met l yX6_openWhenGone (.code yX6_openWhenGone cX6_openWhenGone 4 (some .int) :: TBL) ({ frames := 0, cells := 0, slots := 0, locals := 0 }) (va_Pc [.ref a0, .int a1] (fun U => va_P (dC, dI) vwCl [(a0, .inr (5, [.ref a0_0, .ref a0_1, .ref a0_2, .ref a0_3, .ref a0_4, .ref a0_5, .int a0_6, .int a0_7])), (a0_4, .inl (a0_4_c, 24, .inl a0_4_f))] U.heap ∧ va_K (dC, dI) vwCl [(a0_4_c, .int)] U ∧ Ev g (fun _ => False) U)) (vp_Si (fun (r : Int32) => True)) 0 0 (fun _ => False) := by
  refine Met.ofW (cc := cX6_openWhenGone) (maxL := 4) (ret := (some .int)) (by decide) rfl ?_
  intro p e s m args below meth c s₁ B hml hv
  obtain ⟨rfl, hP, hK, hE⟩ := hv
  have hx := B.exec
  have hb := B.bytes
  have hr := B.returns
  have hts0 := atoms_spec (ws := (.code yX6_openWhenGone cX6_openWhenGone 4 (some .int) :: TBL)) B.pre
  have hts := fun (w : Cond) (h : w ∈ TBL) => hts0 w (List.mem_cons_of_mem _ h)
  have hown : s.vm.findClass RX6 = some m.cls := findClass_of_methodNamed B.named
  have hlocks := B.notSynchronized
  have hN := hE.1
  have hS : va_S (fun _ => False) s.heap s.heap [] := va_S.rf
  replace hP : va_P (dC, dI) vwCl [(a0, .inr (5, [.ref a0_0, .ref a0_1, .ref a0_2, .ref a0_3, .ref a0_4, .ref a0_5, .int a0_6, .int a0_7])), (a0_4, .inl (a0_4_c, 24, .inl a0_4_f))] s.heap := hP
  have hl := lv_entry ([.ref a0, .int a1]) (n := 4) (Nat.le_of_ble_eq_true rfl)
  rw [lg_entry_eq]
  generalize (lg_sl ([.ref a0, .int a1]) ++ List.replicate (4 - (lg_sl ([.ref a0, .int a1])).length) Slot.unset).toArray = ls at hl ⊢
  have hl : lv_has ls 4 [(0, .ref a0), (1, .int a1)] := hl
  have b_a1 := i32b a1
  refine lv_iconst (v := 0) hx hb dX6_openWhenGone_0 (by decide) ?_
  refine lv_istore_n (lv' := [(2, .int 0), (0, .ref a0), (1, .int a1)]) hx hb dX6_openWhenGone_1 rfl hl (by decide) rfl (fun ls hl => ?_)
  refine lv_iconst (v := 0) hx hb dX6_openWhenGone_2 (by decide) ?_
  refine lv_istore_n (lv' := [(3, .int 0), (2, .int 0), (0, .ref a0), (1, .int a1)]) hx hb dX6_openWhenGone_3 rfl hl (by decide) rfl (fun ls hl => ?_)
  have qc0 : (0 : Int32).toInt = 0 := by decide
  refine wloop (fun n H locs ls => ∃ (l4_3 : Int32) (l4_2 : Int32), n = (2147483647 - l4_3.toInt).toNat ∧ (0 ≤ l4_3.toInt) ∧ lv_has ls 4 [(3, .int l4_3), (2, .int l4_2), (0, .ref a0), (1, .int a1)] ∧ H = s.heap ∧ locs = []) ?_ ((2147483647 - (0 : Int32).toInt).toNat) _ _ _ ⟨0, 0, rfl, (by omega), lv_sub hl [0, 1, 2, 3] rfl, rfl, rfl⟩
  intro n4 H locs ls hI ih4
  obtain ⟨l4_3, l4_2, hn4, g_l4_3, hl, rfl, rfl⟩ := hI
  have b_l4_3 := i32b l4_3
  have b_l4_2 := i32b l4_2
  refine lv_iload_n hx hb dX6_openWhenGone_4 rfl (lv_at hl 0 rfl) ?_
  refine lv_aload_n hx hb dX6_openWhenGone_5 rfl (lv_at hl 2 rfl) ?_
  refine va_get (D := (dC, dI)) (ci := 5) (v := .int a0_6) (C := RX6) (T := TX6) (N := 8) hx hb hts inlX6 hown hK hP 0 rgL2_5ac5f51 rfl 6 (by decide) (hts (.fieldLink RX6 38 "ClosedUntil$Timetable" "pieces" "I") qw_124) (fun _ h9 => h9) rfl dX6_openWhenGone_6 ?_
  refine lv_icmp_ge (tgt := 34) hx hb dX6_openWhenGone_9 (by decide) (fun c9_1 => ?_) (fun c9_1 => ?_)
  · have c9_1 : a0_6.toInt ≤ l4_3.toInt := (cv_le rfl rfl).mp c9_1
    refine lv_iload_n hx hb dX6_openWhenGone_34 rfl (lv_at hl 1 rfl) ?_
    exact W.iret (v := l4_2) hx hb hr (fun t ht hW => ⟨l4_2, rfl, trivial, ht⟩) (fun _ h => absurd h List.not_mem_nil) dX6_openWhenGone_35
  · have c9_1 : ¬ (a0_6.toInt ≤ l4_3.toInt) := mt (cv_le rfl rfl).mpr c9_1
    refine lv_aload_n hx hb dX6_openWhenGone_12 rfl (lv_at hl 2 rfl) ?_
    refine va_get (D := (dC, dI)) (ci := 5) (v := .ref a0_4) (C := RX6) (T := TX6) (N := 8) hx hb hts inlX6 hown hK hP 0 rgL2_5ac5f51 rfl 4 (by decide) (hts (.fieldLink RX6 26 "ClosedUntil$Timetable" "closers" "[I") qw_154) (fun _ h9 => h9) rfl dX6_openWhenGone_13 ?_
    refine lv_iload_n hx hb dX6_openWhenGone_16 rfl (lv_at hl 0 rfl) ?_
    refine va_iald hx hb hK hP 1 0 rgL2_906ef0f rgT1_bb00d73 (vinI (by omega) (by omega)) dX6_openWhenGone_17 ?_
    refine lv_topi (fun x2 e_x2 => ?_)
    have b_x2 := i32b x2
    refine lv_iload_n hx hb dX6_openWhenGone_18 rfl (lv_at hl 3 rfl) ?_
    refine lv_iconst (v := (-1)) hx hb dX6_openWhenGone_19 (by decide) ?_
    refine lv_ixor hx hb dX6_openWhenGone_20 ?_
    refine lv_topi (fun x3 e_x3 => ?_)
    refine lv_iand hx hb dX6_openWhenGone_21 ?_
    refine lv_topi (fun x4 e_x4 => ?_)
    refine lv_if_ne (tgt := 28) hx hb dX6_openWhenGone_22 (by decide) (fun c22_5 => ?_) (fun c22_5 => ?_)
    · have c22_5 : ¬ (x4.toInt = 0) := mt (cv_eq rfl (by decide)).mpr c22_5
      obtain ⟨x6, e_x6⟩ : ∃ y : Int32, y = l4_3 + 1 := ⟨_, rfl⟩
      refine lv_iinc (v := x6) (lv' := [(3, .int x6), (2, .int l4_2), (0, .ref a0), (1, .int a1)]) hx hb dX6_openWhenGone_28 hl (k := 0) rfl (by rw [e_x6]; rfl) (by decide) rfl (fun ls hl => ?_)
      try have e_x6 := ti_add e_x6 rfl (show (1 : Int32).toInt = 1 by decide) (by omega)
      refine lv_goto (tgt := 4) hx hb dX6_openWhenGone_31 (by decide) ?_
      exact ih4 ((2147483647 - x6.toInt).toNat) _ _ _ (by omega) ⟨x6, l4_2, rfl, (by omega), lv_sub hl [0, 1, 2, 3] rfl, rfl, rfl⟩
    · have c22_5 : x4.toInt = 0 := (cv_eq rfl (by decide)).mp c22_5
      obtain ⟨x7, e_x7⟩ : ∃ y : Int32, y = l4_2 + 1 := ⟨_, rfl⟩
      refine lv_iinc (v := x7) (lv' := [(2, .int x7), (3, .int l4_3), (0, .ref a0), (1, .int a1)]) hx hb dX6_openWhenGone_25 hl (k := 1) rfl (by rw [e_x7]; rfl) (by decide) rfl (fun ls hl => ?_)
      try have e_x7 := ti_add e_x7 rfl (show (1 : Int32).toInt = 1 by decide) (by omega)
      obtain ⟨x8, e_x8⟩ : ∃ y : Int32, y = l4_3 + 1 := ⟨_, rfl⟩
      refine lv_iinc (v := x8) (lv' := [(3, .int x8), (2, .int x7), (0, .ref a0), (1, .int a1)]) hx hb dX6_openWhenGone_28 hl (k := 1) rfl (by rw [e_x8]; rfl) (by decide) rfl (fun ls hl => ?_)
      try have e_x8 := ti_add e_x8 rfl (show (1 : Int32).toInt = 1 by decide) (by omega)
      refine lv_goto (tgt := 4) hx hb dX6_openWhenGone_31 (by decide) ?_
      exact ih4 ((2147483647 - x8.toInt).toNat) _ _ _ (by omega) ⟨x8, x7, rfl, (by omega), lv_sub hl [0, 1, 2, 3] rfl, rfl, rfl⟩
set_option maxHeartbeats 4000000 in
set_option maxRecDepth 100000 in
theorem k_J6_numberOfTrailingZeros_0f7a4 (l : Launch) (dC : Nat → ClassId) (dI : Nat → Nat → Nat) (g : Gv) (a0 : Int32)  : Met l yJ6_numberOfTrailingZeros_0f7a4 (.code yJ6_numberOfTrailingZeros_0f7a4 cJ6_numberOfTrailingZeros_0f7a4 2 (some .int) :: TBL) ({ frames := 0, cells := 0, slots := 0, locals := 0 }) (va_Pc [.int a0] (fun U => va_P (dC, dI) vwCl [] U.heap ∧ va_K (dC, dI) vwCl [] U ∧ Ev g (fun _ => False) U)) (vp_Si (fun (r : Int32) => True)) 0 0 (fun _ => False) := by
  refine Met.ofW (cc := cJ6_numberOfTrailingZeros_0f7a4) (maxL := 2) (ret := (some .int)) (by decide) rfl ?_
  intro p e s m args below meth c s₁ B hml hv
  obtain ⟨rfl, hP, hK, hE⟩ := hv
  have hx := B.exec
  have hb := B.bytes
  have hr := B.returns
  have hts0 := atoms_spec (ws := (.code yJ6_numberOfTrailingZeros_0f7a4 cJ6_numberOfTrailingZeros_0f7a4 2 (some .int) :: TBL)) B.pre
  have hts := fun (w : Cond) (h : w ∈ TBL) => hts0 w (List.mem_cons_of_mem _ h)
  have hown : s.vm.findClass RJ6 = some m.cls := findClass_of_methodNamed B.named
  have hlocks := B.notSynchronized
  have hN := hE.1
  have hS : va_S (fun _ => False) s.heap s.heap [] := va_S.rf
  replace hP : va_P (dC, dI) vwCl [] s.heap := hP
  have hl := lv_entry ([.int a0]) (n := 2) (Nat.le_of_ble_eq_true rfl)
  rw [lg_entry_eq]
  generalize (lg_sl ([.int a0]) ++ List.replicate (2 - (lg_sl ([.int a0])).length) Slot.unset).toArray = ls at hl ⊢
  have hl : lv_has ls 2 [(0, .int a0)] := hl
  have b_a0 := i32b a0
  refine lv_iload_n hx hb dJ6_numberOfTrailingZeros_0f7a4_0 rfl (lv_at hl 0 rfl) ?_
  refine lv_iconst (v := (-1)) hx hb dJ6_numberOfTrailingZeros_0f7a4_1 (by decide) ?_
  refine lv_ixor hx hb dJ6_numberOfTrailingZeros_0f7a4_2 ?_
  refine lv_topi (fun x1 e_x1 => ?_)
  refine lv_iload_n hx hb dJ6_numberOfTrailingZeros_0f7a4_3 rfl (lv_at hl 0 rfl) ?_
  refine lv_iconst (v := 1) hx hb dJ6_numberOfTrailingZeros_0f7a4_4 (by decide) ?_
  refine lv_isub hx hb dJ6_numberOfTrailingZeros_0f7a4_5 ?_
  refine lv_topi (fun x2 e_x2 => ?_)
  try have e_x2 := ti_sub e_x2 rfl (show (1 : Int32).toInt = 1 by decide) (by omega)
  refine lv_iand hx hb dJ6_numberOfTrailingZeros_0f7a4_6 ?_
  refine lv_topi (fun x3 e_x3 => ?_)
  refine lv_istore_n (lv' := [(0, .int x3)]) hx hb dJ6_numberOfTrailingZeros_0f7a4_7 rfl hl (by decide) rfl (fun ls hl => ?_)
  refine lv_iload_n hx hb dJ6_numberOfTrailingZeros_0f7a4_8 rfl (lv_at hl 0 rfl) ?_
  refine lv_if_gt (tgt := 17) hx hb dJ6_numberOfTrailingZeros_0f7a4_9 (by decide) (fun c9_4 => ?_) (fun c9_4 => ?_)
  · have c9_4 : 0 < x3.toInt := (cv_lt (by decide) rfl).mp c9_4
    refine lv_iconst (v := 1) hx hb dJ6_numberOfTrailingZeros_0f7a4_17 (by decide) ?_
    refine lv_istore_n (lv' := [(1, .int 1), (0, .int x3)]) hx hb dJ6_numberOfTrailingZeros_0f7a4_18 rfl hl (by decide) rfl (fun ls hl => ?_)
    refine lv_iload_n hx hb dJ6_numberOfTrailingZeros_0f7a4_19 rfl (lv_at hl 1 rfl) ?_
    refine lv_ldcw (v := 65536) hx hb hown (hts (.constant RJ6 264 (65536)) qw_155) dJ6_numberOfTrailingZeros_0f7a4_20 ?_
    refine lv_icmp_le (tgt := 34) hx hb dJ6_numberOfTrailingZeros_0f7a4_23 (by decide) (fun c23_5 => ?_) (fun c23_5 => ?_)
    · have c23_5 : x3.toInt ≤ 65536 := (cv_le rfl (by decide)).mp c23_5
      refine lv_iload_n hx hb dJ6_numberOfTrailingZeros_0f7a4_34 rfl (lv_at hl 1 rfl) ?_
      refine lv_sipush (v := 256) hx hb dJ6_numberOfTrailingZeros_0f7a4_35 (by decide) ?_
      refine lv_icmp_le (tgt := 49) hx hb dJ6_numberOfTrailingZeros_0f7a4_38 (by decide) (fun c38_6 => ?_) (fun c38_6 => ?_)
      · have c38_6 : x3.toInt ≤ 256 := (cv_le rfl (by decide)).mp c38_6
        refine lv_iload_n hx hb dJ6_numberOfTrailingZeros_0f7a4_49 rfl (lv_at hl 1 rfl) ?_
        refine lv_bipush (v := 16) hx hb dJ6_numberOfTrailingZeros_0f7a4_50 (by decide) ?_
        refine lv_icmp_le (tgt := 62) hx hb dJ6_numberOfTrailingZeros_0f7a4_52 (by decide) (fun c52_7 => ?_) (fun c52_7 => ?_)
        · have c52_7 : x3.toInt ≤ 16 := (cv_le rfl (by decide)).mp c52_7
          refine lv_iload_n hx hb dJ6_numberOfTrailingZeros_0f7a4_62 rfl (lv_at hl 1 rfl) ?_
          refine lv_iconst (v := 4) hx hb dJ6_numberOfTrailingZeros_0f7a4_63 (by decide) ?_
          refine lv_icmp_le (tgt := 74) hx hb dJ6_numberOfTrailingZeros_0f7a4_64 (by decide) (fun c64_8 => ?_) (fun c64_8 => ?_)
          · have c64_8 : x3.toInt ≤ 4 := (cv_le rfl (by decide)).mp c64_8
            refine lv_iload_n hx hb dJ6_numberOfTrailingZeros_0f7a4_74 rfl (lv_at hl 0 rfl) ?_
            refine lv_iload_n hx hb dJ6_numberOfTrailingZeros_0f7a4_75 rfl (lv_at hl 1 rfl) ?_
            refine lv_iconst (v := 1) hx hb dJ6_numberOfTrailingZeros_0f7a4_76 (by decide) ?_
            refine lv_iushr hx hb dJ6_numberOfTrailingZeros_0f7a4_77 rfl ?_
            refine lv_topi (fun x9 e_x9 => ?_)
            refine lv_iadd hx hb dJ6_numberOfTrailingZeros_0f7a4_78 ?_
            refine lv_topi (fun x10 e_x10 => ?_)
            try have e_x10 := ti_add e_x10 (show (1 : Int32).toInt = 1 by decide) rfl (by omega)
            exact W.iret (v := x10) hx hb hr (fun t ht hW => ⟨x10, rfl, trivial, ht⟩) (fun _ h => absurd h List.not_mem_nil) dJ6_numberOfTrailingZeros_0f7a4_79
          · have c64_8 : ¬ (x3.toInt ≤ 4) := mt (cv_le rfl (by decide)).mpr c64_8
            refine lv_iinc (v := 3) (lv' := [(1, .int 3), (0, .int x3)]) hx hb dJ6_numberOfTrailingZeros_0f7a4_67 hl (k := 0) rfl (by decide) (by decide) rfl (fun ls hl => ?_)
            refine lv_iload_n hx hb dJ6_numberOfTrailingZeros_0f7a4_70 rfl (lv_at hl 1 rfl) ?_
            refine lv_iconst (v := 2) hx hb dJ6_numberOfTrailingZeros_0f7a4_71 (by decide) ?_
            refine lv_iushr hx hb dJ6_numberOfTrailingZeros_0f7a4_72 rfl ?_
            refine lv_topi (fun x11 e_x11 => ?_)
            refine lv_istore_n (lv' := [(0, .int x11), (1, .int 3)]) hx hb dJ6_numberOfTrailingZeros_0f7a4_73 rfl hl (by decide) rfl (fun ls hl => ?_)
            refine lv_iload_n hx hb dJ6_numberOfTrailingZeros_0f7a4_74 rfl (lv_at hl 1 rfl) ?_
            refine lv_iload_n hx hb dJ6_numberOfTrailingZeros_0f7a4_75 rfl (lv_at hl 0 rfl) ?_
            refine lv_iconst (v := 1) hx hb dJ6_numberOfTrailingZeros_0f7a4_76 (by decide) ?_
            refine lv_iushr hx hb dJ6_numberOfTrailingZeros_0f7a4_77 rfl ?_
            refine lv_topi (fun x12 e_x12 => ?_)
            refine lv_iadd hx hb dJ6_numberOfTrailingZeros_0f7a4_78 ?_
            refine lv_topi (fun x13 e_x13 => ?_)
            try have e_x13 := ti_add e_x13 (show (3 : Int32).toInt = 3 by decide) rfl (by omega)
            exact W.iret (v := x13) hx hb hr (fun t ht hW => ⟨x13, rfl, trivial, ht⟩) (fun _ h => absurd h List.not_mem_nil) dJ6_numberOfTrailingZeros_0f7a4_79
        · have c52_7 : ¬ (x3.toInt ≤ 16) := mt (cv_le rfl (by decide)).mpr c52_7
          refine lv_iinc (v := 5) (lv' := [(1, .int 5), (0, .int x3)]) hx hb dJ6_numberOfTrailingZeros_0f7a4_55 hl (k := 0) rfl (by decide) (by decide) rfl (fun ls hl => ?_)
          refine lv_iload_n hx hb dJ6_numberOfTrailingZeros_0f7a4_58 rfl (lv_at hl 1 rfl) ?_
          refine lv_iconst (v := 4) hx hb dJ6_numberOfTrailingZeros_0f7a4_59 (by decide) ?_
          refine lv_iushr hx hb dJ6_numberOfTrailingZeros_0f7a4_60 rfl ?_
          refine lv_topi (fun x14 e_x14 => ?_)
          refine lv_istore_n (lv' := [(0, .int x14), (1, .int 5)]) hx hb dJ6_numberOfTrailingZeros_0f7a4_61 rfl hl (by decide) rfl (fun ls hl => ?_)
          refine lv_iload_n hx hb dJ6_numberOfTrailingZeros_0f7a4_62 rfl (lv_at hl 0 rfl) ?_
          refine lv_iconst (v := 4) hx hb dJ6_numberOfTrailingZeros_0f7a4_63 (by decide) ?_
          refine lv_icmp_le (tgt := 74) hx hb dJ6_numberOfTrailingZeros_0f7a4_64 (by decide) (fun c64_15 => ?_) (fun c64_15 => ?_)
          · have c64_15 : x14.toInt ≤ 4 := (cv_le rfl (by decide)).mp c64_15
            refine lv_iload_n hx hb dJ6_numberOfTrailingZeros_0f7a4_74 rfl (lv_at hl 1 rfl) ?_
            refine lv_iload_n hx hb dJ6_numberOfTrailingZeros_0f7a4_75 rfl (lv_at hl 0 rfl) ?_
            refine lv_iconst (v := 1) hx hb dJ6_numberOfTrailingZeros_0f7a4_76 (by decide) ?_
            refine lv_iushr hx hb dJ6_numberOfTrailingZeros_0f7a4_77 rfl ?_
            refine lv_topi (fun x16 e_x16 => ?_)
            refine lv_iadd hx hb dJ6_numberOfTrailingZeros_0f7a4_78 ?_
            refine lv_topi (fun x17 e_x17 => ?_)
            try have e_x17 := ti_add e_x17 (show (5 : Int32).toInt = 5 by decide) rfl (by omega)
            exact W.iret (v := x17) hx hb hr (fun t ht hW => ⟨x17, rfl, trivial, ht⟩) (fun _ h => absurd h List.not_mem_nil) dJ6_numberOfTrailingZeros_0f7a4_79
          · have c64_15 : ¬ (x14.toInt ≤ 4) := mt (cv_le rfl (by decide)).mpr c64_15
            refine lv_iinc (v := 7) (lv' := [(1, .int 7), (0, .int x14)]) hx hb dJ6_numberOfTrailingZeros_0f7a4_67 hl (k := 1) rfl (by decide) (by decide) rfl (fun ls hl => ?_)
            refine lv_iload_n hx hb dJ6_numberOfTrailingZeros_0f7a4_70 rfl (lv_at hl 1 rfl) ?_
            refine lv_iconst (v := 2) hx hb dJ6_numberOfTrailingZeros_0f7a4_71 (by decide) ?_
            refine lv_iushr hx hb dJ6_numberOfTrailingZeros_0f7a4_72 rfl ?_
            refine lv_topi (fun x18 e_x18 => ?_)
            refine lv_istore_n (lv' := [(0, .int x18), (1, .int 7)]) hx hb dJ6_numberOfTrailingZeros_0f7a4_73 rfl hl (by decide) rfl (fun ls hl => ?_)
            refine lv_iload_n hx hb dJ6_numberOfTrailingZeros_0f7a4_74 rfl (lv_at hl 1 rfl) ?_
            refine lv_iload_n hx hb dJ6_numberOfTrailingZeros_0f7a4_75 rfl (lv_at hl 0 rfl) ?_
            refine lv_iconst (v := 1) hx hb dJ6_numberOfTrailingZeros_0f7a4_76 (by decide) ?_
            refine lv_iushr hx hb dJ6_numberOfTrailingZeros_0f7a4_77 rfl ?_
            refine lv_topi (fun x19 e_x19 => ?_)
            refine lv_iadd hx hb dJ6_numberOfTrailingZeros_0f7a4_78 ?_
            refine lv_topi (fun x20 e_x20 => ?_)
            try have e_x20 := ti_add e_x20 (show (7 : Int32).toInt = 7 by decide) rfl (by omega)
            exact W.iret (v := x20) hx hb hr (fun t ht hW => ⟨x20, rfl, trivial, ht⟩) (fun _ h => absurd h List.not_mem_nil) dJ6_numberOfTrailingZeros_0f7a4_79
      · have c38_6 : ¬ (x3.toInt ≤ 256) := mt (cv_le rfl (by decide)).mpr c38_6
        refine lv_iinc (v := 9) (lv' := [(1, .int 9), (0, .int x3)]) hx hb dJ6_numberOfTrailingZeros_0f7a4_41 hl (k := 0) rfl (by decide) (by decide) rfl (fun ls hl => ?_)
        refine lv_iload_n hx hb dJ6_numberOfTrailingZeros_0f7a4_44 rfl (lv_at hl 1 rfl) ?_
        refine lv_bipush (v := 8) hx hb dJ6_numberOfTrailingZeros_0f7a4_45 (by decide) ?_
        refine lv_iushr hx hb dJ6_numberOfTrailingZeros_0f7a4_47 rfl ?_
        refine lv_topi (fun x21 e_x21 => ?_)
        refine lv_istore_n (lv' := [(0, .int x21), (1, .int 9)]) hx hb dJ6_numberOfTrailingZeros_0f7a4_48 rfl hl (by decide) rfl (fun ls hl => ?_)
        refine lv_iload_n hx hb dJ6_numberOfTrailingZeros_0f7a4_49 rfl (lv_at hl 0 rfl) ?_
        refine lv_bipush (v := 16) hx hb dJ6_numberOfTrailingZeros_0f7a4_50 (by decide) ?_
        refine lv_icmp_le (tgt := 62) hx hb dJ6_numberOfTrailingZeros_0f7a4_52 (by decide) (fun c52_22 => ?_) (fun c52_22 => ?_)
        · have c52_22 : x21.toInt ≤ 16 := (cv_le rfl (by decide)).mp c52_22
          refine lv_iload_n hx hb dJ6_numberOfTrailingZeros_0f7a4_62 rfl (lv_at hl 0 rfl) ?_
          refine lv_iconst (v := 4) hx hb dJ6_numberOfTrailingZeros_0f7a4_63 (by decide) ?_
          refine lv_icmp_le (tgt := 74) hx hb dJ6_numberOfTrailingZeros_0f7a4_64 (by decide) (fun c64_23 => ?_) (fun c64_23 => ?_)
          · have c64_23 : x21.toInt ≤ 4 := (cv_le rfl (by decide)).mp c64_23
            refine lv_iload_n hx hb dJ6_numberOfTrailingZeros_0f7a4_74 rfl (lv_at hl 1 rfl) ?_
            refine lv_iload_n hx hb dJ6_numberOfTrailingZeros_0f7a4_75 rfl (lv_at hl 0 rfl) ?_
            refine lv_iconst (v := 1) hx hb dJ6_numberOfTrailingZeros_0f7a4_76 (by decide) ?_
            refine lv_iushr hx hb dJ6_numberOfTrailingZeros_0f7a4_77 rfl ?_
            refine lv_topi (fun x24 e_x24 => ?_)
            refine lv_iadd hx hb dJ6_numberOfTrailingZeros_0f7a4_78 ?_
            refine lv_topi (fun x25 e_x25 => ?_)
            try have e_x25 := ti_add e_x25 (show (9 : Int32).toInt = 9 by decide) rfl (by omega)
            exact W.iret (v := x25) hx hb hr (fun t ht hW => ⟨x25, rfl, trivial, ht⟩) (fun _ h => absurd h List.not_mem_nil) dJ6_numberOfTrailingZeros_0f7a4_79
          · have c64_23 : ¬ (x21.toInt ≤ 4) := mt (cv_le rfl (by decide)).mpr c64_23
            refine lv_iinc (v := 11) (lv' := [(1, .int 11), (0, .int x21)]) hx hb dJ6_numberOfTrailingZeros_0f7a4_67 hl (k := 1) rfl (by decide) (by decide) rfl (fun ls hl => ?_)
            refine lv_iload_n hx hb dJ6_numberOfTrailingZeros_0f7a4_70 rfl (lv_at hl 1 rfl) ?_
            refine lv_iconst (v := 2) hx hb dJ6_numberOfTrailingZeros_0f7a4_71 (by decide) ?_
            refine lv_iushr hx hb dJ6_numberOfTrailingZeros_0f7a4_72 rfl ?_
            refine lv_topi (fun x26 e_x26 => ?_)
            refine lv_istore_n (lv' := [(0, .int x26), (1, .int 11)]) hx hb dJ6_numberOfTrailingZeros_0f7a4_73 rfl hl (by decide) rfl (fun ls hl => ?_)
            refine lv_iload_n hx hb dJ6_numberOfTrailingZeros_0f7a4_74 rfl (lv_at hl 1 rfl) ?_
            refine lv_iload_n hx hb dJ6_numberOfTrailingZeros_0f7a4_75 rfl (lv_at hl 0 rfl) ?_
            refine lv_iconst (v := 1) hx hb dJ6_numberOfTrailingZeros_0f7a4_76 (by decide) ?_
            refine lv_iushr hx hb dJ6_numberOfTrailingZeros_0f7a4_77 rfl ?_
            refine lv_topi (fun x27 e_x27 => ?_)
            refine lv_iadd hx hb dJ6_numberOfTrailingZeros_0f7a4_78 ?_
            refine lv_topi (fun x28 e_x28 => ?_)
            try have e_x28 := ti_add e_x28 (show (11 : Int32).toInt = 11 by decide) rfl (by omega)
            exact W.iret (v := x28) hx hb hr (fun t ht hW => ⟨x28, rfl, trivial, ht⟩) (fun _ h => absurd h List.not_mem_nil) dJ6_numberOfTrailingZeros_0f7a4_79
        · have c52_22 : ¬ (x21.toInt ≤ 16) := mt (cv_le rfl (by decide)).mpr c52_22
          refine lv_iinc (v := 13) (lv' := [(1, .int 13), (0, .int x21)]) hx hb dJ6_numberOfTrailingZeros_0f7a4_55 hl (k := 1) rfl (by decide) (by decide) rfl (fun ls hl => ?_)
          refine lv_iload_n hx hb dJ6_numberOfTrailingZeros_0f7a4_58 rfl (lv_at hl 1 rfl) ?_
          refine lv_iconst (v := 4) hx hb dJ6_numberOfTrailingZeros_0f7a4_59 (by decide) ?_
          refine lv_iushr hx hb dJ6_numberOfTrailingZeros_0f7a4_60 rfl ?_
          refine lv_topi (fun x29 e_x29 => ?_)
          refine lv_istore_n (lv' := [(0, .int x29), (1, .int 13)]) hx hb dJ6_numberOfTrailingZeros_0f7a4_61 rfl hl (by decide) rfl (fun ls hl => ?_)
          refine lv_iload_n hx hb dJ6_numberOfTrailingZeros_0f7a4_62 rfl (lv_at hl 0 rfl) ?_
          refine lv_iconst (v := 4) hx hb dJ6_numberOfTrailingZeros_0f7a4_63 (by decide) ?_
          refine lv_icmp_le (tgt := 74) hx hb dJ6_numberOfTrailingZeros_0f7a4_64 (by decide) (fun c64_30 => ?_) (fun c64_30 => ?_)
          · have c64_30 : x29.toInt ≤ 4 := (cv_le rfl (by decide)).mp c64_30
            refine lv_iload_n hx hb dJ6_numberOfTrailingZeros_0f7a4_74 rfl (lv_at hl 1 rfl) ?_
            refine lv_iload_n hx hb dJ6_numberOfTrailingZeros_0f7a4_75 rfl (lv_at hl 0 rfl) ?_
            refine lv_iconst (v := 1) hx hb dJ6_numberOfTrailingZeros_0f7a4_76 (by decide) ?_
            refine lv_iushr hx hb dJ6_numberOfTrailingZeros_0f7a4_77 rfl ?_
            refine lv_topi (fun x31 e_x31 => ?_)
            refine lv_iadd hx hb dJ6_numberOfTrailingZeros_0f7a4_78 ?_
            refine lv_topi (fun x32 e_x32 => ?_)
            try have e_x32 := ti_add e_x32 (show (13 : Int32).toInt = 13 by decide) rfl (by omega)
            exact W.iret (v := x32) hx hb hr (fun t ht hW => ⟨x32, rfl, trivial, ht⟩) (fun _ h => absurd h List.not_mem_nil) dJ6_numberOfTrailingZeros_0f7a4_79
          · have c64_30 : ¬ (x29.toInt ≤ 4) := mt (cv_le rfl (by decide)).mpr c64_30
            refine lv_iinc (v := 15) (lv' := [(1, .int 15), (0, .int x29)]) hx hb dJ6_numberOfTrailingZeros_0f7a4_67 hl (k := 1) rfl (by decide) (by decide) rfl (fun ls hl => ?_)
            refine lv_iload_n hx hb dJ6_numberOfTrailingZeros_0f7a4_70 rfl (lv_at hl 1 rfl) ?_
            refine lv_iconst (v := 2) hx hb dJ6_numberOfTrailingZeros_0f7a4_71 (by decide) ?_
            refine lv_iushr hx hb dJ6_numberOfTrailingZeros_0f7a4_72 rfl ?_
            refine lv_topi (fun x33 e_x33 => ?_)
            refine lv_istore_n (lv' := [(0, .int x33), (1, .int 15)]) hx hb dJ6_numberOfTrailingZeros_0f7a4_73 rfl hl (by decide) rfl (fun ls hl => ?_)
            refine lv_iload_n hx hb dJ6_numberOfTrailingZeros_0f7a4_74 rfl (lv_at hl 1 rfl) ?_
            refine lv_iload_n hx hb dJ6_numberOfTrailingZeros_0f7a4_75 rfl (lv_at hl 0 rfl) ?_
            refine lv_iconst (v := 1) hx hb dJ6_numberOfTrailingZeros_0f7a4_76 (by decide) ?_
            refine lv_iushr hx hb dJ6_numberOfTrailingZeros_0f7a4_77 rfl ?_
            refine lv_topi (fun x34 e_x34 => ?_)
            refine lv_iadd hx hb dJ6_numberOfTrailingZeros_0f7a4_78 ?_
            refine lv_topi (fun x35 e_x35 => ?_)
            try have e_x35 := ti_add e_x35 (show (15 : Int32).toInt = 15 by decide) rfl (by omega)
            exact W.iret (v := x35) hx hb hr (fun t ht hW => ⟨x35, rfl, trivial, ht⟩) (fun _ h => absurd h List.not_mem_nil) dJ6_numberOfTrailingZeros_0f7a4_79
    · have c23_5 : ¬ (x3.toInt ≤ 65536) := mt (cv_le rfl (by decide)).mpr c23_5
      refine lv_iinc (v := 17) (lv' := [(1, .int 17), (0, .int x3)]) hx hb dJ6_numberOfTrailingZeros_0f7a4_26 hl (k := 0) rfl (by decide) (by decide) rfl (fun ls hl => ?_)
      refine lv_iload_n hx hb dJ6_numberOfTrailingZeros_0f7a4_29 rfl (lv_at hl 1 rfl) ?_
      refine lv_bipush (v := 16) hx hb dJ6_numberOfTrailingZeros_0f7a4_30 (by decide) ?_
      refine lv_iushr hx hb dJ6_numberOfTrailingZeros_0f7a4_32 rfl ?_
      refine lv_topi (fun x36 e_x36 => ?_)
      refine lv_istore_n (lv' := [(0, .int x36), (1, .int 17)]) hx hb dJ6_numberOfTrailingZeros_0f7a4_33 rfl hl (by decide) rfl (fun ls hl => ?_)
      refine lv_iload_n hx hb dJ6_numberOfTrailingZeros_0f7a4_34 rfl (lv_at hl 0 rfl) ?_
      refine lv_sipush (v := 256) hx hb dJ6_numberOfTrailingZeros_0f7a4_35 (by decide) ?_
      refine lv_icmp_le (tgt := 49) hx hb dJ6_numberOfTrailingZeros_0f7a4_38 (by decide) (fun c38_37 => ?_) (fun c38_37 => ?_)
      · have c38_37 : x36.toInt ≤ 256 := (cv_le rfl (by decide)).mp c38_37
        refine lv_iload_n hx hb dJ6_numberOfTrailingZeros_0f7a4_49 rfl (lv_at hl 0 rfl) ?_
        refine lv_bipush (v := 16) hx hb dJ6_numberOfTrailingZeros_0f7a4_50 (by decide) ?_
        refine lv_icmp_le (tgt := 62) hx hb dJ6_numberOfTrailingZeros_0f7a4_52 (by decide) (fun c52_38 => ?_) (fun c52_38 => ?_)
        · have c52_38 : x36.toInt ≤ 16 := (cv_le rfl (by decide)).mp c52_38
          refine lv_iload_n hx hb dJ6_numberOfTrailingZeros_0f7a4_62 rfl (lv_at hl 0 rfl) ?_
          refine lv_iconst (v := 4) hx hb dJ6_numberOfTrailingZeros_0f7a4_63 (by decide) ?_
          refine lv_icmp_le (tgt := 74) hx hb dJ6_numberOfTrailingZeros_0f7a4_64 (by decide) (fun c64_39 => ?_) (fun c64_39 => ?_)
          · have c64_39 : x36.toInt ≤ 4 := (cv_le rfl (by decide)).mp c64_39
            refine lv_iload_n hx hb dJ6_numberOfTrailingZeros_0f7a4_74 rfl (lv_at hl 1 rfl) ?_
            refine lv_iload_n hx hb dJ6_numberOfTrailingZeros_0f7a4_75 rfl (lv_at hl 0 rfl) ?_
            refine lv_iconst (v := 1) hx hb dJ6_numberOfTrailingZeros_0f7a4_76 (by decide) ?_
            refine lv_iushr hx hb dJ6_numberOfTrailingZeros_0f7a4_77 rfl ?_
            refine lv_topi (fun x40 e_x40 => ?_)
            refine lv_iadd hx hb dJ6_numberOfTrailingZeros_0f7a4_78 ?_
            refine lv_topi (fun x41 e_x41 => ?_)
            try have e_x41 := ti_add e_x41 (show (17 : Int32).toInt = 17 by decide) rfl (by omega)
            exact W.iret (v := x41) hx hb hr (fun t ht hW => ⟨x41, rfl, trivial, ht⟩) (fun _ h => absurd h List.not_mem_nil) dJ6_numberOfTrailingZeros_0f7a4_79
          · have c64_39 : ¬ (x36.toInt ≤ 4) := mt (cv_le rfl (by decide)).mpr c64_39
            refine lv_iinc (v := 19) (lv' := [(1, .int 19), (0, .int x36)]) hx hb dJ6_numberOfTrailingZeros_0f7a4_67 hl (k := 1) rfl (by decide) (by decide) rfl (fun ls hl => ?_)
            refine lv_iload_n hx hb dJ6_numberOfTrailingZeros_0f7a4_70 rfl (lv_at hl 1 rfl) ?_
            refine lv_iconst (v := 2) hx hb dJ6_numberOfTrailingZeros_0f7a4_71 (by decide) ?_
            refine lv_iushr hx hb dJ6_numberOfTrailingZeros_0f7a4_72 rfl ?_
            refine lv_topi (fun x42 e_x42 => ?_)
            refine lv_istore_n (lv' := [(0, .int x42), (1, .int 19)]) hx hb dJ6_numberOfTrailingZeros_0f7a4_73 rfl hl (by decide) rfl (fun ls hl => ?_)
            refine lv_iload_n hx hb dJ6_numberOfTrailingZeros_0f7a4_74 rfl (lv_at hl 1 rfl) ?_
            refine lv_iload_n hx hb dJ6_numberOfTrailingZeros_0f7a4_75 rfl (lv_at hl 0 rfl) ?_
            refine lv_iconst (v := 1) hx hb dJ6_numberOfTrailingZeros_0f7a4_76 (by decide) ?_
            refine lv_iushr hx hb dJ6_numberOfTrailingZeros_0f7a4_77 rfl ?_
            refine lv_topi (fun x43 e_x43 => ?_)
            refine lv_iadd hx hb dJ6_numberOfTrailingZeros_0f7a4_78 ?_
            refine lv_topi (fun x44 e_x44 => ?_)
            try have e_x44 := ti_add e_x44 (show (19 : Int32).toInt = 19 by decide) rfl (by omega)
            exact W.iret (v := x44) hx hb hr (fun t ht hW => ⟨x44, rfl, trivial, ht⟩) (fun _ h => absurd h List.not_mem_nil) dJ6_numberOfTrailingZeros_0f7a4_79
        · have c52_38 : ¬ (x36.toInt ≤ 16) := mt (cv_le rfl (by decide)).mpr c52_38
          refine lv_iinc (v := 21) (lv' := [(1, .int 21), (0, .int x36)]) hx hb dJ6_numberOfTrailingZeros_0f7a4_55 hl (k := 1) rfl (by decide) (by decide) rfl (fun ls hl => ?_)
          refine lv_iload_n hx hb dJ6_numberOfTrailingZeros_0f7a4_58 rfl (lv_at hl 1 rfl) ?_
          refine lv_iconst (v := 4) hx hb dJ6_numberOfTrailingZeros_0f7a4_59 (by decide) ?_
          refine lv_iushr hx hb dJ6_numberOfTrailingZeros_0f7a4_60 rfl ?_
          refine lv_topi (fun x45 e_x45 => ?_)
          refine lv_istore_n (lv' := [(0, .int x45), (1, .int 21)]) hx hb dJ6_numberOfTrailingZeros_0f7a4_61 rfl hl (by decide) rfl (fun ls hl => ?_)
          refine lv_iload_n hx hb dJ6_numberOfTrailingZeros_0f7a4_62 rfl (lv_at hl 0 rfl) ?_
          refine lv_iconst (v := 4) hx hb dJ6_numberOfTrailingZeros_0f7a4_63 (by decide) ?_
          refine lv_icmp_le (tgt := 74) hx hb dJ6_numberOfTrailingZeros_0f7a4_64 (by decide) (fun c64_46 => ?_) (fun c64_46 => ?_)
          · have c64_46 : x45.toInt ≤ 4 := (cv_le rfl (by decide)).mp c64_46
            refine lv_iload_n hx hb dJ6_numberOfTrailingZeros_0f7a4_74 rfl (lv_at hl 1 rfl) ?_
            refine lv_iload_n hx hb dJ6_numberOfTrailingZeros_0f7a4_75 rfl (lv_at hl 0 rfl) ?_
            refine lv_iconst (v := 1) hx hb dJ6_numberOfTrailingZeros_0f7a4_76 (by decide) ?_
            refine lv_iushr hx hb dJ6_numberOfTrailingZeros_0f7a4_77 rfl ?_
            refine lv_topi (fun x47 e_x47 => ?_)
            refine lv_iadd hx hb dJ6_numberOfTrailingZeros_0f7a4_78 ?_
            refine lv_topi (fun x48 e_x48 => ?_)
            try have e_x48 := ti_add e_x48 (show (21 : Int32).toInt = 21 by decide) rfl (by omega)
            exact W.iret (v := x48) hx hb hr (fun t ht hW => ⟨x48, rfl, trivial, ht⟩) (fun _ h => absurd h List.not_mem_nil) dJ6_numberOfTrailingZeros_0f7a4_79
          · have c64_46 : ¬ (x45.toInt ≤ 4) := mt (cv_le rfl (by decide)).mpr c64_46
            refine lv_iinc (v := 23) (lv' := [(1, .int 23), (0, .int x45)]) hx hb dJ6_numberOfTrailingZeros_0f7a4_67 hl (k := 1) rfl (by decide) (by decide) rfl (fun ls hl => ?_)
            refine lv_iload_n hx hb dJ6_numberOfTrailingZeros_0f7a4_70 rfl (lv_at hl 1 rfl) ?_
            refine lv_iconst (v := 2) hx hb dJ6_numberOfTrailingZeros_0f7a4_71 (by decide) ?_
            refine lv_iushr hx hb dJ6_numberOfTrailingZeros_0f7a4_72 rfl ?_
            refine lv_topi (fun x49 e_x49 => ?_)
            refine lv_istore_n (lv' := [(0, .int x49), (1, .int 23)]) hx hb dJ6_numberOfTrailingZeros_0f7a4_73 rfl hl (by decide) rfl (fun ls hl => ?_)
            refine lv_iload_n hx hb dJ6_numberOfTrailingZeros_0f7a4_74 rfl (lv_at hl 1 rfl) ?_
            refine lv_iload_n hx hb dJ6_numberOfTrailingZeros_0f7a4_75 rfl (lv_at hl 0 rfl) ?_
            refine lv_iconst (v := 1) hx hb dJ6_numberOfTrailingZeros_0f7a4_76 (by decide) ?_
            refine lv_iushr hx hb dJ6_numberOfTrailingZeros_0f7a4_77 rfl ?_
            refine lv_topi (fun x50 e_x50 => ?_)
            refine lv_iadd hx hb dJ6_numberOfTrailingZeros_0f7a4_78 ?_
            refine lv_topi (fun x51 e_x51 => ?_)
            try have e_x51 := ti_add e_x51 (show (23 : Int32).toInt = 23 by decide) rfl (by omega)
            exact W.iret (v := x51) hx hb hr (fun t ht hW => ⟨x51, rfl, trivial, ht⟩) (fun _ h => absurd h List.not_mem_nil) dJ6_numberOfTrailingZeros_0f7a4_79
      · have c38_37 : ¬ (x36.toInt ≤ 256) := mt (cv_le rfl (by decide)).mpr c38_37
        refine lv_iinc (v := 25) (lv' := [(1, .int 25), (0, .int x36)]) hx hb dJ6_numberOfTrailingZeros_0f7a4_41 hl (k := 1) rfl (by decide) (by decide) rfl (fun ls hl => ?_)
        refine lv_iload_n hx hb dJ6_numberOfTrailingZeros_0f7a4_44 rfl (lv_at hl 1 rfl) ?_
        refine lv_bipush (v := 8) hx hb dJ6_numberOfTrailingZeros_0f7a4_45 (by decide) ?_
        refine lv_iushr hx hb dJ6_numberOfTrailingZeros_0f7a4_47 rfl ?_
        refine lv_topi (fun x52 e_x52 => ?_)
        refine lv_istore_n (lv' := [(0, .int x52), (1, .int 25)]) hx hb dJ6_numberOfTrailingZeros_0f7a4_48 rfl hl (by decide) rfl (fun ls hl => ?_)
        refine lv_iload_n hx hb dJ6_numberOfTrailingZeros_0f7a4_49 rfl (lv_at hl 0 rfl) ?_
        refine lv_bipush (v := 16) hx hb dJ6_numberOfTrailingZeros_0f7a4_50 (by decide) ?_
        refine lv_icmp_le (tgt := 62) hx hb dJ6_numberOfTrailingZeros_0f7a4_52 (by decide) (fun c52_53 => ?_) (fun c52_53 => ?_)
        · have c52_53 : x52.toInt ≤ 16 := (cv_le rfl (by decide)).mp c52_53
          refine lv_iload_n hx hb dJ6_numberOfTrailingZeros_0f7a4_62 rfl (lv_at hl 0 rfl) ?_
          refine lv_iconst (v := 4) hx hb dJ6_numberOfTrailingZeros_0f7a4_63 (by decide) ?_
          refine lv_icmp_le (tgt := 74) hx hb dJ6_numberOfTrailingZeros_0f7a4_64 (by decide) (fun c64_54 => ?_) (fun c64_54 => ?_)
          · have c64_54 : x52.toInt ≤ 4 := (cv_le rfl (by decide)).mp c64_54
            refine lv_iload_n hx hb dJ6_numberOfTrailingZeros_0f7a4_74 rfl (lv_at hl 1 rfl) ?_
            refine lv_iload_n hx hb dJ6_numberOfTrailingZeros_0f7a4_75 rfl (lv_at hl 0 rfl) ?_
            refine lv_iconst (v := 1) hx hb dJ6_numberOfTrailingZeros_0f7a4_76 (by decide) ?_
            refine lv_iushr hx hb dJ6_numberOfTrailingZeros_0f7a4_77 rfl ?_
            refine lv_topi (fun x55 e_x55 => ?_)
            refine lv_iadd hx hb dJ6_numberOfTrailingZeros_0f7a4_78 ?_
            refine lv_topi (fun x56 e_x56 => ?_)
            try have e_x56 := ti_add e_x56 (show (25 : Int32).toInt = 25 by decide) rfl (by omega)
            exact W.iret (v := x56) hx hb hr (fun t ht hW => ⟨x56, rfl, trivial, ht⟩) (fun _ h => absurd h List.not_mem_nil) dJ6_numberOfTrailingZeros_0f7a4_79
          · have c64_54 : ¬ (x52.toInt ≤ 4) := mt (cv_le rfl (by decide)).mpr c64_54
            refine lv_iinc (v := 27) (lv' := [(1, .int 27), (0, .int x52)]) hx hb dJ6_numberOfTrailingZeros_0f7a4_67 hl (k := 1) rfl (by decide) (by decide) rfl (fun ls hl => ?_)
            refine lv_iload_n hx hb dJ6_numberOfTrailingZeros_0f7a4_70 rfl (lv_at hl 1 rfl) ?_
            refine lv_iconst (v := 2) hx hb dJ6_numberOfTrailingZeros_0f7a4_71 (by decide) ?_
            refine lv_iushr hx hb dJ6_numberOfTrailingZeros_0f7a4_72 rfl ?_
            refine lv_topi (fun x57 e_x57 => ?_)
            refine lv_istore_n (lv' := [(0, .int x57), (1, .int 27)]) hx hb dJ6_numberOfTrailingZeros_0f7a4_73 rfl hl (by decide) rfl (fun ls hl => ?_)
            refine lv_iload_n hx hb dJ6_numberOfTrailingZeros_0f7a4_74 rfl (lv_at hl 1 rfl) ?_
            refine lv_iload_n hx hb dJ6_numberOfTrailingZeros_0f7a4_75 rfl (lv_at hl 0 rfl) ?_
            refine lv_iconst (v := 1) hx hb dJ6_numberOfTrailingZeros_0f7a4_76 (by decide) ?_
            refine lv_iushr hx hb dJ6_numberOfTrailingZeros_0f7a4_77 rfl ?_
            refine lv_topi (fun x58 e_x58 => ?_)
            refine lv_iadd hx hb dJ6_numberOfTrailingZeros_0f7a4_78 ?_
            refine lv_topi (fun x59 e_x59 => ?_)
            try have e_x59 := ti_add e_x59 (show (27 : Int32).toInt = 27 by decide) rfl (by omega)
            exact W.iret (v := x59) hx hb hr (fun t ht hW => ⟨x59, rfl, trivial, ht⟩) (fun _ h => absurd h List.not_mem_nil) dJ6_numberOfTrailingZeros_0f7a4_79
        · have c52_53 : ¬ (x52.toInt ≤ 16) := mt (cv_le rfl (by decide)).mpr c52_53
          refine lv_iinc (v := 29) (lv' := [(1, .int 29), (0, .int x52)]) hx hb dJ6_numberOfTrailingZeros_0f7a4_55 hl (k := 1) rfl (by decide) (by decide) rfl (fun ls hl => ?_)
          refine lv_iload_n hx hb dJ6_numberOfTrailingZeros_0f7a4_58 rfl (lv_at hl 1 rfl) ?_
          refine lv_iconst (v := 4) hx hb dJ6_numberOfTrailingZeros_0f7a4_59 (by decide) ?_
          refine lv_iushr hx hb dJ6_numberOfTrailingZeros_0f7a4_60 rfl ?_
          refine lv_topi (fun x60 e_x60 => ?_)
          refine lv_istore_n (lv' := [(0, .int x60), (1, .int 29)]) hx hb dJ6_numberOfTrailingZeros_0f7a4_61 rfl hl (by decide) rfl (fun ls hl => ?_)
          refine lv_iload_n hx hb dJ6_numberOfTrailingZeros_0f7a4_62 rfl (lv_at hl 0 rfl) ?_
          refine lv_iconst (v := 4) hx hb dJ6_numberOfTrailingZeros_0f7a4_63 (by decide) ?_
          refine lv_icmp_le (tgt := 74) hx hb dJ6_numberOfTrailingZeros_0f7a4_64 (by decide) (fun c64_61 => ?_) (fun c64_61 => ?_)
          · have c64_61 : x60.toInt ≤ 4 := (cv_le rfl (by decide)).mp c64_61
            refine lv_iload_n hx hb dJ6_numberOfTrailingZeros_0f7a4_74 rfl (lv_at hl 1 rfl) ?_
            refine lv_iload_n hx hb dJ6_numberOfTrailingZeros_0f7a4_75 rfl (lv_at hl 0 rfl) ?_
            refine lv_iconst (v := 1) hx hb dJ6_numberOfTrailingZeros_0f7a4_76 (by decide) ?_
            refine lv_iushr hx hb dJ6_numberOfTrailingZeros_0f7a4_77 rfl ?_
            refine lv_topi (fun x62 e_x62 => ?_)
            refine lv_iadd hx hb dJ6_numberOfTrailingZeros_0f7a4_78 ?_
            refine lv_topi (fun x63 e_x63 => ?_)
            try have e_x63 := ti_add e_x63 (show (29 : Int32).toInt = 29 by decide) rfl (by omega)
            exact W.iret (v := x63) hx hb hr (fun t ht hW => ⟨x63, rfl, trivial, ht⟩) (fun _ h => absurd h List.not_mem_nil) dJ6_numberOfTrailingZeros_0f7a4_79
          · have c64_61 : ¬ (x60.toInt ≤ 4) := mt (cv_le rfl (by decide)).mpr c64_61
            refine lv_iinc (v := 31) (lv' := [(1, .int 31), (0, .int x60)]) hx hb dJ6_numberOfTrailingZeros_0f7a4_67 hl (k := 1) rfl (by decide) (by decide) rfl (fun ls hl => ?_)
            refine lv_iload_n hx hb dJ6_numberOfTrailingZeros_0f7a4_70 rfl (lv_at hl 1 rfl) ?_
            refine lv_iconst (v := 2) hx hb dJ6_numberOfTrailingZeros_0f7a4_71 (by decide) ?_
            refine lv_iushr hx hb dJ6_numberOfTrailingZeros_0f7a4_72 rfl ?_
            refine lv_topi (fun x64 e_x64 => ?_)
            refine lv_istore_n (lv' := [(0, .int x64), (1, .int 31)]) hx hb dJ6_numberOfTrailingZeros_0f7a4_73 rfl hl (by decide) rfl (fun ls hl => ?_)
            refine lv_iload_n hx hb dJ6_numberOfTrailingZeros_0f7a4_74 rfl (lv_at hl 1 rfl) ?_
            refine lv_iload_n hx hb dJ6_numberOfTrailingZeros_0f7a4_75 rfl (lv_at hl 0 rfl) ?_
            refine lv_iconst (v := 1) hx hb dJ6_numberOfTrailingZeros_0f7a4_76 (by decide) ?_
            refine lv_iushr hx hb dJ6_numberOfTrailingZeros_0f7a4_77 rfl ?_
            refine lv_topi (fun x65 e_x65 => ?_)
            refine lv_iadd hx hb dJ6_numberOfTrailingZeros_0f7a4_78 ?_
            refine lv_topi (fun x66 e_x66 => ?_)
            try have e_x66 := ti_add e_x66 (show (31 : Int32).toInt = 31 by decide) rfl (by omega)
            exact W.iret (v := x66) hx hb hr (fun t ht hW => ⟨x66, rfl, trivial, ht⟩) (fun _ h => absurd h List.not_mem_nil) dJ6_numberOfTrailingZeros_0f7a4_79
  · have c9_4 : ¬ (0 < x3.toInt) := mt (cv_lt (by decide) rfl).mpr c9_4
    refine lv_iload_n hx hb dJ6_numberOfTrailingZeros_0f7a4_12 rfl (lv_at hl 0 rfl) ?_
    refine lv_bipush (v := 32) hx hb dJ6_numberOfTrailingZeros_0f7a4_13 (by decide) ?_
    refine lv_iand hx hb dJ6_numberOfTrailingZeros_0f7a4_15 ?_
    refine lv_topi (fun x67 e_x67 => ?_)
    have e_x67 := ti_and e_x67 (show (32 : Int32).toInt = 32 by decide) (by decide)
    exact W.iret (v := x67) hx hb hr (fun t ht hW => ⟨x67, rfl, trivial, ht⟩) (fun _ h => absurd h List.not_mem_nil) dJ6_numberOfTrailingZeros_0f7a4_16
set_option maxHeartbeats 4000000 in
set_option maxRecDepth 100000 in
theorem k_X6_nextOfSameSize (l : Launch) (dC : Nat → ClassId) (dI : Nat → Nat → Nat) (g : Gv) (a0 : Int32)  : Met l yX6_nextOfSameSize (.code yX6_nextOfSameSize cX6_nextOfSameSize 4 (some .int) :: TBL) ({ frames := 1, cells := 0, slots := 0, locals := 21 }) (va_Pc [.int a0] (fun U => va_P (dC, dI) vwCl [] U.heap ∧ va_K (dC, dI) vwCl [] U ∧ Ev g (fun _ => False) U)) (vp_Si (fun (r : Int32) => True)) 0 0 (fun _ => False) := by
  refine Met.ofW (cc := cX6_nextOfSameSize) (maxL := 4) (ret := (some .int)) (by decide) rfl ?_
  intro p e s m args below meth c s₁ B hml hv
  obtain ⟨rfl, hP, hK, hE⟩ := hv
  have hx := B.exec
  have hb := B.bytes
  have hr := B.returns
  have hts0 := atoms_spec (ws := (.code yX6_nextOfSameSize cX6_nextOfSameSize 4 (some .int) :: TBL)) B.pre
  have hts := fun (w : Cond) (h : w ∈ TBL) => hts0 w (List.mem_cons_of_mem _ h)
  have hown : s.vm.findClass RX6 = some m.cls := findClass_of_methodNamed B.named
  have hlocks := B.notSynchronized
  have hN := hE.1
  have hS : va_S (fun _ => False) s.heap s.heap [] := va_S.rf
  replace hP : va_P (dC, dI) vwCl [] s.heap := hP
  have hl := lv_entry ([.int a0]) (n := 4) (Nat.le_of_ble_eq_true rfl)
  rw [lg_entry_eq]
  generalize (lg_sl ([.int a0]) ++ List.replicate (4 - (lg_sl ([.int a0])).length) Slot.unset).toArray = ls at hl ⊢
  have hl : lv_has ls 4 [(0, .int a0)] := hl
  have b_a0 := i32b a0
  refine lv_iload_n hx hb dX6_nextOfSameSize_0 rfl (lv_at hl 0 rfl) ?_
  refine lv_iload_n hx hb dX6_nextOfSameSize_1 rfl (lv_at hl 0 rfl) ?_
  refine lv_ineg hx hb dX6_nextOfSameSize_2 ?_
  refine lv_topi (fun x1 e_x1 => ?_)
  refine lv_iand hx hb dX6_nextOfSameSize_3 ?_
  refine lv_topi (fun x2 e_x2 => ?_)
  refine lv_istore_n (lv' := [(1, .int x2), (0, .int a0)]) hx hb dX6_nextOfSameSize_4 rfl hl (by decide) rfl (fun ls hl => ?_)
  refine lv_iload_n hx hb dX6_nextOfSameSize_5 rfl (lv_at hl 1 rfl) ?_
  refine lv_iload_n hx hb dX6_nextOfSameSize_6 rfl (lv_at hl 0 rfl) ?_
  refine lv_iadd hx hb dX6_nextOfSameSize_7 ?_
  refine lv_topi (fun x3 e_x3 => ?_)
  try have e_x3 := ti_add e_x3 rfl rfl (by omega)
  refine lv_istore_n (lv' := [(2, .int x3), (1, .int x2), (0, .int a0)]) hx hb dX6_nextOfSameSize_8 rfl hl (by decide) rfl (fun ls hl => ?_)
  refine lv_iload_n hx hb dX6_nextOfSameSize_9 rfl (lv_at hl 2 rfl) ?_
  refine lv_iload_n hx hb dX6_nextOfSameSize_10 rfl (lv_at hl 0 rfl) ?_
  refine lv_ixor hx hb dX6_nextOfSameSize_11 ?_
  refine lv_topi (fun x4 e_x4 => ?_)
  refine lv_iconst (v := 2) hx hb dX6_nextOfSameSize_12 (by decide) ?_
  refine lv_iushr hx hb dX6_nextOfSameSize_13 rfl ?_
  refine lv_topi (fun x5 e_x5 => ?_)
  refine lv_iload_n hx hb dX6_nextOfSameSize_14 rfl (lv_at hl 1 rfl) ?_
  have hPc := hP
  have hKc := hK
  refine vp_callSi ((va_runS (As := [.int x2]) (rest := [.int x5]) ⟨hx, hb, hml, hown, hts⟩ (k_J6_numberOfTrailingZeros_0f7a4 l dC dI g (x2) ) (va_cwS 1 hts (gwS qw_158 qw_159 qw_157 qw_156) rfl rfl rfl (by decide +kernel) ⟨Nat.le_of_ble_eq_true rfl, Nat.le_of_ble_eq_true rfl⟩) ⟨fun a U g9 mk q => ⟨q.1, q.2.1, va_K.moved (u := U) (U := U.calling g9 mk a) (Vm.Alike.refl U.vm) q.2.2.1, Ev.bl q.2.2.2⟩, fun U hU hW => ⟨rfl, atB hU hPc, va_K.moved hW.alike hKc, hE.go hS (fun _ h => h.elim) hU hW⟩⟩ rfl rfl hl.1 rfl (lv_room (Nat.le_of_ble_eq_true rfl)) dX6_nextOfSameSize_15 ⟨Nat.le_of_ble_eq_true rfl, Nat.le_of_ble_eq_true rfl⟩)).run (fun r6 h_r6 => ?_)
  have b_r6 := i32b r6
  refine lv_iushr hx hb dX6_nextOfSameSize_18 rfl ?_
  refine lv_topi (fun x7 e_x7 => ?_)
  refine lv_istore_n (lv' := [(3, .int x7), (2, .int x3), (1, .int x2), (0, .int a0)]) hx hb dX6_nextOfSameSize_19 rfl hl (by decide) rfl (fun ls hl => ?_)
  refine lv_iload_n hx hb dX6_nextOfSameSize_20 rfl (lv_at hl 1 rfl) ?_
  refine lv_iload_n hx hb dX6_nextOfSameSize_21 rfl (lv_at hl 0 rfl) ?_
  refine lv_ior hx hb dX6_nextOfSameSize_22 ?_
  refine lv_topi (fun x8 e_x8 => ?_)
  exact W.iret (v := x8) hx hb hr (fun t ht hW => ⟨x8, rfl, trivial, ht⟩) (fun _ h => absurd h List.not_mem_nil) dX6_nextOfSameSize_23
