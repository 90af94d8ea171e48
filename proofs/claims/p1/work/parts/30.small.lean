theorem dX1_hasPerson_0 : decode cX1_hasPerson 0 = .ok (.iload_n 1, 1) := by decide +kernel
theorem dX1_hasPerson_1 : decode cX1_hasPerson 1 = .ok (.ifCond .lt 15, 3) := by decide +kernel
theorem dX1_hasPerson_4 : decode cX1_hasPerson 4 = .ok (.iload_n 1, 1) := by decide +kernel
theorem dX1_hasPerson_5 : decode cX1_hasPerson 5 = .ok (.aload_n 0, 1) := by decide +kernel
theorem dX1_hasPerson_6 : decode cX1_hasPerson 6 = .ok (.getfield 45, 3) := by decide +kernel
theorem dX1_hasPerson_9 : decode cX1_hasPerson 9 = .ok (.if_icmp .ge 7, 3) := by decide +kernel
theorem dX1_hasPerson_12 : decode cX1_hasPerson 12 = .ok (.iconst 1, 1) := by decide +kernel
theorem dX1_hasPerson_13 : decode cX1_hasPerson 13 = .ok (.goto 4, 3) := by decide +kernel
theorem dX1_hasPerson_16 : decode cX1_hasPerson 16 = .ok (.iconst 0, 1) := by decide +kernel
theorem dX1_hasPerson_17 : decode cX1_hasPerson 17 = .ok (.ireturn, 1) := by decide +kernel
theorem dX1_hasPiece_0 : decode cX1_hasPiece 0 = .ok (.iload_n 1, 1) := by decide +kernel
theorem dX1_hasPiece_1 : decode cX1_hasPiece 1 = .ok (.ifCond .lt 15, 3) := by decide +kernel
theorem dX1_hasPiece_4 : decode cX1_hasPiece 4 = .ok (.iload_n 1, 1) := by decide +kernel
theorem dX1_hasPiece_5 : decode cX1_hasPiece 5 = .ok (.aload_n 0, 1) := by decide +kernel
theorem dX1_hasPiece_6 : decode cX1_hasPiece 6 = .ok (.getfield 52, 3) := by decide +kernel
theorem dX1_hasPiece_9 : decode cX1_hasPiece 9 = .ok (.if_icmp .ge 7, 3) := by decide +kernel
theorem dX1_hasPiece_12 : decode cX1_hasPiece 12 = .ok (.iconst 1, 1) := by decide +kernel
theorem dX1_hasPiece_13 : decode cX1_hasPiece 13 = .ok (.goto 4, 3) := by decide +kernel
theorem dX1_hasPiece_16 : decode cX1_hasPiece 16 = .ok (.iconst 0, 1) := by decide +kernel
theorem dX1_hasPiece_17 : decode cX1_hasPiece 17 = .ok (.ireturn, 1) := by decide +kernel
theorem dX1_hasClosure_0 : decode cX1_hasClosure 0 = .ok (.iload_n 1, 1) := by decide +kernel
theorem dX1_hasClosure_1 : decode cX1_hasClosure 1 = .ok (.ifCond .lt 15, 3) := by decide +kernel
theorem dX1_hasClosure_4 : decode cX1_hasClosure 4 = .ok (.iload_n 1, 1) := by decide +kernel
theorem dX1_hasClosure_5 : decode cX1_hasClosure 5 = .ok (.aload_n 0, 1) := by decide +kernel
theorem dX1_hasClosure_6 : decode cX1_hasClosure 6 = .ok (.getfield 55, 3) := by decide +kernel
theorem dX1_hasClosure_9 : decode cX1_hasClosure 9 = .ok (.if_icmp .ge 7, 3) := by decide +kernel
theorem dX1_hasClosure_12 : decode cX1_hasClosure 12 = .ok (.iconst 1, 1) := by decide +kernel
theorem dX1_hasClosure_13 : decode cX1_hasClosure 13 = .ok (.goto 4, 3) := by decide +kernel
theorem dX1_hasClosure_16 : decode cX1_hasClosure 16 = .ok (.iconst 0, 1) := by decide +kernel
theorem dX1_hasClosure_17 : decode cX1_hasClosure 17 = .ok (.ireturn, 1) := by decide +kernel
theorem dX1_holdingFor_0 : decode cX1_holdingFor 0 = .ok (.iconst 0, 1) := by decide +kernel
theorem dX1_holdingFor_1 : decode cX1_holdingFor 1 = .ok (.istore_n 2, 1) := by decide +kernel
theorem dX1_holdingFor_2 : decode cX1_holdingFor 2 = .ok (.iconst 0, 1) := by decide +kernel
theorem dX1_holdingFor_3 : decode cX1_holdingFor 3 = .ok (.istore_n 3, 1) := by decide +kernel
theorem dX1_holdingFor_4 : decode cX1_holdingFor 4 = .ok (.iload_n 3, 1) := by decide +kernel
theorem dX1_holdingFor_5 : decode cX1_holdingFor 5 = .ok (.aload_n 0, 1) := by decide +kernel
theorem dX1_holdingFor_6 : decode cX1_holdingFor 6 = .ok (.getfield 55, 3) := by decide +kernel
theorem dX1_holdingFor_9 : decode cX1_holdingFor 9 = .ok (.if_icmp .ge 28, 3) := by decide +kernel
theorem dX1_holdingFor_12 : decode cX1_holdingFor 12 = .ok (.iload_n 1, 1) := by decide +kernel
theorem dX1_holdingFor_13 : decode cX1_holdingFor 13 = .ok (.aload_n 0, 1) := by decide +kernel
theorem dX1_holdingFor_14 : decode cX1_holdingFor 14 = .ok (.getfield 27, 3) := by decide +kernel
theorem dX1_holdingFor_17 : decode cX1_holdingFor 17 = .ok (.iload_n 3, 1) := by decide +kernel
theorem dX1_holdingFor_18 : decode cX1_holdingFor 18 = .ok (.iaload, 1) := by decide +kernel
theorem dX1_holdingFor_19 : decode cX1_holdingFor 19 = .ok (.invokestatic 58, 3) := by decide +kernel
theorem dX1_holdingFor_22 : decode cX1_holdingFor 22 = .ok (.ifCond .ne 9, 3) := by decide +kernel
theorem dX1_holdingFor_25 : decode cX1_holdingFor 25 = .ok (.iload_n 2, 1) := by decide +kernel
theorem dX1_holdingFor_26 : decode cX1_holdingFor 26 = .ok (.iconst 1, 1) := by decide +kernel
theorem dX1_holdingFor_27 : decode cX1_holdingFor 27 = .ok (.iload_n 3, 1) := by decide +kernel
theorem dX1_holdingFor_28 : decode cX1_holdingFor 28 = .ok (.ishl, 1) := by decide +kernel
theorem dX1_holdingFor_29 : decode cX1_holdingFor 29 = .ok (.ior, 1) := by decide +kernel
theorem dX1_holdingFor_30 : decode cX1_holdingFor 30 = .ok (.istore_n 2, 1) := by decide +kernel
theorem dX1_holdingFor_31 : decode cX1_holdingFor 31 = .ok (.iinc 3 1, 3) := by decide +kernel
theorem dX1_holdingFor_34 : decode cX1_holdingFor 34 = .ok (.goto (-30), 3) := by decide +kernel
theorem dX1_holdingFor_37 : decode cX1_holdingFor 37 = .ok (.iload_n 2, 1) := by decide +kernel
theorem dX1_holdingFor_38 : decode cX1_holdingFor 38 = .ok (.ireturn, 1) := by decide +kernel
theorem dX6_fill_0 : decode cX6_fill 0 = .ok (.aload_n 0, 1) := by decide +kernel
theorem dX6_fill_1 : decode cX6_fill 1 = .ok (.aload_n 1, 1) := by decide +kernel
theorem dX6_fill_2 : decode cX6_fill 2 = .ok (.getfield 32, 3) := by decide +kernel
theorem dX6_fill_5 : decode cX6_fill 5 = .ok (.putfield 38, 3) := by decide +kernel
theorem dX6_fill_8 : decode cX6_fill 8 = .ok (.aload_n 0, 1) := by decide +kernel
theorem dX6_fill_9 : decode cX6_fill 9 = .ok (.aload_n 1, 1) := by decide +kernel
theorem dX6_fill_10 : decode cX6_fill 10 = .ok (.getfield 39, 3) := by decide +kernel
theorem dX6_fill_13 : decode cX6_fill 13 = .ok (.putfield 42, 3) := by decide +kernel
theorem dX6_fill_16 : decode cX6_fill 16 = .ok (.aload_n 0, 1) := by decide +kernel
theorem dX6_fill_17 : decode cX6_fill 17 = .ok (.aload_n 2, 1) := by decide +kernel
theorem dX6_fill_18 : decode cX6_fill 18 = .ok (.invokevirtual 43, 3) := by decide +kernel
theorem dX6_fill_21 : decode cX6_fill 21 = .ok (.iconst 0, 1) := by decide +kernel
theorem dX6_fill_22 : decode cX6_fill 22 = .ok (.istore_n 3, 1) := by decide +kernel
theorem dX6_fill_23 : decode cX6_fill 23 = .ok (.iload_n 3, 1) := by decide +kernel
theorem dX6_fill_24 : decode cX6_fill 24 = .ok (.aload_n 0, 1) := by decide +kernel
theorem dX6_fill_25 : decode cX6_fill 25 = .ok (.getfield 42, 3) := by decide +kernel
theorem dX6_fill_28 : decode cX6_fill 28 = .ok (.if_icmp .ge 97, 3) := by decide +kernel
theorem dX6_fill_31 : decode cX6_fill 31 = .ok (.iconst 0, 1) := by decide +kernel
theorem dX6_fill_32 : decode cX6_fill 32 = .ok (.istore 4, 2) := by decide +kernel
theorem dX6_fill_34 : decode cX6_fill 34 = .ok (.iload 4, 2) := by decide +kernel
theorem dX6_fill_36 : decode cX6_fill 36 = .ok (.aload_n 0, 1) := by decide +kernel
theorem dX6_fill_37 : decode cX6_fill 37 = .ok (.getfield 38, 3) := by decide +kernel
theorem dX6_fill_40 : decode cX6_fill 40 = .ok (.if_icmp .ge 40, 3) := by decide +kernel
theorem dX6_fill_43 : decode cX6_fill 43 = .ok (.aload_n 0, 1) := by decide +kernel
theorem dX6_fill_44 : decode cX6_fill 44 = .ok (.getfield 20, 3) := by decide +kernel
theorem dX6_fill_47 : decode cX6_fill 47 = .ok (.iload_n 3, 1) := by decide +kernel
theorem dX6_fill_48 : decode cX6_fill 48 = .ok (.aaload, 1) := by decide +kernel
theorem dX6_fill_49 : decode cX6_fill 49 = .ok (.iload 4, 2) := by decide +kernel
theorem dX6_fill_51 : decode cX6_fill 51 = .ok (.aload_n 1, 1) := by decide +kernel
theorem dX6_fill_52 : decode cX6_fill 52 = .ok (.iload_n 3, 1) := by decide +kernel
theorem dX6_fill_53 : decode cX6_fill 53 = .ok (.iload 4, 2) := by decide +kernel
theorem dX6_fill_55 : decode cX6_fill 55 = .ok (.invokevirtual 47, 3) := by decide +kernel
theorem dX6_fill_58 : decode cX6_fill 58 = .ok (.ifCond .eq 14, 3) := by decide +kernel
theorem dX6_fill_61 : decode cX6_fill 61 = .ok (.iload_n 3, 1) := by decide +kernel
theorem dX6_fill_62 : decode cX6_fill 62 = .ok (.iload 4, 2) := by decide +kernel
theorem dX6_fill_64 : decode cX6_fill 64 = .ok (.aload_n 1, 1) := by decide +kernel
theorem dX6_fill_65 : decode cX6_fill 65 = .ok (.aload_n 2, 1) := by decide +kernel
theorem dX6_fill_66 : decode cX6_fill 66 = .ok (.invokestatic 51, 3) := by decide +kernel
theorem dX6_fill_69 : decode cX6_fill 69 = .ok (.goto 4, 3) := by decide +kernel
theorem dX6_fill_72 : decode cX6_fill 72 = .ok (.iconst (-1), 1) := by decide +kernel
theorem dX6_fill_73 : decode cX6_fill 73 = .ok (.iastore, 1) := by decide +kernel
theorem dX6_fill_74 : decode cX6_fill 74 = .ok (.iinc 4 1, 3) := by decide +kernel
theorem dX6_fill_77 : decode cX6_fill 77 = .ok (.goto (-43), 3) := by decide +kernel
theorem dX6_fill_80 : decode cX6_fill 80 = .ok (.iconst 0, 1) := by decide +kernel
theorem dX6_fill_81 : decode cX6_fill 81 = .ok (.istore 4, 2) := by decide +kernel
theorem dX6_fill_83 : decode cX6_fill 83 = .ok (.iload 4, 2) := by decide +kernel
theorem dX6_fill_85 : decode cX6_fill 85 = .ok (.aload_n 0, 1) := by decide +kernel
theorem dX6_fill_86 : decode cX6_fill 86 = .ok (.getfield 38, 3) := by decide +kernel
theorem dX6_fill_89 : decode cX6_fill 89 = .ok (.if_icmp .ge 30, 3) := by decide +kernel
theorem dX6_fill_92 : decode cX6_fill 92 = .ok (.aload_n 0, 1) := by decide +kernel
theorem dX6_fill_93 : decode cX6_fill 93 = .ok (.getfield 23, 3) := by decide +kernel
theorem dX6_fill_96 : decode cX6_fill 96 = .ok (.iload_n 3, 1) := by decide +kernel
theorem dX6_fill_97 : decode cX6_fill 97 = .ok (.aaload, 1) := by decide +kernel
theorem dX6_fill_98 : decode cX6_fill 98 = .ok (.iload 4, 2) := by decide +kernel
theorem dX6_fill_100 : decode cX6_fill 100 = .ok (.iload 4, 2) := by decide +kernel
theorem dX6_fill_102 : decode cX6_fill 102 = .ok (.aload_n 0, 1) := by decide +kernel
theorem dX6_fill_103 : decode cX6_fill 103 = .ok (.getfield 20, 3) := by decide +kernel
theorem dX6_fill_106 : decode cX6_fill 106 = .ok (.iload_n 3, 1) := by decide +kernel
theorem dX6_fill_107 : decode cX6_fill 107 = .ok (.aaload, 1) := by decide +kernel
theorem dX6_fill_108 : decode cX6_fill 108 = .ok (.aload_n 2, 1) := by decide +kernel
theorem dX6_fill_109 : decode cX6_fill 109 = .ok (.invokestatic 55, 3) := by decide +kernel
theorem dX6_fill_112 : decode cX6_fill 112 = .ok (.iastore, 1) := by decide +kernel
theorem dX6_fill_113 : decode cX6_fill 113 = .ok (.iinc 4 1, 3) := by decide +kernel
theorem dX6_fill_116 : decode cX6_fill 116 = .ok (.goto (-33), 3) := by decide +kernel
theorem dX6_fill_119 : decode cX6_fill 119 = .ok (.iinc 3 1, 3) := by decide +kernel
theorem dX6_fill_122 : decode cX6_fill 122 = .ok (.goto (-99), 3) := by decide +kernel
theorem dX6_fill_125 : decode cX6_fill 125 = .ok (.return_, 1) := by decide +kernel
theorem dX6_layPieces_0 : decode cX6_layPieces 0 = .ok (.iconst 0, 1) := by decide +kernel
theorem dX6_layPieces_1 : decode cX6_layPieces 1 = .ok (.istore_n 2, 1) := by decide +kernel
theorem dX6_layPieces_2 : decode cX6_layPieces 2 = .ok (.iload_n 2, 1) := by decide +kernel
theorem dX6_layPieces_3 : decode cX6_layPieces 3 = .ok (.aload_n 0, 1) := by decide +kernel
theorem dX6_layPieces_4 : decode cX6_layPieces 4 = .ok (.getfield 38, 3) := by decide +kernel
theorem dX6_layPieces_7 : decode cX6_layPieces 7 = .ok (.if_icmp .ge 16, 3) := by decide +kernel
theorem dX6_layPieces_10 : decode cX6_layPieces 10 = .ok (.aload_n 0, 1) := by decide +kernel
theorem dX6_layPieces_11 : decode cX6_layPieces 11 = .ok (.getfield 9, 3) := by decide +kernel
theorem dX6_layPieces_14 : decode cX6_layPieces 14 = .ok (.iload_n 2, 1) := by decide +kernel
theorem dX6_layPieces_15 : decode cX6_layPieces 15 = .ok (.iconst 0, 1) := by decide +kernel
theorem dX6_layPieces_16 : decode cX6_layPieces 16 = .ok (.iastore, 1) := by decide +kernel
theorem dX6_layPieces_17 : decode cX6_layPieces 17 = .ok (.iinc 2 1, 3) := by decide +kernel
theorem dX6_layPieces_20 : decode cX6_layPieces 20 = .ok (.goto (-18), 3) := by decide +kernel
theorem dX6_layPieces_23 : decode cX6_layPieces 23 = .ok (.iconst 0, 1) := by decide +kernel
theorem dX6_layPieces_24 : decode cX6_layPieces 24 = .ok (.istore_n 2, 1) := by decide +kernel
theorem dX6_layPieces_25 : decode cX6_layPieces 25 = .ok (.iload_n 2, 1) := by decide +kernel
theorem dX6_layPieces_26 : decode cX6_layPieces 26 = .ok (.aload_n 0, 1) := by decide +kernel
theorem dX6_layPieces_27 : decode cX6_layPieces 27 = .ok (.getfield 38, 3) := by decide +kernel
theorem dX6_layPieces_30 : decode cX6_layPieces 30 = .ok (.if_icmp .ge 70, 3) := by decide +kernel
theorem dX6_layPieces_33 : decode cX6_layPieces 33 = .ok (.iload_n 2, 1) := by decide +kernel
theorem dX6_layPieces_34 : decode cX6_layPieces 34 = .ok (.istore_n 3, 1) := by decide +kernel
theorem dX6_layPieces_35 : decode cX6_layPieces 35 = .ok (.iconst 0, 1) := by decide +kernel
theorem dX6_layPieces_36 : decode cX6_layPieces 36 = .ok (.istore 4, 2) := by decide +kernel
theorem dX6_layPieces_38 : decode cX6_layPieces 38 = .ok (.iload_n 3, 1) := by decide +kernel
theorem dX6_layPieces_39 : decode cX6_layPieces 39 = .ok (.ifCond .lt 45, 3) := by decide +kernel
theorem dX6_layPieces_42 : decode cX6_layPieces 42 = .ok (.iload_n 3, 1) := by decide +kernel
theorem dX6_layPieces_43 : decode cX6_layPieces 43 = .ok (.aload_n 0, 1) := by decide +kernel
theorem dX6_layPieces_44 : decode cX6_layPieces 44 = .ok (.getfield 38, 3) := by decide +kernel
theorem dX6_layPieces_47 : decode cX6_layPieces 47 = .ok (.if_icmp .ge 37, 3) := by decide +kernel
theorem dX6_layPieces_50 : decode cX6_layPieces 50 = .ok (.iload 4, 2) := by decide +kernel
theorem dX6_layPieces_52 : decode cX6_layPieces 52 = .ok (.aload_n 0, 1) := by decide +kernel
theorem dX6_layPieces_53 : decode cX6_layPieces 53 = .ok (.getfield 38, 3) := by decide +kernel
theorem dX6_layPieces_56 : decode cX6_layPieces 56 = .ok (.if_icmp .ge 28, 3) := by decide +kernel
theorem dX6_layPieces_59 : decode cX6_layPieces 59 = .ok (.aload_n 0, 1) := by decide +kernel
theorem dX6_layPieces_60 : decode cX6_layPieces 60 = .ok (.getfield 9, 3) := by decide +kernel
theorem dX6_layPieces_63 : decode cX6_layPieces 63 = .ok (.iload_n 3, 1) := by decide +kernel
theorem dX6_layPieces_64 : decode cX6_layPieces 64 = .ok (.dup2, 1) := by decide +kernel
theorem dX6_layPieces_65 : decode cX6_layPieces 65 = .ok (.iaload, 1) := by decide +kernel
theorem dX6_layPieces_66 : decode cX6_layPieces 66 = .ok (.iconst 1, 1) := by decide +kernel
theorem dX6_layPieces_67 : decode cX6_layPieces 67 = .ok (.iload_n 2, 1) := by decide +kernel
theorem dX6_layPieces_68 : decode cX6_layPieces 68 = .ok (.ishl, 1) := by decide +kernel
theorem dX6_layPieces_69 : decode cX6_layPieces 69 = .ok (.ior, 1) := by decide +kernel
theorem dX6_layPieces_70 : decode cX6_layPieces 70 = .ok (.iastore, 1) := by decide +kernel
theorem dX6_layPieces_71 : decode cX6_layPieces 71 = .ok (.aload_n 1, 1) := by decide +kernel
theorem dX6_layPieces_72 : decode cX6_layPieces 72 = .ok (.getfield 59, 3) := by decide +kernel
theorem dX6_layPieces_75 : decode cX6_layPieces 75 = .ok (.iload_n 3, 1) := by decide +kernel
theorem dX6_layPieces_76 : decode cX6_layPieces 76 = .ok (.iaload, 1) := by decide +kernel
theorem dX6_layPieces_77 : decode cX6_layPieces 77 = .ok (.istore_n 3, 1) := by decide +kernel
theorem dX6_layPieces_78 : decode cX6_layPieces 78 = .ok (.iinc 4 1, 3) := by decide +kernel
theorem dX6_layPieces_81 : decode cX6_layPieces 81 = .ok (.goto (-43), 3) := by decide +kernel
theorem dX6_layPieces_84 : decode cX6_layPieces 84 = .ok (.aload_n 0, 1) := by decide +kernel
theorem dX6_layPieces_85 : decode cX6_layPieces 85 = .ok (.getfield 15, 3) := by decide +kernel
theorem dX6_layPieces_88 : decode cX6_layPieces 88 = .ok (.iload_n 2, 1) := by decide +kernel
theorem dX6_layPieces_89 : decode cX6_layPieces 89 = .ok (.iload 4, 2) := by decide +kernel
theorem dX6_layPieces_91 : decode cX6_layPieces 91 = .ok (.iconst 1, 1) := by decide +kernel
theorem dX6_layPieces_92 : decode cX6_layPieces 92 = .ok (.isub, 1) := by decide +kernel
theorem dX6_layPieces_93 : decode cX6_layPieces 93 = .ok (.iastore, 1) := by decide +kernel
theorem dX6_layPieces_94 : decode cX6_layPieces 94 = .ok (.iinc 2 1, 3) := by decide +kernel
theorem dX6_layPieces_97 : decode cX6_layPieces 97 = .ok (.goto (-72), 3) := by decide +kernel
theorem dX6_layPieces_100 : decode cX6_layPieces 100 = .ok (.return_, 1) := by decide +kernel
theorem dX6_openOn_0 : decode cX6_openOn 0 = .ok (.iconst 0, 1) := by decide +kernel
theorem dX6_openOn_1 : decode cX6_openOn 1 = .ok (.istore_n 3, 1) := by decide +kernel
theorem dX6_openOn_2 : decode cX6_openOn 2 = .ok (.iconst 0, 1) := by decide +kernel
theorem dX6_openOn_3 : decode cX6_openOn 3 = .ok (.istore 4, 2) := by decide +kernel
theorem dX6_openOn_5 : decode cX6_openOn 5 = .ok (.iload 4, 2) := by decide +kernel
theorem dX6_openOn_7 : decode cX6_openOn 7 = .ok (.aload_n 0, 1) := by decide +kernel
theorem dX6_openOn_8 : decode cX6_openOn 8 = .ok (.getfield 38, 3) := by decide +kernel
theorem dX6_openOn_11 : decode cX6_openOn 11 = .ok (.if_icmp .ge 27, 3) := by decide +kernel
theorem dX6_openOn_14 : decode cX6_openOn 14 = .ok (.aload_n 0, 1) := by decide +kernel
theorem dX6_openOn_15 : decode cX6_openOn 15 = .ok (.iload 4, 2) := by decide +kernel
theorem dX6_openOn_17 : decode cX6_openOn 17 = .ok (.iload_n 1, 1) := by decide +kernel
theorem dX6_openOn_18 : decode cX6_openOn 18 = .ok (.iload_n 2, 1) := by decide +kernel
theorem dX6_openOn_19 : decode cX6_openOn 19 = .ok (.invokevirtual 136, 3) := by decide +kernel
theorem dX6_openOn_22 : decode cX6_openOn 22 = .ok (.ifCond .ne 10, 3) := by decide +kernel
theorem dX6_openOn_25 : decode cX6_openOn 25 = .ok (.iload_n 3, 1) := by decide +kernel
theorem dX6_openOn_26 : decode cX6_openOn 26 = .ok (.iconst 1, 1) := by decide +kernel
theorem dX6_openOn_27 : decode cX6_openOn 27 = .ok (.iload 4, 2) := by decide +kernel
theorem dX6_openOn_29 : decode cX6_openOn 29 = .ok (.ishl, 1) := by decide +kernel
theorem dX6_openOn_30 : decode cX6_openOn 30 = .ok (.ior, 1) := by decide +kernel
theorem dX6_openOn_31 : decode cX6_openOn 31 = .ok (.istore_n 3, 1) := by decide +kernel
theorem dX6_openOn_32 : decode cX6_openOn 32 = .ok (.iinc 4 1, 3) := by decide +kernel
theorem dX6_openOn_35 : decode cX6_openOn 35 = .ok (.goto (-30), 3) := by decide +kernel
theorem dX6_openOn_38 : decode cX6_openOn 38 = .ok (.iload_n 3, 1) := by decide +kernel
theorem dX6_openOn_39 : decode cX6_openOn 39 = .ok (.ireturn, 1) := by decide +kernel
theorem dX6_bestToLift_0 : decode cX6_bestToLift 0 = .ok (.iconst 0, 1) := by decide +kernel
theorem dX6_bestToLift_1 : decode cX6_bestToLift 1 = .ok (.istore 4, 2) := by decide +kernel
theorem dX6_bestToLift_3 : decode cX6_bestToLift 3 = .ok (.iload 4, 2) := by decide +kernel
theorem dX6_bestToLift_5 : decode cX6_bestToLift 5 = .ok (.aload_n 0, 1) := by decide +kernel
theorem dX6_bestToLift_6 : decode cX6_bestToLift 6 = .ok (.getfield 38, 3) := by decide +kernel
theorem dX6_bestToLift_9 : decode cX6_bestToLift 9 = .ok (.if_icmp .ge 24, 3) := by decide +kernel
theorem dX6_bestToLift_12 : decode cX6_bestToLift 12 = .ok (.aload_n 0, 1) := by decide +kernel
theorem dX6_bestToLift_13 : decode cX6_bestToLift 13 = .ok (.getfield 26, 3) := by decide +kernel
theorem dX6_bestToLift_16 : decode cX6_bestToLift 16 = .ok (.iload 4, 2) := by decide +kernel
theorem dX6_bestToLift_18 : decode cX6_bestToLift 18 = .ok (.aload_n 0, 1) := by decide +kernel
theorem dX6_bestToLift_19 : decode cX6_bestToLift 19 = .ok (.iload 4, 2) := by decide +kernel
theorem dX6_bestToLift_21 : decode cX6_bestToLift 21 = .ok (.iload_n 1, 1) := by decide +kernel
theorem dX6_bestToLift_22 : decode cX6_bestToLift 22 = .ok (.iload_n 2, 1) := by decide +kernel
theorem dX6_bestToLift_23 : decode cX6_bestToLift 23 = .ok (.invokevirtual 136, 3) := by decide +kernel
theorem dX6_bestToLift_26 : decode cX6_bestToLift 26 = .ok (.iastore, 1) := by decide +kernel
theorem dX6_bestToLift_27 : decode cX6_bestToLift 27 = .ok (.iinc 4 1, 3) := by decide +kernel
theorem dX6_bestToLift_30 : decode cX6_bestToLift 30 = .ok (.goto (-27), 3) := by decide +kernel
theorem dX6_bestToLift_33 : decode cX6_bestToLift 33 = .ok (.iconst 0, 1) := by decide +kernel
theorem dX6_bestToLift_34 : decode cX6_bestToLift 34 = .ok (.istore 4, 2) := by decide +kernel
theorem dX6_bestToLift_36 : decode cX6_bestToLift 36 = .ok (.aload_n 0, 1) := by decide +kernel
theorem dX6_bestToLift_37 : decode cX6_bestToLift 37 = .ok (.iconst 0, 1) := by decide +kernel
theorem dX6_bestToLift_38 : decode cX6_bestToLift 38 = .ok (.invokevirtual 146, 3) := by decide +kernel
theorem dX6_bestToLift_41 : decode cX6_bestToLift 41 = .ok (.istore 5, 2) := by decide +kernel
theorem dX6_bestToLift_43 : decode cX6_bestToLift 43 = .ok (.iconst 1, 1) := by decide +kernel
theorem dX6_bestToLift_44 : decode cX6_bestToLift 44 = .ok (.istore 6, 2) := by decide +kernel
theorem dX6_bestToLift_46 : decode cX6_bestToLift 46 = .ok (.iload 6, 2) := by decide +kernel
theorem dX6_bestToLift_48 : decode cX6_bestToLift 48 = .ok (.iload_n 3, 1) := by decide +kernel
theorem dX6_bestToLift_49 : decode cX6_bestToLift 49 = .ok (.if_icmp .gt 75, 3) := by decide +kernel
theorem dX6_bestToLift_52 : decode cX6_bestToLift 52 = .ok (.iconst 1, 1) := by decide +kernel
theorem dX6_bestToLift_53 : decode cX6_bestToLift 53 = .ok (.iload 6, 2) := by decide +kernel
theorem dX6_bestToLift_55 : decode cX6_bestToLift 55 = .ok (.ishl, 1) := by decide +kernel
theorem dX6_bestToLift_56 : decode cX6_bestToLift 56 = .ok (.iconst 1, 1) := by decide +kernel
theorem dX6_bestToLift_57 : decode cX6_bestToLift 57 = .ok (.isub, 1) := by decide +kernel
theorem dX6_bestToLift_58 : decode cX6_bestToLift 58 = .ok (.istore 7, 2) := by decide +kernel
theorem dX6_bestToLift_60 : decode cX6_bestToLift 60 = .ok (.iconst 0, 1) := by decide +kernel
theorem dX6_bestToLift_61 : decode cX6_bestToLift 61 = .ok (.istore 8, 2) := by decide +kernel
theorem dX6_bestToLift_63 : decode cX6_bestToLift 63 = .ok (.iload 8, 2) := by decide +kernel
theorem dX6_bestToLift_65 : decode cX6_bestToLift 65 = .ok (.sipush 220, 3) := by decide +kernel
theorem dX6_bestToLift_68 : decode cX6_bestToLift 68 = .ok (.if_icmp .ge 50, 3) := by decide +kernel
theorem dX6_bestToLift_71 : decode cX6_bestToLift 71 = .ok (.iload 7, 2) := by decide +kernel
theorem dX6_bestToLift_73 : decode cX6_bestToLift 73 = .ok (.iconst 1, 1) := by decide +kernel
theorem dX6_bestToLift_74 : decode cX6_bestToLift 74 = .ok (.aload_n 0, 1) := by decide +kernel
theorem dX6_bestToLift_75 : decode cX6_bestToLift 75 = .ok (.getfield 42, 3) := by decide +kernel
theorem dX6_bestToLift_78 : decode cX6_bestToLift 78 = .ok (.ishl, 1) := by decide +kernel
theorem dX6_bestToLift_79 : decode cX6_bestToLift 79 = .ok (.if_icmp .ge 39, 3) := by decide +kernel
theorem dX6_bestToLift_82 : decode cX6_bestToLift 82 = .ok (.aload_n 0, 1) := by decide +kernel
theorem dX6_bestToLift_83 : decode cX6_bestToLift 83 = .ok (.iload 7, 2) := by decide +kernel
theorem dX6_bestToLift_85 : decode cX6_bestToLift 85 = .ok (.invokevirtual 146, 3) := by decide +kernel
theorem dX6_bestToLift_88 : decode cX6_bestToLift 88 = .ok (.istore 9, 2) := by decide +kernel
theorem dX6_bestToLift_90 : decode cX6_bestToLift 90 = .ok (.iload 9, 2) := by decide +kernel
theorem dX6_bestToLift_92 : decode cX6_bestToLift 92 = .ok (.iload 5, 2) := by decide +kernel
theorem dX6_bestToLift_94 : decode cX6_bestToLift 94 = .ok (.if_icmp .le 11, 3) := by decide +kernel
theorem dX6_bestToLift_97 : decode cX6_bestToLift 97 = .ok (.iload 9, 2) := by decide +kernel
theorem dX6_bestToLift_99 : decode cX6_bestToLift 99 = .ok (.istore 5, 2) := by decide +kernel
theorem dX6_bestToLift_101 : decode cX6_bestToLift 101 = .ok (.iload 7, 2) := by decide +kernel
theorem dX6_bestToLift_103 : decode cX6_bestToLift 103 = .ok (.istore 4, 2) := by decide +kernel
theorem dX6_bestToLift_105 : decode cX6_bestToLift 105 = .ok (.iload 7, 2) := by decide +kernel
theorem dX6_bestToLift_107 : decode cX6_bestToLift 107 = .ok (.invokestatic 149, 3) := by decide +kernel
theorem dX6_bestToLift_110 : decode cX6_bestToLift 110 = .ok (.istore 7, 2) := by decide +kernel
theorem dX6_bestToLift_112 : decode cX6_bestToLift 112 = .ok (.iinc 8 1, 3) := by decide +kernel
theorem dX6_bestToLift_115 : decode cX6_bestToLift 115 = .ok (.goto (-52), 3) := by decide +kernel
theorem dX6_bestToLift_118 : decode cX6_bestToLift 118 = .ok (.iinc 6 1, 3) := by decide +kernel
theorem dX6_bestToLift_121 : decode cX6_bestToLift 121 = .ok (.goto (-75), 3) := by decide +kernel
theorem dX6_bestToLift_124 : decode cX6_bestToLift 124 = .ok (.iload 4, 2) := by decide +kernel
theorem dX6_bestToLift_126 : decode cX6_bestToLift 126 = .ok (.ireturn, 1) := by decide +kernel
theorem dX6_openWhenGone_0 : decode cX6_openWhenGone 0 = .ok (.iconst 0, 1) := by decide +kernel
theorem dX6_openWhenGone_1 : decode cX6_openWhenGone 1 = .ok (.istore_n 2, 1) := by decide +kernel
theorem dX6_openWhenGone_2 : decode cX6_openWhenGone 2 = .ok (.iconst 0, 1) := by decide +kernel
theorem dX6_openWhenGone_3 : decode cX6_openWhenGone 3 = .ok (.istore_n 3, 1) := by decide +kernel
theorem dX6_openWhenGone_4 : decode cX6_openWhenGone 4 = .ok (.iload_n 3, 1) := by decide +kernel
theorem dX6_openWhenGone_5 : decode cX6_openWhenGone 5 = .ok (.aload_n 0, 1) := by decide +kernel
theorem dX6_openWhenGone_6 : decode cX6_openWhenGone 6 = .ok (.getfield 38, 3) := by decide +kernel
theorem dX6_openWhenGone_9 : decode cX6_openWhenGone 9 = .ok (.if_icmp .ge 25, 3) := by decide +kernel
theorem dX6_openWhenGone_12 : decode cX6_openWhenGone 12 = .ok (.aload_n 0, 1) := by decide +kernel
theorem dX6_openWhenGone_13 : decode cX6_openWhenGone 13 = .ok (.getfield 26, 3) := by decide +kernel
theorem dX6_openWhenGone_16 : decode cX6_openWhenGone 16 = .ok (.iload_n 3, 1) := by decide +kernel
theorem dX6_openWhenGone_17 : decode cX6_openWhenGone 17 = .ok (.iaload, 1) := by decide +kernel
theorem dX6_openWhenGone_18 : decode cX6_openWhenGone 18 = .ok (.iload_n 1, 1) := by decide +kernel
theorem dX6_openWhenGone_19 : decode cX6_openWhenGone 19 = .ok (.iconst (-1), 1) := by decide +kernel
theorem dX6_openWhenGone_20 : decode cX6_openWhenGone 20 = .ok (.ixor, 1) := by decide +kernel
theorem dX6_openWhenGone_21 : decode cX6_openWhenGone 21 = .ok (.iand, 1) := by decide +kernel
theorem dX6_openWhenGone_22 : decode cX6_openWhenGone 22 = .ok (.ifCond .ne 6, 3) := by decide +kernel
theorem dX6_openWhenGone_25 : decode cX6_openWhenGone 25 = .ok (.iinc 2 1, 3) := by decide +kernel
theorem dX6_openWhenGone_28 : decode cX6_openWhenGone 28 = .ok (.iinc 3 1, 3) := by decide +kernel
theorem dX6_openWhenGone_31 : decode cX6_openWhenGone 31 = .ok (.goto (-27), 3) := by decide +kernel
theorem dX6_openWhenGone_34 : decode cX6_openWhenGone 34 = .ok (.iload_n 2, 1) := by decide +kernel
theorem dX6_openWhenGone_35 : decode cX6_openWhenGone 35 = .ok (.ireturn, 1) := by decide +kernel
theorem dJ6_bitCount_0f7a4_0 : decode cJ6_bitCount_0f7a4 0 = .ok (.iload_n 0, 1) := by decide +kernel
theorem dJ6_bitCount_0f7a4_1 : decode cJ6_bitCount_0f7a4 1 = .ok (.iload_n 0, 1) := by decide +kernel
theorem dJ6_bitCount_0f7a4_2 : decode cJ6_bitCount_0f7a4 2 = .ok (.iconst 1, 1) := by decide +kernel
theorem dJ6_bitCount_0f7a4_3 : decode cJ6_bitCount_0f7a4 3 = .ok (.iushr, 1) := by decide +kernel
theorem dJ6_bitCount_0f7a4_4 : decode cJ6_bitCount_0f7a4 4 = .ok (.ldc_w 265, 3) := by decide +kernel
theorem dJ6_bitCount_0f7a4_7 : decode cJ6_bitCount_0f7a4 7 = .ok (.iand, 1) := by decide +kernel
theorem dJ6_bitCount_0f7a4_8 : decode cJ6_bitCount_0f7a4 8 = .ok (.isub, 1) := by decide +kernel
theorem dJ6_bitCount_0f7a4_9 : decode cJ6_bitCount_0f7a4 9 = .ok (.istore_n 0, 1) := by decide +kernel
theorem dJ6_bitCount_0f7a4_10 : decode cJ6_bitCount_0f7a4 10 = .ok (.iload_n 0, 1) := by decide +kernel
theorem dJ6_bitCount_0f7a4_11 : decode cJ6_bitCount_0f7a4 11 = .ok (.ldc_w 266, 3) := by decide +kernel
theorem dJ6_bitCount_0f7a4_14 : decode cJ6_bitCount_0f7a4 14 = .ok (.iand, 1) := by decide +kernel
theorem dJ6_bitCount_0f7a4_15 : decode cJ6_bitCount_0f7a4 15 = .ok (.iload_n 0, 1) := by decide +kernel
theorem dJ6_bitCount_0f7a4_16 : decode cJ6_bitCount_0f7a4 16 = .ok (.iconst 2, 1) := by decide +kernel
theorem dJ6_bitCount_0f7a4_17 : decode cJ6_bitCount_0f7a4 17 = .ok (.iushr, 1) := by decide +kernel
theorem dJ6_bitCount_0f7a4_18 : decode cJ6_bitCount_0f7a4 18 = .ok (.ldc_w 266, 3) := by decide +kernel
theorem dJ6_bitCount_0f7a4_21 : decode cJ6_bitCount_0f7a4 21 = .ok (.iand, 1) := by decide +kernel
theorem dJ6_bitCount_0f7a4_22 : decode cJ6_bitCount_0f7a4 22 = .ok (.iadd, 1) := by decide +kernel
theorem dJ6_bitCount_0f7a4_23 : decode cJ6_bitCount_0f7a4 23 = .ok (.istore_n 0, 1) := by decide +kernel
theorem dJ6_bitCount_0f7a4_24 : decode cJ6_bitCount_0f7a4 24 = .ok (.iload_n 0, 1) := by decide +kernel
theorem dJ6_bitCount_0f7a4_25 : decode cJ6_bitCount_0f7a4 25 = .ok (.iload_n 0, 1) := by decide +kernel
theorem dJ6_bitCount_0f7a4_26 : decode cJ6_bitCount_0f7a4 26 = .ok (.iconst 4, 1) := by decide +kernel
theorem dJ6_bitCount_0f7a4_27 : decode cJ6_bitCount_0f7a4 27 = .ok (.iushr, 1) := by decide +kernel
theorem dJ6_bitCount_0f7a4_28 : decode cJ6_bitCount_0f7a4 28 = .ok (.iadd, 1) := by decide +kernel
theorem dJ6_bitCount_0f7a4_29 : decode cJ6_bitCount_0f7a4 29 = .ok (.ldc_w 267, 3) := by decide +kernel
theorem dJ6_bitCount_0f7a4_32 : decode cJ6_bitCount_0f7a4 32 = .ok (.iand, 1) := by decide +kernel
theorem dJ6_bitCount_0f7a4_33 : decode cJ6_bitCount_0f7a4 33 = .ok (.istore_n 0, 1) := by decide +kernel
theorem dJ6_bitCount_0f7a4_34 : decode cJ6_bitCount_0f7a4 34 = .ok (.iload_n 0, 1) := by decide +kernel
theorem dJ6_bitCount_0f7a4_35 : decode cJ6_bitCount_0f7a4 35 = .ok (.iload_n 0, 1) := by decide +kernel
theorem dJ6_bitCount_0f7a4_36 : decode cJ6_bitCount_0f7a4 36 = .ok (.bipush 8, 2) := by decide +kernel
theorem dJ6_bitCount_0f7a4_38 : decode cJ6_bitCount_0f7a4 38 = .ok (.iushr, 1) := by decide +kernel
theorem dJ6_bitCount_0f7a4_39 : decode cJ6_bitCount_0f7a4 39 = .ok (.iadd, 1) := by decide +kernel
theorem dJ6_bitCount_0f7a4_40 : decode cJ6_bitCount_0f7a4 40 = .ok (.istore_n 0, 1) := by decide +kernel
theorem dJ6_bitCount_0f7a4_41 : decode cJ6_bitCount_0f7a4 41 = .ok (.iload_n 0, 1) := by decide +kernel
theorem dJ6_bitCount_0f7a4_42 : decode cJ6_bitCount_0f7a4 42 = .ok (.iload_n 0, 1) := by decide +kernel
theorem dJ6_bitCount_0f7a4_43 : decode cJ6_bitCount_0f7a4 43 = .ok (.bipush 16, 2) := by decide +kernel
theorem dJ6_bitCount_0f7a4_45 : decode cJ6_bitCount_0f7a4 45 = .ok (.iushr, 1) := by decide +kernel
theorem dJ6_bitCount_0f7a4_46 : decode cJ6_bitCount_0f7a4 46 = .ok (.iadd, 1) := by decide +kernel
theorem dJ6_bitCount_0f7a4_47 : decode cJ6_bitCount_0f7a4 47 = .ok (.istore_n 0, 1) := by decide +kernel
theorem dJ6_bitCount_0f7a4_48 : decode cJ6_bitCount_0f7a4 48 = .ok (.iload_n 0, 1) := by decide +kernel
theorem dJ6_bitCount_0f7a4_49 : decode cJ6_bitCount_0f7a4 49 = .ok (.bipush 63, 2) := by decide +kernel
theorem dJ6_bitCount_0f7a4_51 : decode cJ6_bitCount_0f7a4 51 = .ok (.iand, 1) := by decide +kernel
theorem dJ6_bitCount_0f7a4_52 : decode cJ6_bitCount_0f7a4 52 = .ok (.ireturn, 1) := by decide +kernel
theorem qw_235 : (Cond.fieldLink RX1 45 "ClosedUntil$Holdings" "people" "I" : Cond) ∈ TBL := List.mem_of_getElem? (i := 223) (by decide +kernel)
theorem qw_236 : (Cond.fieldLink RX1 52 "ClosedUntil$Holdings" "pieces" "I" : Cond) ∈ TBL := List.mem_of_getElem? (i := 225) (by decide +kernel)
theorem qw_237 : (Cond.fieldLink RX1 55 "ClosedUntil$Holdings" "closures" "I" : Cond) ∈ TBL := List.mem_of_getElem? (i := 226) (by decide +kernel)
theorem qw_238 : (Cond.fieldLink RX6 38 "ClosedUntil$Timetable" "pieces" "I" : Cond) ∈ TBL := List.mem_of_getElem? (i := 560) (by decide +kernel)
theorem qw_239 : (Cond.fieldLink RX6 42 "ClosedUntil$Timetable" "closures" "I" : Cond) ∈ TBL := List.mem_of_getElem? (i := 561) (by decide +kernel)
theorem qw_240 : (Cond.code yX6_layPieces cX6_layPieces 5 none : Cond) ∈ TBL := List.mem_of_getElem? (i := 565) (by decide +kernel)
theorem qw_241 : (Cond.methodLink RX6 43 yX6_layPieces : Cond) ∈ TBL := List.mem_of_getElem? (i := 562) (by decide +kernel)
theorem qw_242 : (Cond.instanceMethod yX6_layPieces : Cond) ∈ TBL := List.mem_of_getElem? (i := 563) (by decide +kernel)
theorem qw_243 : (Cond.selects RX6 yX6_layPieces yX6_layPieces : Cond) ∈ TBL := List.mem_of_getElem? (i := 564) (by decide +kernel)
theorem qw_244 : (Cond.code yX6_openWhenGone cX6_openWhenGone 4 (some .int) : Cond) ∈ TBL := List.mem_of_getElem? (i := 845) (by decide +kernel)
theorem qw_245 : (Cond.methodLink RX6 146 yX6_openWhenGone : Cond) ∈ TBL := List.mem_of_getElem? (i := 842) (by decide +kernel)
theorem qw_246 : (Cond.instanceMethod yX6_openWhenGone : Cond) ∈ TBL := List.mem_of_getElem? (i := 843) (by decide +kernel)
theorem qw_247 : (Cond.selects RX6 yX6_openWhenGone yX6_openWhenGone : Cond) ∈ TBL := List.mem_of_getElem? (i := 844) (by decide +kernel)
theorem qw_248 : (Cond.constant RJ6 265 (1431655765) : Cond) ∈ TBL := List.mem_of_getElem? (i := 868) (by decide +kernel)
theorem qw_249 : (Cond.constant RJ6 266 (858993459) : Cond) ∈ TBL := List.mem_of_getElem? (i := 869) (by decide +kernel)
theorem qw_250 : (Cond.constant RJ6 267 (252645135) : Cond) ∈ TBL := List.mem_of_getElem? (i := 870) (by decide +kernel)
set_option maxHeartbeats 4000000 in
set_option maxRecDepth 100000 in
theorem c_hPe (l : Launch) (dC : Nat → ClassId) (dI : Nat → Nat → Nat) (g : Gv) (h0 : Nat) (f1 : Nat → Nat) (pa : Int32)  : Met l yX1_hasPerson (.code yX1_hasPerson cX1_hasPerson 2 (some .boolean) :: TBL) ({ frames := 0, cells := 0, slots := 0, locals := 0 }) (va_Pc [.ref h0, .int pa] (fun U => va_P (dC, dI) vwCl [(h0, .inr (0, [.int 0, .ref (f1 1), .int 0, .ref (f1 3), .int 0, .ref (f1 5), .ref (f1 6), .ref (f1 7), .int 0, .ref (f1 9), .ref (f1 10), .ref (f1 11), .ref (f1 12), .ref (f1 13)]))] U.heap ∧ va_K (dC, dI) vwCl [] U ∧ Ev g (fun _ => False) U)) (vp_Si (fun r => r = 0)) 0 0 (fun _ => False) := by
  refine Met.ofW (cc := cX1_hasPerson) (maxL := 2) (ret := (some .boolean)) (by decide) rfl ?_
  intro p e s m args below meth c s₁ B hml hv
  obtain ⟨rfl, hP, hK, hE⟩ := hv
  have hx := B.exec
  have hb := B.bytes
  have hr := B.returns
  have hts0 := atoms_spec (ws := (.code yX1_hasPerson cX1_hasPerson 2 (some .boolean) :: TBL)) B.pre
  have hts := fun (w : Cond) (h : w ∈ TBL) => hts0 w (List.mem_cons_of_mem _ h)
  have hown : s.vm.findClass RX1 = some m.cls := findClass_of_methodNamed B.named
  have hlocks := B.notSynchronized
  have hN := hE.1
  have hS : va_S (fun _ => False) s.heap s.heap [] := va_S.rf
  have hP : va_P (dC, dI) vwCl [(h0, .inr (0, [.int 0, .ref (f1 1), .int 0, .ref (f1 3), .int 0, .ref (f1 5), .ref (f1 6), .ref (f1 7), .int 0, .ref (f1 9), .ref (f1 10), .ref (f1 11), .ref (f1 12), .ref (f1 13)]))] s.heap := hP
  have hl := lv_entry ([.ref h0, .int pa]) (n := 2) (Nat.le_of_ble_eq_true rfl)
  rw [lg_entry_eq]
  generalize (lg_sl ([.ref h0, .int pa]) ++ List.replicate (2 - (lg_sl ([.ref h0, .int pa])).length) Slot.unset).toArray = ls at hl ⊢
  have hl : lv_has ls 2 [(0, .ref h0), (1, .int pa)] := hl
  refine lv_iload_n hx hb dX1_hasPerson_0 rfl (lv_at hl 1 rfl) ?_
  refine lv_if_lt (tgt := 16) hx hb dX1_hasPerson_1 (by decide) (fun c1_1 => ?_) (fun c1_1 => ?_)
  · have c1_1 : pa.toInt < 0 := (cv_lt rfl (by decide)).mp c1_1
    refine lv_iconst (v := 0) hx hb dX1_hasPerson_16 (by decide) ?_
    exact W.zret (v := 0) hx hb hr rfl (fun t ht hW => ⟨0, rfl, (rfl), ht⟩) (fun _ h => absurd h List.not_mem_nil) dX1_hasPerson_17
  · have c1_1 : ¬ (pa.toInt < 0) := mt (cv_lt rfl (by decide)).mpr c1_1
    refine lv_iload_n hx hb dX1_hasPerson_4 rfl (lv_at hl 1 rfl) ?_
    refine lv_aload_n hx hb dX1_hasPerson_5 rfl (lv_at hl 0 rfl) ?_
    refine va_get (D := (dC, dI)) (ci := 0) (v := .int 0) (C := RX1) (T := TX1) (N := 14) hx hb hts inlX1 hown hK hP 0 rfl rfl 0 (by decide) (hts (.fieldLink RX1 45 "ClosedUntil$Holdings" "people" "I") qw_235) (fun _ h9 => h9) rfl dX1_hasPerson_6 ?_
    refine lv_icmp_ge (tgt := 16) hx hb dX1_hasPerson_9 (by decide) (fun c9_2 => ?_) (fun c9_2 => by exfalso; have c9_2 : ¬ (0 ≤ pa.toInt) := mt (cv_le (by decide) rfl).mpr c9_2; omega)
    have c9_2 : 0 ≤ pa.toInt := (cv_le (by decide) rfl).mp c9_2
    refine lv_iconst (v := 0) hx hb dX1_hasPerson_16 (by decide) ?_
    exact W.zret (v := 0) hx hb hr rfl (fun t ht hW => ⟨0, rfl, (rfl), ht⟩) (fun _ h => absurd h List.not_mem_nil) dX1_hasPerson_17
set_option maxHeartbeats 4000000 in
set_option maxRecDepth 100000 in
theorem c_hPi (l : Launch) (dC : Nat → ClassId) (dI : Nat → Nat → Nat) (g : Gv) (h0 : Nat) (f1 : Nat → Nat) (pa : Int32)  : Met l yX1_hasPiece (.code yX1_hasPiece cX1_hasPiece 2 (some .boolean) :: TBL) ({ frames := 0, cells := 0, slots := 0, locals := 0 }) (va_Pc [.ref h0, .int pa] (fun U => va_P (dC, dI) vwCl [(h0, .inr (0, [.int 0, .ref (f1 1), .int 0, .ref (f1 3), .int 0, .ref (f1 5), .ref (f1 6), .ref (f1 7), .int 0, .ref (f1 9), .ref (f1 10), .ref (f1 11), .ref (f1 12), .ref (f1 13)]))] U.heap ∧ va_K (dC, dI) vwCl [] U ∧ Ev g (fun _ => False) U)) (vp_Si (fun r => r = 0)) 0 0 (fun _ => False) := by
  refine Met.ofW (cc := cX1_hasPiece) (maxL := 2) (ret := (some .boolean)) (by decide) rfl ?_
  intro p e s m args below meth c s₁ B hml hv
  obtain ⟨rfl, hP, hK, hE⟩ := hv
  have hx := B.exec
  have hb := B.bytes
  have hr := B.returns
  have hts0 := atoms_spec (ws := (.code yX1_hasPiece cX1_hasPiece 2 (some .boolean) :: TBL)) B.pre
  have hts := fun (w : Cond) (h : w ∈ TBL) => hts0 w (List.mem_cons_of_mem _ h)
  have hown : s.vm.findClass RX1 = some m.cls := findClass_of_methodNamed B.named
  have hlocks := B.notSynchronized
  have hN := hE.1
  have hS : va_S (fun _ => False) s.heap s.heap [] := va_S.rf
  have hP : va_P (dC, dI) vwCl [(h0, .inr (0, [.int 0, .ref (f1 1), .int 0, .ref (f1 3), .int 0, .ref (f1 5), .ref (f1 6), .ref (f1 7), .int 0, .ref (f1 9), .ref (f1 10), .ref (f1 11), .ref (f1 12), .ref (f1 13)]))] s.heap := hP
  have hl := lv_entry ([.ref h0, .int pa]) (n := 2) (Nat.le_of_ble_eq_true rfl)
  rw [lg_entry_eq]
  generalize (lg_sl ([.ref h0, .int pa]) ++ List.replicate (2 - (lg_sl ([.ref h0, .int pa])).length) Slot.unset).toArray = ls at hl ⊢
  have hl : lv_has ls 2 [(0, .ref h0), (1, .int pa)] := hl
  refine lv_iload_n hx hb dX1_hasPiece_0 rfl (lv_at hl 1 rfl) ?_
  refine lv_if_lt (tgt := 16) hx hb dX1_hasPiece_1 (by decide) (fun c1_1 => ?_) (fun c1_1 => ?_)
  · have c1_1 : pa.toInt < 0 := (cv_lt rfl (by decide)).mp c1_1
    refine lv_iconst (v := 0) hx hb dX1_hasPiece_16 (by decide) ?_
    exact W.zret (v := 0) hx hb hr rfl (fun t ht hW => ⟨0, rfl, (rfl), ht⟩) (fun _ h => absurd h List.not_mem_nil) dX1_hasPiece_17
  · have c1_1 : ¬ (pa.toInt < 0) := mt (cv_lt rfl (by decide)).mpr c1_1
    refine lv_iload_n hx hb dX1_hasPiece_4 rfl (lv_at hl 1 rfl) ?_
    refine lv_aload_n hx hb dX1_hasPiece_5 rfl (lv_at hl 0 rfl) ?_
    refine va_get (D := (dC, dI)) (ci := 0) (v := .int 0) (C := RX1) (T := TX1) (N := 14) hx hb hts inlX1 hown hK hP 0 rfl rfl 4 (by decide) (hts (.fieldLink RX1 52 "ClosedUntil$Holdings" "pieces" "I") qw_236) (fun _ h9 => h9) rfl dX1_hasPiece_6 ?_
    refine lv_icmp_ge (tgt := 16) hx hb dX1_hasPiece_9 (by decide) (fun c9_2 => ?_) (fun c9_2 => by exfalso; have c9_2 : ¬ (0 ≤ pa.toInt) := mt (cv_le (by decide) rfl).mpr c9_2; omega)
    have c9_2 : 0 ≤ pa.toInt := (cv_le (by decide) rfl).mp c9_2
    refine lv_iconst (v := 0) hx hb dX1_hasPiece_16 (by decide) ?_
    exact W.zret (v := 0) hx hb hr rfl (fun t ht hW => ⟨0, rfl, (rfl), ht⟩) (fun _ h => absurd h List.not_mem_nil) dX1_hasPiece_17
set_option maxHeartbeats 4000000 in
set_option maxRecDepth 100000 in
theorem c_hCl (l : Launch) (dC : Nat → ClassId) (dI : Nat → Nat → Nat) (g : Gv) (h0 : Nat) (f1 : Nat → Nat) (pa : Int32)  : Met l yX1_hasClosure (.code yX1_hasClosure cX1_hasClosure 2 (some .boolean) :: TBL) ({ frames := 0, cells := 0, slots := 0, locals := 0 }) (va_Pc [.ref h0, .int pa] (fun U => va_P (dC, dI) vwCl [(h0, .inr (0, [.int 0, .ref (f1 1), .int 0, .ref (f1 3), .int 0, .ref (f1 5), .ref (f1 6), .ref (f1 7), .int 0, .ref (f1 9), .ref (f1 10), .ref (f1 11), .ref (f1 12), .ref (f1 13)]))] U.heap ∧ va_K (dC, dI) vwCl [] U ∧ Ev g (fun _ => False) U)) (vp_Si (fun r => r = 0)) 0 0 (fun _ => False) := by
  refine Met.ofW (cc := cX1_hasClosure) (maxL := 2) (ret := (some .boolean)) (by decide) rfl ?_
  intro p e s m args below meth c s₁ B hml hv
  obtain ⟨rfl, hP, hK, hE⟩ := hv
  have hx := B.exec
  have hb := B.bytes
  have hr := B.returns
  have hts0 := atoms_spec (ws := (.code yX1_hasClosure cX1_hasClosure 2 (some .boolean) :: TBL)) B.pre
  have hts := fun (w : Cond) (h : w ∈ TBL) => hts0 w (List.mem_cons_of_mem _ h)
  have hown : s.vm.findClass RX1 = some m.cls := findClass_of_methodNamed B.named
  have hlocks := B.notSynchronized
  have hN := hE.1
  have hS : va_S (fun _ => False) s.heap s.heap [] := va_S.rf
  have hP : va_P (dC, dI) vwCl [(h0, .inr (0, [.int 0, .ref (f1 1), .int 0, .ref (f1 3), .int 0, .ref (f1 5), .ref (f1 6), .ref (f1 7), .int 0, .ref (f1 9), .ref (f1 10), .ref (f1 11), .ref (f1 12), .ref (f1 13)]))] s.heap := hP
  have hl := lv_entry ([.ref h0, .int pa]) (n := 2) (Nat.le_of_ble_eq_true rfl)
  rw [lg_entry_eq]
  generalize (lg_sl ([.ref h0, .int pa]) ++ List.replicate (2 - (lg_sl ([.ref h0, .int pa])).length) Slot.unset).toArray = ls at hl ⊢
  have hl : lv_has ls 2 [(0, .ref h0), (1, .int pa)] := hl
  refine lv_iload_n hx hb dX1_hasClosure_0 rfl (lv_at hl 1 rfl) ?_
  refine lv_if_lt (tgt := 16) hx hb dX1_hasClosure_1 (by decide) (fun c1_1 => ?_) (fun c1_1 => ?_)
  · have c1_1 : pa.toInt < 0 := (cv_lt rfl (by decide)).mp c1_1
    refine lv_iconst (v := 0) hx hb dX1_hasClosure_16 (by decide) ?_
    exact W.zret (v := 0) hx hb hr rfl (fun t ht hW => ⟨0, rfl, (rfl), ht⟩) (fun _ h => absurd h List.not_mem_nil) dX1_hasClosure_17
  · have c1_1 : ¬ (pa.toInt < 0) := mt (cv_lt rfl (by decide)).mpr c1_1
    refine lv_iload_n hx hb dX1_hasClosure_4 rfl (lv_at hl 1 rfl) ?_
    refine lv_aload_n hx hb dX1_hasClosure_5 rfl (lv_at hl 0 rfl) ?_
    refine va_get (D := (dC, dI)) (ci := 0) (v := .int 0) (C := RX1) (T := TX1) (N := 14) hx hb hts inlX1 hown hK hP 0 rfl rfl 8 (by decide) (hts (.fieldLink RX1 55 "ClosedUntil$Holdings" "closures" "I") qw_237) (fun _ h9 => h9) rfl dX1_hasClosure_6 ?_
    refine lv_icmp_ge (tgt := 16) hx hb dX1_hasClosure_9 (by decide) (fun c9_2 => ?_) (fun c9_2 => by exfalso; have c9_2 : ¬ (0 ≤ pa.toInt) := mt (cv_le (by decide) rfl).mpr c9_2; omega)
    have c9_2 : 0 ≤ pa.toInt := (cv_le (by decide) rfl).mp c9_2
    refine lv_iconst (v := 0) hx hb dX1_hasClosure_16 (by decide) ?_
    exact W.zret (v := 0) hx hb hr rfl (fun t ht hW => ⟨0, rfl, (rfl), ht⟩) (fun _ h => absurd h List.not_mem_nil) dX1_hasClosure_17
set_option maxHeartbeats 4000000 in
set_option maxRecDepth 100000 in
theorem c_hf (l : Launch) (dC : Nat → ClassId) (dI : Nat → Nat → Nat) (g : Gv) (h0 : Nat) (f1 : Nat → Nat) (pa : Int32)  : Met l yX1_holdingFor (.code yX1_holdingFor cX1_holdingFor 4 (some .int) :: TBL) ({ frames := 0, cells := 0, slots := 0, locals := 0 }) (va_Pc [.ref h0, .int pa] (fun U => va_P (dC, dI) vwCl [(h0, .inr (0, [.int 0, .ref (f1 1), .int 0, .ref (f1 3), .int 0, .ref (f1 5), .ref (f1 6), .ref (f1 7), .int 0, .ref (f1 9), .ref (f1 10), .ref (f1 11), .ref (f1 12), .ref (f1 13)]))] U.heap ∧ va_K (dC, dI) vwCl [] U ∧ Ev g (fun _ => False) U)) (vp_Si (fun r => r = 0)) 0 0 (fun _ => False) := by
  refine Met.ofW (cc := cX1_holdingFor) (maxL := 4) (ret := (some .int)) (by decide) rfl ?_
  intro p e s m args below meth c s₁ B hml hv
  obtain ⟨rfl, hP, hK, hE⟩ := hv
  have hx := B.exec
  have hb := B.bytes
  have hr := B.returns
  have hts0 := atoms_spec (ws := (.code yX1_holdingFor cX1_holdingFor 4 (some .int) :: TBL)) B.pre
  have hts := fun (w : Cond) (h : w ∈ TBL) => hts0 w (List.mem_cons_of_mem _ h)
  have hown : s.vm.findClass RX1 = some m.cls := findClass_of_methodNamed B.named
  have hlocks := B.notSynchronized
  have hN := hE.1
  have hS : va_S (fun _ => False) s.heap s.heap [] := va_S.rf
  have hP : va_P (dC, dI) vwCl [(h0, .inr (0, [.int 0, .ref (f1 1), .int 0, .ref (f1 3), .int 0, .ref (f1 5), .ref (f1 6), .ref (f1 7), .int 0, .ref (f1 9), .ref (f1 10), .ref (f1 11), .ref (f1 12), .ref (f1 13)]))] s.heap := hP
  have hl := lv_entry ([.ref h0, .int pa]) (n := 4) (Nat.le_of_ble_eq_true rfl)
  rw [lg_entry_eq]
  generalize (lg_sl ([.ref h0, .int pa]) ++ List.replicate (4 - (lg_sl ([.ref h0, .int pa])).length) Slot.unset).toArray = ls at hl ⊢
  have hl : lv_has ls 4 [(0, .ref h0), (1, .int pa)] := hl
  refine lv_iconst (v := 0) hx hb dX1_holdingFor_0 (by decide) ?_
  refine lv_istore_n (lv' := [(2, .int 0), (0, .ref h0), (1, .int pa)]) hx hb dX1_holdingFor_1 rfl hl (by decide) rfl (fun ls hl => ?_)
  refine lv_iconst (v := 0) hx hb dX1_holdingFor_2 (by decide) ?_
  refine lv_istore_n (lv' := [(3, .int 0), (2, .int 0), (0, .ref h0), (1, .int pa)]) hx hb dX1_holdingFor_3 rfl hl (by decide) rfl (fun ls hl => ?_)
  refine lv_iload_n hx hb dX1_holdingFor_4 rfl (lv_at hl 0 rfl) ?_
  refine lv_aload_n hx hb dX1_holdingFor_5 rfl (lv_at hl 2 rfl) ?_
  refine va_get (D := (dC, dI)) (ci := 0) (v := .int 0) (C := RX1) (T := TX1) (N := 14) hx hb hts inlX1 hown hK hP 0 rfl rfl 8 (by decide) (hts (.fieldLink RX1 55 "ClosedUntil$Holdings" "closures" "I") qw_237) (fun _ h9 => h9) rfl dX1_holdingFor_6 ?_
  refine lv_icmp_ge (tgt := 37) hx hb dX1_holdingFor_9 (by decide) (fun c9_1 => ?_) (fun c9_1 => by exfalso; exact absurd c9_1 (by decide))
  refine lv_iload_n hx hb dX1_holdingFor_37 rfl (lv_at hl 1 rfl) ?_
  exact W.iret (v := 0) hx hb hr (fun t ht hW => ⟨0, rfl, (rfl), ht⟩) (fun _ h => absurd h List.not_mem_nil) dX1_holdingFor_38
set_option maxHeartbeats 4000000 in
set_option maxRecDepth 100000 in
theorem c_lay (l : Launch) (dC : Nat → ClassId) (dI : Nat → Nat → Nat) (g : Gv) (h0 : Nat) (f6 : Nat → Nat) (sa0 : Nat)  : Met l yX6_layPieces (.code yX6_layPieces cX6_layPieces 5 none :: TBL) ({ frames := 0, cells := 0, slots := 0, locals := 0 }) (va_Pc [.ref h0, .ref sa0] (fun U => va_P (dC, dI) vwCl [(h0, .inr (5, [.ref (f6 0), .ref (f6 1), .ref (f6 2), .ref (f6 3), .ref (f6 4), .ref (f6 5), .int 0, .int 0]))] U.heap ∧ va_K (dC, dI) vwCl [] U ∧ Ev g (fun _ => False) U)) (va_Sv (fun _ => True)) 0 0 (fun _ => False) := by
  refine Met.ofW (cc := cX6_layPieces) (maxL := 5) (ret := none) (by decide) rfl ?_
  intro p e s m args below meth c s₁ B hml hv
  obtain ⟨rfl, hP, hK, hE⟩ := hv
  have hx := B.exec
  have hb := B.bytes
  have hr := B.returns
  have hts0 := atoms_spec (ws := (.code yX6_layPieces cX6_layPieces 5 none :: TBL)) B.pre
  have hts := fun (w : Cond) (h : w ∈ TBL) => hts0 w (List.mem_cons_of_mem _ h)
  have hown : s.vm.findClass RX6 = some m.cls := findClass_of_methodNamed B.named
  have hlocks := B.notSynchronized
  have hN := hE.1
  have hS : va_S (fun _ => False) s.heap s.heap [] := va_S.rf
  have hP : va_P (dC, dI) vwCl [(h0, .inr (5, [.ref (f6 0), .ref (f6 1), .ref (f6 2), .ref (f6 3), .ref (f6 4), .ref (f6 5), .int 0, .int 0]))] s.heap := hP
  have hl := lv_entry ([.ref h0, .ref sa0]) (n := 5) (Nat.le_of_ble_eq_true rfl)
  rw [lg_entry_eq]
  generalize (lg_sl ([.ref h0, .ref sa0]) ++ List.replicate (5 - (lg_sl ([.ref h0, .ref sa0])).length) Slot.unset).toArray = ls at hl ⊢
  have hl : lv_has ls 5 [(0, .ref h0), (1, .ref sa0)] := hl
  refine lv_iconst (v := 0) hx hb dX6_layPieces_0 (by decide) ?_
  refine lv_istore_n (lv' := [(2, .int 0), (0, .ref h0), (1, .ref sa0)]) hx hb dX6_layPieces_1 rfl hl (by decide) rfl (fun ls hl => ?_)
  refine lv_iload_n hx hb dX6_layPieces_2 rfl (lv_at hl 0 rfl) ?_
  refine lv_aload_n hx hb dX6_layPieces_3 rfl (lv_at hl 1 rfl) ?_
  refine va_get (D := (dC, dI)) (ci := 5) (v := .int 0) (C := RX6) (T := TX6) (N := 8) hx hb hts inlX6 hown hK hP 0 rfl rfl 6 (by decide) (hts (.fieldLink RX6 38 "ClosedUntil$Timetable" "pieces" "I") qw_238) (fun _ h9 => h9) rfl dX6_layPieces_4 ?_
  refine lv_icmp_ge (tgt := 23) hx hb dX6_layPieces_7 (by decide) (fun c7_1 => ?_) (fun c7_1 => by exfalso; exact absurd c7_1 (by decide))
  refine lv_iconst (v := 0) hx hb dX6_layPieces_23 (by decide) ?_
  refine lv_istore_n (lv' := [(2, .int 0), (0, .ref h0), (1, .ref sa0)]) hx hb dX6_layPieces_24 rfl hl (by decide) rfl (fun ls hl => ?_)
  refine lv_iload_n hx hb dX6_layPieces_25 rfl (lv_at hl 0 rfl) ?_
  refine lv_aload_n hx hb dX6_layPieces_26 rfl (lv_at hl 1 rfl) ?_
  refine va_get (D := (dC, dI)) (ci := 5) (v := .int 0) (C := RX6) (T := TX6) (N := 8) hx hb hts inlX6 hown hK hP 0 rfl rfl 6 (by decide) (hts (.fieldLink RX6 38 "ClosedUntil$Timetable" "pieces" "I") qw_238) (fun _ h9 => h9) rfl dX6_layPieces_27 ?_
  refine lv_icmp_ge (tgt := 100) hx hb dX6_layPieces_30 (by decide) (fun c30_2 => ?_) (fun c30_2 => by exfalso; exact absurd c30_2 (by decide))
  exact W.vret hx hb hr (fun t ht hW => ⟨rfl, trivial, ht⟩) (fun _ h => absurd h List.not_mem_nil) dX6_layPieces_100
set_option maxHeartbeats 4000000 in
set_option maxRecDepth 100000 in
theorem c_fill (l : Launch) (dC : Nat → ClassId) (dI : Nat → Nat → Nat) (g : Gv) (sz : Nat) (h0 : Nat) (f6 : Nat → Nat) (h1 : Nat) (f1 : Nat → Nat) (sa0 : Nat)  : Met l yX6_fill (.code yX6_fill cX6_fill 5 none :: TBL) ({ frames := 1, cells := 0, slots := 0, locals := 60 }) (va_Pc [.ref h0, .ref h1, .ref sa0] (fun U => U.heap.size = sz ∧ va_P (dC, dI) vwCl [(h0, .inr (5, [.ref (f6 0), .ref (f6 1), .ref (f6 2), .ref (f6 3), .ref (f6 4), .ref (f6 5), .int 0, .int 0])), (h1, .inr (0, [.int 0, .ref (f1 1), .int 0, .ref (f1 3), .int 0, .ref (f1 5), .ref (f1 6), .ref (f1 7), .int 0, .ref (f1 9), .ref (f1 10), .ref (f1 11), .ref (f1 12), .ref (f1 13)]))] U.heap ∧ va_K (dC, dI) vwCl [] U ∧ va_D (fun _ => True) [(h0, .inr (5, [.ref (f6 0), .ref (f6 1), .ref (f6 2), .ref (f6 3), .ref (f6 4), .ref (f6 5), .int 0, .int 0])), (h1, .inr (0, [.int 0, .ref (f1 1), .int 0, .ref (f1 3), .int 0, .ref (f1 5), .ref (f1 6), .ref (f1 7), .int 0, .ref (f1 9), .ref (f1 10), .ref (f1 11), .ref (f1 12), .ref (f1 13)]))] ∧ Ev g (va_A [(h0, .inr (5, [.ref (f6 0), .ref (f6 1), .ref (f6 2), .ref (f6 3), .ref (f6 4), .ref (f6 5), .int 0, .int 0])), (h1, .inr (0, [.int 0, .ref (f1 1), .int 0, .ref (f1 3), .int 0, .ref (f1 5), .ref (f1 6), .ref (f1 7), .int 0, .ref (f1 9), .ref (f1 10), .ref (f1 11), .ref (f1 12), .ref (f1 13)]))] sz) U)) (va_Qv (fun (u : Unit) => True) (fun (u : Unit) (t : State) => va_P (dC, dI) vwCl [(h0, .inr (5, [.ref (f6 0), .ref (f6 1), .ref (f6 2), .ref (f6 3), .ref (f6 4), .ref (f6 5), .int 0, .int 0])), (h1, .inr (0, [.int 0, .ref (f1 1), .int 0, .ref (f1 3), .int 0, .ref (f1 5), .ref (f1 6), .ref (f1 7), .int 0, .ref (f1 9), .ref (f1 10), .ref (f1 11), .ref (f1 12), .ref (f1 13)]))] t.heap ∧ va_K (dC, dI) vwCl [] t ∧ va_D (va_A [(h0, .inr (5, [.ref (f6 0), .ref (f6 1), .ref (f6 2), .ref (f6 3), .ref (f6 4), .ref (f6 5), .int 0, .int 0])), (h1, .inr (0, [.int 0, .ref (f1 1), .int 0, .ref (f1 3), .int 0, .ref (f1 5), .ref (f1 6), .ref (f1 7), .int 0, .ref (f1 9), .ref (f1 10), .ref (f1 11), .ref (f1 12), .ref (f1 13)]))] sz) [(h0, .inr (5, [.ref (f6 0), .ref (f6 1), .ref (f6 2), .ref (f6 3), .ref (f6 4), .ref (f6 5), .int 0, .int 0])), (h1, .inr (0, [.int 0, .ref (f1 1), .int 0, .ref (f1 3), .int 0, .ref (f1 5), .ref (f1 6), .ref (f1 7), .int 0, .ref (f1 9), .ref (f1 10), .ref (f1 11), .ref (f1 12), .ref (f1 13)]))]) (va_A [(h0, .inr (5, [.ref (f6 0), .ref (f6 1), .ref (f6 2), .ref (f6 3), .ref (f6 4), .ref (f6 5), .int 0, .int 0])), (h1, .inr (0, [.int 0, .ref (f1 1), .int 0, .ref (f1 3), .int 0, .ref (f1 5), .ref (f1 6), .ref (f1 7), .int 0, .ref (f1 9), .ref (f1 10), .ref (f1 11), .ref (f1 12), .ref (f1 13)]))] sz)) 0 0 (va_A [(h0, .inr (5, [.ref (f6 0), .ref (f6 1), .ref (f6 2), .ref (f6 3), .ref (f6 4), .ref (f6 5), .int 0, .int 0])), (h1, .inr (0, [.int 0, .ref (f1 1), .int 0, .ref (f1 3), .int 0, .ref (f1 5), .ref (f1 6), .ref (f1 7), .int 0, .ref (f1 9), .ref (f1 10), .ref (f1 11), .ref (f1 12), .ref (f1 13)]))] sz) := by
  refine Met.ofW (cc := cX6_fill) (maxL := 5) (ret := none) (by decide) rfl ?_
  intro p e s m args below meth c s₁ B hml hv
  obtain ⟨rfl, hsz, hP, hK, hD0, hE⟩ := hv
  have hx := B.exec
  have hb := B.bytes
  have hr := B.returns
  have hts0 := atoms_spec (ws := (.code yX6_fill cX6_fill 5 none :: TBL)) B.pre
  have hts := fun (w : Cond) (h : w ∈ TBL) => hts0 w (List.mem_cons_of_mem _ h)
  have hown : s.vm.findClass RX6 = some m.cls := findClass_of_methodNamed B.named
  have hlocks := B.notSynchronized
  have hN := hE.1
  subst hsz
  have hD := hD0.self (sz := s.heap.size)
  generalize hAe : va_A [(h0, .inr (5, [.ref (f6 0), .ref (f6 1), .ref (f6 2), .ref (f6 3), .ref (f6 4), .ref (f6 5), .int 0, .int 0])), (h1, .inr (0, [.int 0, .ref (f1 1), .int 0, .ref (f1 3), .int 0, .ref (f1 5), .ref (f1 6), .ref (f1 7), .int 0, .ref (f1 9), .ref (f1 10), .ref (f1 11), .ref (f1 12), .ref (f1 13)]))] s.heap.size = A at hD hE ⊢
  have hA : ∀ q : Nat, s.heap.size ≤ q → A q := fun q h => by rw [← hAe]; exact Or.inr h
  have hS : va_S A s.heap s.heap [] := va_S.rf
  have hP : va_P (dC, dI) vwCl [(h0, .inr (5, [.ref (f6 0), .ref (f6 1), .ref (f6 2), .ref (f6 3), .ref (f6 4), .ref (f6 5), .int 0, .int 0])), (h1, .inr (0, [.int 0, .ref (f1 1), .int 0, .ref (f1 3), .int 0, .ref (f1 5), .ref (f1 6), .ref (f1 7), .int 0, .ref (f1 9), .ref (f1 10), .ref (f1 11), .ref (f1 12), .ref (f1 13)]))] s.heap := hP
  have hl := lv_entry ([.ref h0, .ref h1, .ref sa0]) (n := 5) (Nat.le_of_ble_eq_true rfl)
  rw [lg_entry_eq]
  generalize (lg_sl ([.ref h0, .ref h1, .ref sa0]) ++ List.replicate (5 - (lg_sl ([.ref h0, .ref h1, .ref sa0])).length) Slot.unset).toArray = ls at hl ⊢
  have hl : lv_has ls 5 [(0, .ref h0), (1, .ref h1), (2, .ref sa0)] := hl
  refine lv_aload_n hx hb dX6_fill_0 rfl (lv_at hl 0 rfl) ?_
  refine lv_aload_n hx hb dX6_fill_1 rfl (lv_at hl 1 rfl) ?_
  refine va_getN (D := (dC, dI)) (ci := 0) (v := .int 0) (C := RX1) (T := TX1) (N := 14) hx hb hts inlX1 hown hK hP 1 rfl rfl 4 (by decide) (va_Nw.use rfl (nf_35 hN)) (fun _ h9 => h9) rfl dX6_fill_2 ?_
  refine va_put (D := (dC, dI)) (ci := 5) (v := .int 0) (ty := .int) (C := RX6) (T := TX6) (N := 8) hx hb hts inlX6 tyX6 tyX6_ok nmX6 hown hK hP hD hS 0 rfl rfl 6 (by decide) (hts (.fieldLink RX6 38 "ClosedUntil$Timetable" "pieces" "I") qw_238) (fun _ h9 => h9) rfl (by decide +kernel) rfl rfl (Nat.le_of_ble_eq_true rfl) dX6_fill_5 (fun H locs hP hD hS => ?_)
  have hP : va_P (dC, dI) vwCl [(h0, .inr (5, [.ref (f6 0), .ref (f6 1), .ref (f6 2), .ref (f6 3), .ref (f6 4), .ref (f6 5), .int 0, .int 0])), (h1, .inr (0, [.int 0, .ref (f1 1), .int 0, .ref (f1 3), .int 0, .ref (f1 5), .ref (f1 6), .ref (f1 7), .int 0, .ref (f1 9), .ref (f1 10), .ref (f1 11), .ref (f1 12), .ref (f1 13)]))] H := hP
  have hD : va_D A [(h0, .inr (5, [.ref (f6 0), .ref (f6 1), .ref (f6 2), .ref (f6 3), .ref (f6 4), .ref (f6 5), .int 0, .int 0])), (h1, .inr (0, [.int 0, .ref (f1 1), .int 0, .ref (f1 3), .int 0, .ref (f1 5), .ref (f1 6), .ref (f1 7), .int 0, .ref (f1 9), .ref (f1 10), .ref (f1 11), .ref (f1 12), .ref (f1 13)]))] := hD
  refine lv_aload_n hx hb dX6_fill_8 rfl (lv_at hl 0 rfl) ?_
  refine lv_aload_n hx hb dX6_fill_9 rfl (lv_at hl 1 rfl) ?_
  refine va_getN (D := (dC, dI)) (ci := 0) (v := .int 0) (C := RX1) (T := TX1) (N := 14) hx hb hts inlX1 hown hK hP 1 rfl rfl 8 (by decide) (va_Nw.use rfl (nf_45 hN)) (fun _ h9 => h9) rfl dX6_fill_10 ?_
  refine va_put (D := (dC, dI)) (ci := 5) (v := .int 0) (ty := .int) (C := RX6) (T := TX6) (N := 8) hx hb hts inlX6 tyX6 tyX6_ok nmX6 hown hK hP hD hS 0 rfl rfl 7 (by decide) (hts (.fieldLink RX6 42 "ClosedUntil$Timetable" "closures" "I") qw_239) (fun _ h9 => h9) rfl (by decide +kernel) rfl rfl (Nat.le_of_ble_eq_true rfl) dX6_fill_13 (fun H locs hP hD hS => ?_)
  have hP : va_P (dC, dI) vwCl [(h0, .inr (5, [.ref (f6 0), .ref (f6 1), .ref (f6 2), .ref (f6 3), .ref (f6 4), .ref (f6 5), .int 0, .int 0])), (h1, .inr (0, [.int 0, .ref (f1 1), .int 0, .ref (f1 3), .int 0, .ref (f1 5), .ref (f1 6), .ref (f1 7), .int 0, .ref (f1 9), .ref (f1 10), .ref (f1 11), .ref (f1 12), .ref (f1 13)]))] H := hP
  have hD : va_D A [(h0, .inr (5, [.ref (f6 0), .ref (f6 1), .ref (f6 2), .ref (f6 3), .ref (f6 4), .ref (f6 5), .int 0, .int 0])), (h1, .inr (0, [.int 0, .ref (f1 1), .int 0, .ref (f1 3), .int 0, .ref (f1 5), .ref (f1 6), .ref (f1 7), .int 0, .ref (f1 9), .ref (f1 10), .ref (f1 11), .ref (f1 12), .ref (f1 13)]))] := hD
  refine lv_aload_n hx hb dX6_fill_16 rfl (lv_at hl 0 rfl) ?_
  refine lv_aload_n hx hb dX6_fill_17 rfl (lv_at hl 2 rfl) ?_
  have hPc := hP.sub (ws' := [(h0, .inr (5, [.ref (f6 0), .ref (f6 1), .ref (f6 2), .ref (f6 3), .ref (f6 4), .ref (f6 5), .int 0, .int 0]))]) [0] rfl
  have hKc := hK.sub (tys' := []) [] rfl
  refine va_csv ((va_runV (As := [.ref sa0]) (rest := []) ⟨hx, hb, hml, hown, hts⟩ (c_lay l dC dI g (h0) (f6) (sa0) ) (cwV 1 hts (gwV qw_241 qw_242 qw_243 qw_184 qw_240) rfl rfl rfl (by decide +kernel) ⟨Nat.le_of_ble_eq_true rfl, Nat.le_of_ble_eq_true rfl⟩) ⟨fun a U g9 mk q => ⟨q.1, q.2.1, va_K.moved (u := U) (U := U.calling g9 mk a) (Vm.Alike.refl U.vm) q.2.2.1, Ev.bl q.2.2.2⟩, va_recv hK hP (ci := 5) (q0 := 0) rfl rfl, fun U hU hW => ⟨rfl, by rw [hU]; exact hPc, va_K.moved hW.alike hKc, hE.go hS (fun _ h => h.elim) hU hW⟩⟩ rfl rfl hl.1 rfl (lv_room (Nat.le_of_ble_eq_true rfl)) dX6_fill_18 ⟨Nat.le_of_ble_eq_true rfl, Nat.le_of_ble_eq_true rfl⟩)).run (fun _ => ?_)
  refine lv_iconst (v := 0) hx hb dX6_fill_21 (by decide) ?_
  refine lv_istore_n (lv' := [(3, .int 0), (0, .ref h0), (1, .ref h1), (2, .ref sa0)]) hx hb dX6_fill_22 rfl hl (by decide) rfl (fun ls hl => ?_)
  refine lv_iload_n hx hb dX6_fill_23 rfl (lv_at hl 0 rfl) ?_
  refine lv_aload_n hx hb dX6_fill_24 rfl (lv_at hl 1 rfl) ?_
  refine va_get (D := (dC, dI)) (ci := 5) (v := .int 0) (C := RX6) (T := TX6) (N := 8) hx hb hts inlX6 hown hK hP 0 rfl rfl 7 (by decide) (hts (.fieldLink RX6 42 "ClosedUntil$Timetable" "closures" "I") qw_239) (fun _ h9 => h9) rfl dX6_fill_25 ?_
  refine lv_icmp_ge (tgt := 125) hx hb dX6_fill_28 (by decide) (fun c28_1 => ?_) (fun c28_1 => by exfalso; exact absurd c28_1 (by decide))
  refine W.widen (k := 0) (n := 0) (Nat.le_of_ble_eq_true rfl) (Nat.le_of_ble_eq_true rfl) ?_
  have hP9 := hP.sub (ws' := [(h0, .inr (5, [.ref (f6 0), .ref (f6 1), .ref (f6 2), .ref (f6 3), .ref (f6 4), .ref (f6 5), .int 0, .int 0])), (h1, .inr (0, [.int 0, .ref (f1 1), .int 0, .ref (f1 3), .int 0, .ref (f1 5), .ref (f1 6), .ref (f1 7), .int 0, .ref (f1 9), .ref (f1 10), .ref (f1 11), .ref (f1 12), .ref (f1 13)]))]) [0, 1] rfl
  have hD9 := hD.sub (ws' := [(h0, .inr (5, [.ref (f6 0), .ref (f6 1), .ref (f6 2), .ref (f6 3), .ref (f6 4), .ref (f6 5), .int 0, .int 0])), (h1, .inr (0, [.int 0, .ref (f1 1), .int 0, .ref (f1 3), .int 0, .ref (f1 5), .ref (f1 6), .ref (f1 7), .int 0, .ref (f1 9), .ref (f1 10), .ref (f1 11), .ref (f1 12), .ref (f1 13)]))]) [0, 1] (by decide) rfl
  have hK9 := hK.sub (tys' := []) [] rfl
  exact W.vret hx hb hr (fun t ht hW => ⟨⟨(), rfl, (trivial), by rw [ht]; exact hP9, va_K.moved hW.alike hK9, hD9⟩, hS.F ht⟩) hS.2.2 dX6_fill_125
set_option maxHeartbeats 4000000 in
set_option maxRecDepth 100000 in
theorem c_oo (l : Launch) (dC : Nat → ClassId) (dI : Nat → Nat → Nat) (g : Gv) (h0 : Nat) (f6 : Nat → Nat) (da : Int32) (ho : Int32)  : Met l yX6_openOn (.code yX6_openOn cX6_openOn 5 (some .int) :: TBL) ({ frames := 0, cells := 0, slots := 0, locals := 0 }) (va_Pc [.ref h0, .int da, .int ho] (fun U => va_P (dC, dI) vwCl [(h0, .inr (5, [.ref (f6 0), .ref (f6 1), .ref (f6 2), .ref (f6 3), .ref (f6 4), .ref (f6 5), .int 0, .int 0]))] U.heap ∧ va_K (dC, dI) vwCl [] U ∧ Ev g (fun _ => False) U)) (vp_Si (fun r => r = 0)) 0 0 (fun _ => False) := by
  refine Met.ofW (cc := cX6_openOn) (maxL := 5) (ret := (some .int)) (by decide) rfl ?_
  intro p e s m args below meth c s₁ B hml hv
  obtain ⟨rfl, hP, hK, hE⟩ := hv
  have hx := B.exec
  have hb := B.bytes
  have hr := B.returns
  have hts0 := atoms_spec (ws := (.code yX6_openOn cX6_openOn 5 (some .int) :: TBL)) B.pre
  have hts := fun (w : Cond) (h : w ∈ TBL) => hts0 w (List.mem_cons_of_mem _ h)
  have hown : s.vm.findClass RX6 = some m.cls := findClass_of_methodNamed B.named
  have hlocks := B.notSynchronized
  have hN := hE.1
  have hS : va_S (fun _ => False) s.heap s.heap [] := va_S.rf
  have hP : va_P (dC, dI) vwCl [(h0, .inr (5, [.ref (f6 0), .ref (f6 1), .ref (f6 2), .ref (f6 3), .ref (f6 4), .ref (f6 5), .int 0, .int 0]))] s.heap := hP
  have hl := lv_entry ([.ref h0, .int da, .int ho]) (n := 5) (Nat.le_of_ble_eq_true rfl)
  rw [lg_entry_eq]
  generalize (lg_sl ([.ref h0, .int da, .int ho]) ++ List.replicate (5 - (lg_sl ([.ref h0, .int da, .int ho])).length) Slot.unset).toArray = ls at hl ⊢
  have hl : lv_has ls 5 [(0, .ref h0), (1, .int da), (2, .int ho)] := hl
  refine lv_iconst (v := 0) hx hb dX6_openOn_0 (by decide) ?_
  refine lv_istore_n (lv' := [(3, .int 0), (0, .ref h0), (1, .int da), (2, .int ho)]) hx hb dX6_openOn_1 rfl hl (by decide) rfl (fun ls hl => ?_)
  refine lv_iconst (v := 0) hx hb dX6_openOn_2 (by decide) ?_
  refine lv_istore (lv' := [(4, .int 0), (3, .int 0), (0, .ref h0), (1, .int da), (2, .int ho)]) hx hb dX6_openOn_3 hl (by decide) rfl (fun ls hl => ?_)
  refine lv_iload hx hb dX6_openOn_5 (lv_at hl 0 rfl) ?_
  refine lv_aload_n hx hb dX6_openOn_7 rfl (lv_at hl 2 rfl) ?_
  refine va_get (D := (dC, dI)) (ci := 5) (v := .int 0) (C := RX6) (T := TX6) (N := 8) hx hb hts inlX6 hown hK hP 0 rfl rfl 6 (by decide) (hts (.fieldLink RX6 38 "ClosedUntil$Timetable" "pieces" "I") qw_238) (fun _ h9 => h9) rfl dX6_openOn_8 ?_
  refine lv_icmp_ge (tgt := 38) hx hb dX6_openOn_11 (by decide) (fun c11_1 => ?_) (fun c11_1 => by exfalso; exact absurd c11_1 (by decide))
  refine lv_iload_n hx hb dX6_openOn_38 rfl (lv_at hl 1 rfl) ?_
  exact W.iret (v := 0) hx hb hr (fun t ht hW => ⟨0, rfl, (rfl), ht⟩) (fun _ h => absurd h List.not_mem_nil) dX6_openOn_39
set_option maxHeartbeats 4000000 in
set_option maxRecDepth 100000 in
theorem c_owg (l : Launch) (dC : Nat → ClassId) (dI : Nat → Nat → Nat) (g : Gv) (h0 : Nat) (f6 : Nat → Nat) (go : Int32)  : Met l yX6_openWhenGone (.code yX6_openWhenGone cX6_openWhenGone 4 (some .int) :: TBL) ({ frames := 0, cells := 0, slots := 0, locals := 0 }) (va_Pc [.ref h0, .int go] (fun U => va_P (dC, dI) vwCl [(h0, .inr (5, [.ref (f6 0), .ref (f6 1), .ref (f6 2), .ref (f6 3), .ref (f6 4), .ref (f6 5), .int 0, .int 0]))] U.heap ∧ va_K (dC, dI) vwCl [] U ∧ Ev g (fun _ => False) U)) (vp_Si (fun r => r = 0)) 0 0 (fun _ => False) := by
  refine Met.ofW (cc := cX6_openWhenGone) (maxL := 4) (ret := (some .int)) (by decide) rfl ?_
  intro p e s m args below meth c s₁ B hml hv
  obtain ⟨rfl, hP, hK, hE⟩ := hv
  have hx := B.exec
  have hb := B.bytes
  have hr := B.returns
  have hts0 := atoms_spec (ws := (.code yX6_openWhenGone cX6_openWhenGone 4 (some .int) :: TBL)) B.pre
  have hts := fun (w : Cond) (h : w ∈ TBL) => hts0 w (List.mem_cons_of_mem _ h)
  have hown : s.vm.findClass RX6 = some m.cls := findClass_of_methodNamed B.named
  have hlocks := B.notSynchronized
  have hN := hE.1
  have hS : va_S (fun _ => False) s.heap s.heap [] := va_S.rf
  have hP : va_P (dC, dI) vwCl [(h0, .inr (5, [.ref (f6 0), .ref (f6 1), .ref (f6 2), .ref (f6 3), .ref (f6 4), .ref (f6 5), .int 0, .int 0]))] s.heap := hP
  have hl := lv_entry ([.ref h0, .int go]) (n := 4) (Nat.le_of_ble_eq_true rfl)
  rw [lg_entry_eq]
  generalize (lg_sl ([.ref h0, .int go]) ++ List.replicate (4 - (lg_sl ([.ref h0, .int go])).length) Slot.unset).toArray = ls at hl ⊢
  have hl : lv_has ls 4 [(0, .ref h0), (1, .int go)] := hl
  refine lv_iconst (v := 0) hx hb dX6_openWhenGone_0 (by decide) ?_
  refine lv_istore_n (lv' := [(2, .int 0), (0, .ref h0), (1, .int go)]) hx hb dX6_openWhenGone_1 rfl hl (by decide) rfl (fun ls hl => ?_)
  refine lv_iconst (v := 0) hx hb dX6_openWhenGone_2 (by decide) ?_
  refine lv_istore_n (lv' := [(3, .int 0), (2, .int 0), (0, .ref h0), (1, .int go)]) hx hb dX6_openWhenGone_3 rfl hl (by decide) rfl (fun ls hl => ?_)
  refine lv_iload_n hx hb dX6_openWhenGone_4 rfl (lv_at hl 0 rfl) ?_
  refine lv_aload_n hx hb dX6_openWhenGone_5 rfl (lv_at hl 2 rfl) ?_
  refine va_get (D := (dC, dI)) (ci := 5) (v := .int 0) (C := RX6) (T := TX6) (N := 8) hx hb hts inlX6 hown hK hP 0 rfl rfl 6 (by decide) (hts (.fieldLink RX6 38 "ClosedUntil$Timetable" "pieces" "I") qw_238) (fun _ h9 => h9) rfl dX6_openWhenGone_6 ?_
  refine lv_icmp_ge (tgt := 34) hx hb dX6_openWhenGone_9 (by decide) (fun c9_1 => ?_) (fun c9_1 => by exfalso; exact absurd c9_1 (by decide))
  refine lv_iload_n hx hb dX6_openWhenGone_34 rfl (lv_at hl 1 rfl) ?_
  exact W.iret (v := 0) hx hb hr (fun t ht hW => ⟨0, rfl, (rfl), ht⟩) (fun _ h => absurd h List.not_mem_nil) dX6_openWhenGone_35
set_option maxHeartbeats 4000000 in
set_option maxRecDepth 100000 in
theorem c_btl0 (l : Launch) (dC : Nat → ClassId) (dI : Nat → Nat → Nat) (g : Gv) (h0 : Nat) (f6 : Nat → Nat) (da : Int32) (ho : Int32)  : Met l yX6_bestToLift (.code yX6_bestToLift cX6_bestToLift 10 (some .int) :: TBL) ({ frames := 1, cells := 0, slots := 0, locals := 40 }) (va_Pc [.ref h0, .int da, .int ho, .int 0] (fun U => va_P (dC, dI) vwCl [(h0, .inr (5, [.ref (f6 0), .ref (f6 1), .ref (f6 2), .ref (f6 3), .ref (f6 4), .ref (f6 5), .int 0, .int 0]))] U.heap ∧ va_K (dC, dI) vwCl [] U ∧ Ev g (fun _ => False) U)) (vp_Si (fun r => r = 0)) 0 0 (fun _ => False) := by
  refine Met.ofW (cc := cX6_bestToLift) (maxL := 10) (ret := (some .int)) (by decide) rfl ?_
  intro p e s m args below meth c s₁ B hml hv
  obtain ⟨rfl, hP, hK, hE⟩ := hv
  have hx := B.exec
  have hb := B.bytes
  have hr := B.returns
  have hts0 := atoms_spec (ws := (.code yX6_bestToLift cX6_bestToLift 10 (some .int) :: TBL)) B.pre
  have hts := fun (w : Cond) (h : w ∈ TBL) => hts0 w (List.mem_cons_of_mem _ h)
  have hown : s.vm.findClass RX6 = some m.cls := findClass_of_methodNamed B.named
  have hlocks := B.notSynchronized
  have hN := hE.1
  have hS : va_S (fun _ => False) s.heap s.heap [] := va_S.rf
  have hP : va_P (dC, dI) vwCl [(h0, .inr (5, [.ref (f6 0), .ref (f6 1), .ref (f6 2), .ref (f6 3), .ref (f6 4), .ref (f6 5), .int 0, .int 0]))] s.heap := hP
  have hl := lv_entry ([.ref h0, .int da, .int ho, .int 0]) (n := 10) (Nat.le_of_ble_eq_true rfl)
  rw [lg_entry_eq]
  generalize (lg_sl ([.ref h0, .int da, .int ho, .int 0]) ++ List.replicate (10 - (lg_sl ([.ref h0, .int da, .int ho, .int 0])).length) Slot.unset).toArray = ls at hl ⊢
  have hl : lv_has ls 10 [(0, .ref h0), (1, .int da), (2, .int ho), (3, .int 0)] := hl
  refine lv_iconst (v := 0) hx hb dX6_bestToLift_0 (by decide) ?_
  refine lv_istore (lv' := [(4, .int 0), (0, .ref h0), (1, .int da), (2, .int ho), (3, .int 0)]) hx hb dX6_bestToLift_1 hl (by decide) rfl (fun ls hl => ?_)
  refine lv_iload hx hb dX6_bestToLift_3 (lv_at hl 0 rfl) ?_
  refine lv_aload_n hx hb dX6_bestToLift_5 rfl (lv_at hl 1 rfl) ?_
  refine va_get (D := (dC, dI)) (ci := 5) (v := .int 0) (C := RX6) (T := TX6) (N := 8) hx hb hts inlX6 hown hK hP 0 rfl rfl 6 (by decide) (hts (.fieldLink RX6 38 "ClosedUntil$Timetable" "pieces" "I") qw_238) (fun _ h9 => h9) rfl dX6_bestToLift_6 ?_
  refine lv_icmp_ge (tgt := 33) hx hb dX6_bestToLift_9 (by decide) (fun c9_1 => ?_) (fun c9_1 => by exfalso; exact absurd c9_1 (by decide))
  refine lv_iconst (v := 0) hx hb dX6_bestToLift_33 (by decide) ?_
  refine lv_istore (lv' := [(4, .int 0), (0, .ref h0), (1, .int da), (2, .int ho), (3, .int 0)]) hx hb dX6_bestToLift_34 hl (by decide) rfl (fun ls hl => ?_)
  refine lv_aload_n hx hb dX6_bestToLift_36 rfl (lv_at hl 1 rfl) ?_
  refine lv_iconst (v := 0) hx hb dX6_bestToLift_37 (by decide) ?_
  have hPc := hP.sub (ws' := [(h0, .inr (5, [.ref (f6 0), .ref (f6 1), .ref (f6 2), .ref (f6 3), .ref (f6 4), .ref (f6 5), .int 0, .int 0]))]) [0] rfl
  have hKc := hK.sub (tys' := []) [] rfl
  refine vp_callSi ((va_runV (As := [.int 0]) (rest := []) ⟨hx, hb, hml, hown, hts⟩ (c_owg l dC dI g (h0) (f6) (0) ) (cwV 1 hts (gwV qw_245 qw_246 qw_247 qw_184 qw_244) rfl rfl rfl (by decide +kernel) ⟨Nat.le_of_ble_eq_true rfl, Nat.le_of_ble_eq_true rfl⟩) ⟨fun a U g9 mk q => ⟨q.1, q.2.1, va_K.moved (u := U) (U := U.calling g9 mk a) (Vm.Alike.refl U.vm) q.2.2.1, Ev.bl q.2.2.2⟩, va_recv hK hP (ci := 5) (q0 := 0) rfl rfl, fun U hU hW => ⟨rfl, by rw [hU]; exact hPc, va_K.moved hW.alike hKc, hE.go hS (fun _ h => h.elim) hU hW⟩⟩ rfl rfl hl.1 rfl (lv_room (Nat.le_of_ble_eq_true rfl)) dX6_bestToLift_38 ⟨Nat.le_of_ble_eq_true rfl, Nat.le_of_ble_eq_true rfl⟩)).run (fun r2 h_r2 => ?_)
  have h_r2 : r2 = 0 := h_r2
  subst h_r2
  refine lv_istore (lv' := [(5, .int 0), (4, .int 0), (0, .ref h0), (1, .int da), (2, .int ho), (3, .int 0)]) hx hb dX6_bestToLift_41 hl (by decide) rfl (fun ls hl => ?_)
  refine lv_iconst (v := 1) hx hb dX6_bestToLift_43 (by decide) ?_
  refine lv_istore (lv' := [(6, .int 1), (5, .int 0), (4, .int 0), (0, .ref h0), (1, .int da), (2, .int ho), (3, .int 0)]) hx hb dX6_bestToLift_44 hl (by decide) rfl (fun ls hl => ?_)
  refine lv_iload hx hb dX6_bestToLift_46 (lv_at hl 0 rfl) ?_
  refine lv_iload_n hx hb dX6_bestToLift_48 rfl (lv_at hl 6 rfl) ?_
  refine lv_icmp_gt (tgt := 124) hx hb dX6_bestToLift_49 (by decide) (fun c49_3 => ?_) (fun c49_3 => by exfalso; exact absurd c49_3 (by decide))
  refine lv_iload hx hb dX6_bestToLift_124 (lv_at hl 2 rfl) ?_
  exact W.iret (v := 0) hx hb hr (fun t ht hW => ⟨0, rfl, (rfl), ht⟩) (fun _ h => absurd h List.not_mem_nil) dX6_bestToLift_126
set_option maxHeartbeats 4000000 in
set_option maxRecDepth 100000 in
theorem c_btl1 (l : Launch) (dC : Nat → ClassId) (dI : Nat → Nat → Nat) (g : Gv) (h0 : Nat) (f6 : Nat → Nat) (da : Int32) (ho : Int32)  : Met l yX6_bestToLift (.code yX6_bestToLift cX6_bestToLift 10 (some .int) :: TBL) ({ frames := 1, cells := 0, slots := 0, locals := 40 }) (va_Pc [.ref h0, .int da, .int ho, .int 1] (fun U => va_P (dC, dI) vwCl [(h0, .inr (5, [.ref (f6 0), .ref (f6 1), .ref (f6 2), .ref (f6 3), .ref (f6 4), .ref (f6 5), .int 0, .int 0]))] U.heap ∧ va_K (dC, dI) vwCl [] U ∧ Ev g (fun _ => False) U)) (vp_Si (fun r => r = 0)) 0 0 (fun _ => False) := by
  refine Met.ofW (cc := cX6_bestToLift) (maxL := 10) (ret := (some .int)) (by decide) rfl ?_
  intro p e s m args below meth c s₁ B hml hv
  obtain ⟨rfl, hP, hK, hE⟩ := hv
  have hx := B.exec
  have hb := B.bytes
  have hr := B.returns
  have hts0 := atoms_spec (ws := (.code yX6_bestToLift cX6_bestToLift 10 (some .int) :: TBL)) B.pre
  have hts := fun (w : Cond) (h : w ∈ TBL) => hts0 w (List.mem_cons_of_mem _ h)
  have hown : s.vm.findClass RX6 = some m.cls := findClass_of_methodNamed B.named
  have hlocks := B.notSynchronized
  have hN := hE.1
  have hS : va_S (fun _ => False) s.heap s.heap [] := va_S.rf
  have hP : va_P (dC, dI) vwCl [(h0, .inr (5, [.ref (f6 0), .ref (f6 1), .ref (f6 2), .ref (f6 3), .ref (f6 4), .ref (f6 5), .int 0, .int 0]))] s.heap := hP
  have hl := lv_entry ([.ref h0, .int da, .int ho, .int 1]) (n := 10) (Nat.le_of_ble_eq_true rfl)
  rw [lg_entry_eq]
  generalize (lg_sl ([.ref h0, .int da, .int ho, .int 1]) ++ List.replicate (10 - (lg_sl ([.ref h0, .int da, .int ho, .int 1])).length) Slot.unset).toArray = ls at hl ⊢
  have hl : lv_has ls 10 [(0, .ref h0), (1, .int da), (2, .int ho), (3, .int 1)] := hl
  refine lv_iconst (v := 0) hx hb dX6_bestToLift_0 (by decide) ?_
  refine lv_istore (lv' := [(4, .int 0), (0, .ref h0), (1, .int da), (2, .int ho), (3, .int 1)]) hx hb dX6_bestToLift_1 hl (by decide) rfl (fun ls hl => ?_)
  refine lv_iload hx hb dX6_bestToLift_3 (lv_at hl 0 rfl) ?_
  refine lv_aload_n hx hb dX6_bestToLift_5 rfl (lv_at hl 1 rfl) ?_
  refine va_get (D := (dC, dI)) (ci := 5) (v := .int 0) (C := RX6) (T := TX6) (N := 8) hx hb hts inlX6 hown hK hP 0 rfl rfl 6 (by decide) (hts (.fieldLink RX6 38 "ClosedUntil$Timetable" "pieces" "I") qw_238) (fun _ h9 => h9) rfl dX6_bestToLift_6 ?_
  refine lv_icmp_ge (tgt := 33) hx hb dX6_bestToLift_9 (by decide) (fun c9_1 => ?_) (fun c9_1 => by exfalso; exact absurd c9_1 (by decide))
  refine lv_iconst (v := 0) hx hb dX6_bestToLift_33 (by decide) ?_
  refine lv_istore (lv' := [(4, .int 0), (0, .ref h0), (1, .int da), (2, .int ho), (3, .int 1)]) hx hb dX6_bestToLift_34 hl (by decide) rfl (fun ls hl => ?_)
  refine lv_aload_n hx hb dX6_bestToLift_36 rfl (lv_at hl 1 rfl) ?_
  refine lv_iconst (v := 0) hx hb dX6_bestToLift_37 (by decide) ?_
  have hPc := hP.sub (ws' := [(h0, .inr (5, [.ref (f6 0), .ref (f6 1), .ref (f6 2), .ref (f6 3), .ref (f6 4), .ref (f6 5), .int 0, .int 0]))]) [0] rfl
  have hKc := hK.sub (tys' := []) [] rfl
  refine vp_callSi ((va_runV (As := [.int 0]) (rest := []) ⟨hx, hb, hml, hown, hts⟩ (c_owg l dC dI g (h0) (f6) (0) ) (cwV 1 hts (gwV qw_245 qw_246 qw_247 qw_184 qw_244) rfl rfl rfl (by decide +kernel) ⟨Nat.le_of_ble_eq_true rfl, Nat.le_of_ble_eq_true rfl⟩) ⟨fun a U g9 mk q => ⟨q.1, q.2.1, va_K.moved (u := U) (U := U.calling g9 mk a) (Vm.Alike.refl U.vm) q.2.2.1, Ev.bl q.2.2.2⟩, va_recv hK hP (ci := 5) (q0 := 0) rfl rfl, fun U hU hW => ⟨rfl, by rw [hU]; exact hPc, va_K.moved hW.alike hKc, hE.go hS (fun _ h => h.elim) hU hW⟩⟩ rfl rfl hl.1 rfl (lv_room (Nat.le_of_ble_eq_true rfl)) dX6_bestToLift_38 ⟨Nat.le_of_ble_eq_true rfl, Nat.le_of_ble_eq_true rfl⟩)).run (fun r2 h_r2 => ?_)
  have h_r2 : r2 = 0 := h_r2
  subst h_r2
  refine lv_istore (lv' := [(5, .int 0), (4, .int 0), (0, .ref h0), (1, .int da), (2, .int ho), (3, .int 1)]) hx hb dX6_bestToLift_41 hl (by decide) rfl (fun ls hl => ?_)
  refine lv_iconst (v := 1) hx hb dX6_bestToLift_43 (by decide) ?_
  refine lv_istore (lv' := [(6, .int 1), (5, .int 0), (4, .int 0), (0, .ref h0), (1, .int da), (2, .int ho), (3, .int 1)]) hx hb dX6_bestToLift_44 hl (by decide) rfl (fun ls hl => ?_)
  refine lv_iload hx hb dX6_bestToLift_46 (lv_at hl 0 rfl) ?_
  refine lv_iload_n hx hb dX6_bestToLift_48 rfl (lv_at hl 6 rfl) ?_
  refine lv_icmp_gt (tgt := 124) hx hb dX6_bestToLift_49 (by decide) (fun c49_3 => by exfalso; exact absurd c49_3 (by decide)) (fun c49_3 => ?_)
  refine lv_iconst (v := 1) hx hb dX6_bestToLift_52 (by decide) ?_
  refine lv_iload hx hb dX6_bestToLift_53 (lv_at hl 0 rfl) ?_
  refine lv_ishl hx hb dX6_bestToLift_55 ?_
  refine cst (v := 2) (by decide) ?_
  refine lv_iconst (v := 1) hx hb dX6_bestToLift_56 (by decide) ?_
  refine lv_isub hx hb dX6_bestToLift_57 ?_
  refine cst (v := 1) (by decide) ?_
  refine lv_istore (lv' := [(7, .int 1), (6, .int 1), (5, .int 0), (4, .int 0), (0, .ref h0), (1, .int da), (2, .int ho), (3, .int 1)]) hx hb dX6_bestToLift_58 hl (by decide) rfl (fun ls hl => ?_)
  refine lv_iconst (v := 0) hx hb dX6_bestToLift_60 (by decide) ?_
  refine lv_istore (lv' := [(8, .int 0), (7, .int 1), (6, .int 1), (5, .int 0), (4, .int 0), (0, .ref h0), (1, .int da), (2, .int ho), (3, .int 1)]) hx hb dX6_bestToLift_61 hl (by decide) rfl (fun ls hl => ?_)
  refine lv_iload hx hb dX6_bestToLift_63 (lv_at hl 0 rfl) ?_
  refine lv_sipush (v := 220) hx hb dX6_bestToLift_65 (by decide) ?_
  refine lv_icmp_ge (tgt := 118) hx hb dX6_bestToLift_68 (by decide) (fun c68_4 => by exfalso; exact absurd c68_4 (by decide)) (fun c68_4 => ?_)
  refine lv_iload hx hb dX6_bestToLift_71 (lv_at hl 1 rfl) ?_
  refine lv_iconst (v := 1) hx hb dX6_bestToLift_73 (by decide) ?_
  refine lv_aload_n hx hb dX6_bestToLift_74 rfl (lv_at hl 5 rfl) ?_
  refine va_get (D := (dC, dI)) (ci := 5) (v := .int 0) (C := RX6) (T := TX6) (N := 8) hx hb hts inlX6 hown hK hP 0 rfl rfl 7 (by decide) (hts (.fieldLink RX6 42 "ClosedUntil$Timetable" "closures" "I") qw_239) (fun _ h9 => h9) rfl dX6_bestToLift_75 ?_
  refine lv_ishl hx hb dX6_bestToLift_78 ?_
  refine cst (v := 1) (by decide) ?_
  refine lv_icmp_ge (tgt := 118) hx hb dX6_bestToLift_79 (by decide) (fun c79_5 => ?_) (fun c79_5 => by exfalso; exact absurd c79_5 (by decide))
  refine lv_iinc (v := 2) (lv' := [(6, .int 2), (8, .int 0), (7, .int 1), (5, .int 0), (4, .int 0), (0, .ref h0), (1, .int da), (2, .int ho), (3, .int 1)]) hx hb dX6_bestToLift_118 hl (k := 2) rfl (by decide) (by decide) rfl (fun ls hl => ?_)
  refine lv_goto (tgt := 46) hx hb dX6_bestToLift_121 (by decide) ?_
  refine lv_iload hx hb dX6_bestToLift_46 (lv_at hl 0 rfl) ?_
  refine lv_iload_n hx hb dX6_bestToLift_48 rfl (lv_at hl 8 rfl) ?_
  refine lv_icmp_gt (tgt := 124) hx hb dX6_bestToLift_49 (by decide) (fun c49_6 => ?_) (fun c49_6 => by exfalso; exact absurd c49_6 (by decide))
  refine lv_iload hx hb dX6_bestToLift_124 (lv_at hl 4 rfl) ?_
  exact W.iret (v := 0) hx hb hr (fun t ht hW => ⟨0, rfl, (rfl), ht⟩) (fun _ h => absurd h List.not_mem_nil) dX6_bestToLift_126
set_option maxHeartbeats 4000000 in
set_option maxRecDepth 100000 in
theorem c_btl2 (l : Launch) (dC : Nat → ClassId) (dI : Nat → Nat → Nat) (g : Gv) (h0 : Nat) (f6 : Nat → Nat) (da : Int32) (ho : Int32)  : Met l yX6_bestToLift (.code yX6_bestToLift cX6_bestToLift 10 (some .int) :: TBL) ({ frames := 1, cells := 0, slots := 0, locals := 40 }) (va_Pc [.ref h0, .int da, .int ho, .int 2] (fun U => va_P (dC, dI) vwCl [(h0, .inr (5, [.ref (f6 0), .ref (f6 1), .ref (f6 2), .ref (f6 3), .ref (f6 4), .ref (f6 5), .int 0, .int 0]))] U.heap ∧ va_K (dC, dI) vwCl [] U ∧ Ev g (fun _ => False) U)) (vp_Si (fun r => r = 0)) 0 0 (fun _ => False) := by
  refine Met.ofW (cc := cX6_bestToLift) (maxL := 10) (ret := (some .int)) (by decide) rfl ?_
  intro p e s m args below meth c s₁ B hml hv
  obtain ⟨rfl, hP, hK, hE⟩ := hv
  have hx := B.exec
  have hb := B.bytes
  have hr := B.returns
  have hts0 := atoms_spec (ws := (.code yX6_bestToLift cX6_bestToLift 10 (some .int) :: TBL)) B.pre
  have hts := fun (w : Cond) (h : w ∈ TBL) => hts0 w (List.mem_cons_of_mem _ h)
  have hown : s.vm.findClass RX6 = some m.cls := findClass_of_methodNamed B.named
  have hlocks := B.notSynchronized
  have hN := hE.1
  have hS : va_S (fun _ => False) s.heap s.heap [] := va_S.rf
  have hP : va_P (dC, dI) vwCl [(h0, .inr (5, [.ref (f6 0), .ref (f6 1), .ref (f6 2), .ref (f6 3), .ref (f6 4), .ref (f6 5), .int 0, .int 0]))] s.heap := hP
  have hl := lv_entry ([.ref h0, .int da, .int ho, .int 2]) (n := 10) (Nat.le_of_ble_eq_true rfl)
  rw [lg_entry_eq]
  generalize (lg_sl ([.ref h0, .int da, .int ho, .int 2]) ++ List.replicate (10 - (lg_sl ([.ref h0, .int da, .int ho, .int 2])).length) Slot.unset).toArray = ls at hl ⊢
  have hl : lv_has ls 10 [(0, .ref h0), (1, .int da), (2, .int ho), (3, .int 2)] := hl
  refine lv_iconst (v := 0) hx hb dX6_bestToLift_0 (by decide) ?_
  refine lv_istore (lv' := [(4, .int 0), (0, .ref h0), (1, .int da), (2, .int ho), (3, .int 2)]) hx hb dX6_bestToLift_1 hl (by decide) rfl (fun ls hl => ?_)
  refine lv_iload hx hb dX6_bestToLift_3 (lv_at hl 0 rfl) ?_
  refine lv_aload_n hx hb dX6_bestToLift_5 rfl (lv_at hl 1 rfl) ?_
  refine va_get (D := (dC, dI)) (ci := 5) (v := .int 0) (C := RX6) (T := TX6) (N := 8) hx hb hts inlX6 hown hK hP 0 rfl rfl 6 (by decide) (hts (.fieldLink RX6 38 "ClosedUntil$Timetable" "pieces" "I") qw_238) (fun _ h9 => h9) rfl dX6_bestToLift_6 ?_
  refine lv_icmp_ge (tgt := 33) hx hb dX6_bestToLift_9 (by decide) (fun c9_1 => ?_) (fun c9_1 => by exfalso; exact absurd c9_1 (by decide))
  refine lv_iconst (v := 0) hx hb dX6_bestToLift_33 (by decide) ?_
  refine lv_istore (lv' := [(4, .int 0), (0, .ref h0), (1, .int da), (2, .int ho), (3, .int 2)]) hx hb dX6_bestToLift_34 hl (by decide) rfl (fun ls hl => ?_)
  refine lv_aload_n hx hb dX6_bestToLift_36 rfl (lv_at hl 1 rfl) ?_
  refine lv_iconst (v := 0) hx hb dX6_bestToLift_37 (by decide) ?_
  have hPc := hP.sub (ws' := [(h0, .inr (5, [.ref (f6 0), .ref (f6 1), .ref (f6 2), .ref (f6 3), .ref (f6 4), .ref (f6 5), .int 0, .int 0]))]) [0] rfl
  have hKc := hK.sub (tys' := []) [] rfl
  refine vp_callSi ((va_runV (As := [.int 0]) (rest := []) ⟨hx, hb, hml, hown, hts⟩ (c_owg l dC dI g (h0) (f6) (0) ) (cwV 1 hts (gwV qw_245 qw_246 qw_247 qw_184 qw_244) rfl rfl rfl (by decide +kernel) ⟨Nat.le_of_ble_eq_true rfl, Nat.le_of_ble_eq_true rfl⟩) ⟨fun a U g9 mk q => ⟨q.1, q.2.1, va_K.moved (u := U) (U := U.calling g9 mk a) (Vm.Alike.refl U.vm) q.2.2.1, Ev.bl q.2.2.2⟩, va_recv hK hP (ci := 5) (q0 := 0) rfl rfl, fun U hU hW => ⟨rfl, by rw [hU]; exact hPc, va_K.moved hW.alike hKc, hE.go hS (fun _ h => h.elim) hU hW⟩⟩ rfl rfl hl.1 rfl (lv_room (Nat.le_of_ble_eq_true rfl)) dX6_bestToLift_38 ⟨Nat.le_of_ble_eq_true rfl, Nat.le_of_ble_eq_true rfl⟩)).run (fun r2 h_r2 => ?_)
  have h_r2 : r2 = 0 := h_r2
  subst h_r2
  refine lv_istore (lv' := [(5, .int 0), (4, .int 0), (0, .ref h0), (1, .int da), (2, .int ho), (3, .int 2)]) hx hb dX6_bestToLift_41 hl (by decide) rfl (fun ls hl => ?_)
  refine lv_iconst (v := 1) hx hb dX6_bestToLift_43 (by decide) ?_
  refine lv_istore (lv' := [(6, .int 1), (5, .int 0), (4, .int 0), (0, .ref h0), (1, .int da), (2, .int ho), (3, .int 2)]) hx hb dX6_bestToLift_44 hl (by decide) rfl (fun ls hl => ?_)
  refine lv_iload hx hb dX6_bestToLift_46 (lv_at hl 0 rfl) ?_
  refine lv_iload_n hx hb dX6_bestToLift_48 rfl (lv_at hl 6 rfl) ?_
  refine lv_icmp_gt (tgt := 124) hx hb dX6_bestToLift_49 (by decide) (fun c49_3 => by exfalso; exact absurd c49_3 (by decide)) (fun c49_3 => ?_)
  refine lv_iconst (v := 1) hx hb dX6_bestToLift_52 (by decide) ?_
  refine lv_iload hx hb dX6_bestToLift_53 (lv_at hl 0 rfl) ?_
  refine lv_ishl hx hb dX6_bestToLift_55 ?_
  refine cst (v := 2) (by decide) ?_
  refine lv_iconst (v := 1) hx hb dX6_bestToLift_56 (by decide) ?_
  refine lv_isub hx hb dX6_bestToLift_57 ?_
  refine cst (v := 1) (by decide) ?_
  refine lv_istore (lv' := [(7, .int 1), (6, .int 1), (5, .int 0), (4, .int 0), (0, .ref h0), (1, .int da), (2, .int ho), (3, .int 2)]) hx hb dX6_bestToLift_58 hl (by decide) rfl (fun ls hl => ?_)
  refine lv_iconst (v := 0) hx hb dX6_bestToLift_60 (by decide) ?_
  refine lv_istore (lv' := [(8, .int 0), (7, .int 1), (6, .int 1), (5, .int 0), (4, .int 0), (0, .ref h0), (1, .int da), (2, .int ho), (3, .int 2)]) hx hb dX6_bestToLift_61 hl (by decide) rfl (fun ls hl => ?_)
  refine lv_iload hx hb dX6_bestToLift_63 (lv_at hl 0 rfl) ?_
  refine lv_sipush (v := 220) hx hb dX6_bestToLift_65 (by decide) ?_
  refine lv_icmp_ge (tgt := 118) hx hb dX6_bestToLift_68 (by decide) (fun c68_4 => by exfalso; exact absurd c68_4 (by decide)) (fun c68_4 => ?_)
  refine lv_iload hx hb dX6_bestToLift_71 (lv_at hl 1 rfl) ?_
  refine lv_iconst (v := 1) hx hb dX6_bestToLift_73 (by decide) ?_
  refine lv_aload_n hx hb dX6_bestToLift_74 rfl (lv_at hl 5 rfl) ?_
  refine va_get (D := (dC, dI)) (ci := 5) (v := .int 0) (C := RX6) (T := TX6) (N := 8) hx hb hts inlX6 hown hK hP 0 rfl rfl 7 (by decide) (hts (.fieldLink RX6 42 "ClosedUntil$Timetable" "closures" "I") qw_239) (fun _ h9 => h9) rfl dX6_bestToLift_75 ?_
  refine lv_ishl hx hb dX6_bestToLift_78 ?_
  refine cst (v := 1) (by decide) ?_
  refine lv_icmp_ge (tgt := 118) hx hb dX6_bestToLift_79 (by decide) (fun c79_5 => ?_) (fun c79_5 => by exfalso; exact absurd c79_5 (by decide))
  refine lv_iinc (v := 2) (lv' := [(6, .int 2), (8, .int 0), (7, .int 1), (5, .int 0), (4, .int 0), (0, .ref h0), (1, .int da), (2, .int ho), (3, .int 2)]) hx hb dX6_bestToLift_118 hl (k := 2) rfl (by decide) (by decide) rfl (fun ls hl => ?_)
  refine lv_goto (tgt := 46) hx hb dX6_bestToLift_121 (by decide) ?_
  refine lv_iload hx hb dX6_bestToLift_46 (lv_at hl 0 rfl) ?_
  refine lv_iload_n hx hb dX6_bestToLift_48 rfl (lv_at hl 8 rfl) ?_
  refine lv_icmp_gt (tgt := 124) hx hb dX6_bestToLift_49 (by decide) (fun c49_6 => by exfalso; exact absurd c49_6 (by decide)) (fun c49_6 => ?_)
  refine lv_iconst (v := 1) hx hb dX6_bestToLift_52 (by decide) ?_
  refine lv_iload hx hb dX6_bestToLift_53 (lv_at hl 0 rfl) ?_
  refine lv_ishl hx hb dX6_bestToLift_55 ?_
  refine cst (v := 4) (by decide) ?_
  refine lv_iconst (v := 1) hx hb dX6_bestToLift_56 (by decide) ?_
  refine lv_isub hx hb dX6_bestToLift_57 ?_
  refine cst (v := 3) (by decide) ?_
  refine lv_istore (lv' := [(7, .int 3), (6, .int 2), (8, .int 0), (5, .int 0), (4, .int 0), (0, .ref h0), (1, .int da), (2, .int ho), (3, .int 2)]) hx hb dX6_bestToLift_58 hl (by decide) rfl (fun ls hl => ?_)
  refine lv_iconst (v := 0) hx hb dX6_bestToLift_60 (by decide) ?_
  refine lv_istore (lv' := [(8, .int 0), (7, .int 3), (6, .int 2), (5, .int 0), (4, .int 0), (0, .ref h0), (1, .int da), (2, .int ho), (3, .int 2)]) hx hb dX6_bestToLift_61 hl (by decide) rfl (fun ls hl => ?_)
  refine lv_iload hx hb dX6_bestToLift_63 (lv_at hl 0 rfl) ?_
  refine lv_sipush (v := 220) hx hb dX6_bestToLift_65 (by decide) ?_
  refine lv_icmp_ge (tgt := 118) hx hb dX6_bestToLift_68 (by decide) (fun c68_7 => by exfalso; exact absurd c68_7 (by decide)) (fun c68_7 => ?_)
  refine lv_iload hx hb dX6_bestToLift_71 (lv_at hl 1 rfl) ?_
  refine lv_iconst (v := 1) hx hb dX6_bestToLift_73 (by decide) ?_
  refine lv_aload_n hx hb dX6_bestToLift_74 rfl (lv_at hl 5 rfl) ?_
  refine va_get (D := (dC, dI)) (ci := 5) (v := .int 0) (C := RX6) (T := TX6) (N := 8) hx hb hts inlX6 hown hK hP 0 rfl rfl 7 (by decide) (hts (.fieldLink RX6 42 "ClosedUntil$Timetable" "closures" "I") qw_239) (fun _ h9 => h9) rfl dX6_bestToLift_75 ?_
  refine lv_ishl hx hb dX6_bestToLift_78 ?_
  refine cst (v := 1) (by decide) ?_
  refine lv_icmp_ge (tgt := 118) hx hb dX6_bestToLift_79 (by decide) (fun c79_8 => ?_) (fun c79_8 => by exfalso; exact absurd c79_8 (by decide))
  refine lv_iinc (v := 3) (lv' := [(6, .int 3), (8, .int 0), (7, .int 3), (5, .int 0), (4, .int 0), (0, .ref h0), (1, .int da), (2, .int ho), (3, .int 2)]) hx hb dX6_bestToLift_118 hl (k := 2) rfl (by decide) (by decide) rfl (fun ls hl => ?_)
  refine lv_goto (tgt := 46) hx hb dX6_bestToLift_121 (by decide) ?_
  refine lv_iload hx hb dX6_bestToLift_46 (lv_at hl 0 rfl) ?_
  refine lv_iload_n hx hb dX6_bestToLift_48 rfl (lv_at hl 8 rfl) ?_
  refine lv_icmp_gt (tgt := 124) hx hb dX6_bestToLift_49 (by decide) (fun c49_9 => ?_) (fun c49_9 => by exfalso; exact absurd c49_9 (by decide))
  refine lv_iload hx hb dX6_bestToLift_124 (lv_at hl 4 rfl) ?_
  exact W.iret (v := 0) hx hb hr (fun t ht hW => ⟨0, rfl, (rfl), ht⟩) (fun _ h => absurd h List.not_mem_nil) dX6_bestToLift_126
set_option maxHeartbeats 4000000 in
set_option maxRecDepth 100000 in
theorem c_btl3 (l : Launch) (dC : Nat → ClassId) (dI : Nat → Nat → Nat) (g : Gv) (h0 : Nat) (f6 : Nat → Nat) (da : Int32) (ho : Int32)  : Met l yX6_bestToLift (.code yX6_bestToLift cX6_bestToLift 10 (some .int) :: TBL) ({ frames := 1, cells := 0, slots := 0, locals := 40 }) (va_Pc [.ref h0, .int da, .int ho, .int 3] (fun U => va_P (dC, dI) vwCl [(h0, .inr (5, [.ref (f6 0), .ref (f6 1), .ref (f6 2), .ref (f6 3), .ref (f6 4), .ref (f6 5), .int 0, .int 0]))] U.heap ∧ va_K (dC, dI) vwCl [] U ∧ Ev g (fun _ => False) U)) (vp_Si (fun r => r = 0)) 0 0 (fun _ => False) := by
  refine Met.ofW (cc := cX6_bestToLift) (maxL := 10) (ret := (some .int)) (by decide) rfl ?_
  intro p e s m args below meth c s₁ B hml hv
  obtain ⟨rfl, hP, hK, hE⟩ := hv
  have hx := B.exec
  have hb := B.bytes
  have hr := B.returns
  have hts0 := atoms_spec (ws := (.code yX6_bestToLift cX6_bestToLift 10 (some .int) :: TBL)) B.pre
  have hts := fun (w : Cond) (h : w ∈ TBL) => hts0 w (List.mem_cons_of_mem _ h)
  have hown : s.vm.findClass RX6 = some m.cls := findClass_of_methodNamed B.named
  have hlocks := B.notSynchronized
  have hN := hE.1
  have hS : va_S (fun _ => False) s.heap s.heap [] := va_S.rf
  have hP : va_P (dC, dI) vwCl [(h0, .inr (5, [.ref (f6 0), .ref (f6 1), .ref (f6 2), .ref (f6 3), .ref (f6 4), .ref (f6 5), .int 0, .int 0]))] s.heap := hP
  have hl := lv_entry ([.ref h0, .int da, .int ho, .int 3]) (n := 10) (Nat.le_of_ble_eq_true rfl)
  rw [lg_entry_eq]
  generalize (lg_sl ([.ref h0, .int da, .int ho, .int 3]) ++ List.replicate (10 - (lg_sl ([.ref h0, .int da, .int ho, .int 3])).length) Slot.unset).toArray = ls at hl ⊢
  have hl : lv_has ls 10 [(0, .ref h0), (1, .int da), (2, .int ho), (3, .int 3)] := hl
  refine lv_iconst (v := 0) hx hb dX6_bestToLift_0 (by decide) ?_
  refine lv_istore (lv' := [(4, .int 0), (0, .ref h0), (1, .int da), (2, .int ho), (3, .int 3)]) hx hb dX6_bestToLift_1 hl (by decide) rfl (fun ls hl => ?_)
  refine lv_iload hx hb dX6_bestToLift_3 (lv_at hl 0 rfl) ?_
  refine lv_aload_n hx hb dX6_bestToLift_5 rfl (lv_at hl 1 rfl) ?_
  refine va_get (D := (dC, dI)) (ci := 5) (v := .int 0) (C := RX6) (T := TX6) (N := 8) hx hb hts inlX6 hown hK hP 0 rfl rfl 6 (by decide) (hts (.fieldLink RX6 38 "ClosedUntil$Timetable" "pieces" "I") qw_238) (fun _ h9 => h9) rfl dX6_bestToLift_6 ?_
  refine lv_icmp_ge (tgt := 33) hx hb dX6_bestToLift_9 (by decide) (fun c9_1 => ?_) (fun c9_1 => by exfalso; exact absurd c9_1 (by decide))
  refine lv_iconst (v := 0) hx hb dX6_bestToLift_33 (by decide) ?_
  refine lv_istore (lv' := [(4, .int 0), (0, .ref h0), (1, .int da), (2, .int ho), (3, .int 3)]) hx hb dX6_bestToLift_34 hl (by decide) rfl (fun ls hl => ?_)
  refine lv_aload_n hx hb dX6_bestToLift_36 rfl (lv_at hl 1 rfl) ?_
  refine lv_iconst (v := 0) hx hb dX6_bestToLift_37 (by decide) ?_
  have hPc := hP.sub (ws' := [(h0, .inr (5, [.ref (f6 0), .ref (f6 1), .ref (f6 2), .ref (f6 3), .ref (f6 4), .ref (f6 5), .int 0, .int 0]))]) [0] rfl
  have hKc := hK.sub (tys' := []) [] rfl
  refine vp_callSi ((va_runV (As := [.int 0]) (rest := []) ⟨hx, hb, hml, hown, hts⟩ (c_owg l dC dI g (h0) (f6) (0) ) (cwV 1 hts (gwV qw_245 qw_246 qw_247 qw_184 qw_244) rfl rfl rfl (by decide +kernel) ⟨Nat.le_of_ble_eq_true rfl, Nat.le_of_ble_eq_true rfl⟩) ⟨fun a U g9 mk q => ⟨q.1, q.2.1, va_K.moved (u := U) (U := U.calling g9 mk a) (Vm.Alike.refl U.vm) q.2.2.1, Ev.bl q.2.2.2⟩, va_recv hK hP (ci := 5) (q0 := 0) rfl rfl, fun U hU hW => ⟨rfl, by rw [hU]; exact hPc, va_K.moved hW.alike hKc, hE.go hS (fun _ h => h.elim) hU hW⟩⟩ rfl rfl hl.1 rfl (lv_room (Nat.le_of_ble_eq_true rfl)) dX6_bestToLift_38 ⟨Nat.le_of_ble_eq_true rfl, Nat.le_of_ble_eq_true rfl⟩)).run (fun r2 h_r2 => ?_)
  have h_r2 : r2 = 0 := h_r2
  subst h_r2
  refine lv_istore (lv' := [(5, .int 0), (4, .int 0), (0, .ref h0), (1, .int da), (2, .int ho), (3, .int 3)]) hx hb dX6_bestToLift_41 hl (by decide) rfl (fun ls hl => ?_)
  refine lv_iconst (v := 1) hx hb dX6_bestToLift_43 (by decide) ?_
  refine lv_istore (lv' := [(6, .int 1), (5, .int 0), (4, .int 0), (0, .ref h0), (1, .int da), (2, .int ho), (3, .int 3)]) hx hb dX6_bestToLift_44 hl (by decide) rfl (fun ls hl => ?_)
  refine lv_iload hx hb dX6_bestToLift_46 (lv_at hl 0 rfl) ?_
  refine lv_iload_n hx hb dX6_bestToLift_48 rfl (lv_at hl 6 rfl) ?_
  refine lv_icmp_gt (tgt := 124) hx hb dX6_bestToLift_49 (by decide) (fun c49_3 => by exfalso; exact absurd c49_3 (by decide)) (fun c49_3 => ?_)
  refine lv_iconst (v := 1) hx hb dX6_bestToLift_52 (by decide) ?_
  refine lv_iload hx hb dX6_bestToLift_53 (lv_at hl 0 rfl) ?_
  refine lv_ishl hx hb dX6_bestToLift_55 ?_
  refine cst (v := 2) (by decide) ?_
  refine lv_iconst (v := 1) hx hb dX6_bestToLift_56 (by decide) ?_
  refine lv_isub hx hb dX6_bestToLift_57 ?_
  refine cst (v := 1) (by decide) ?_
  refine lv_istore (lv' := [(7, .int 1), (6, .int 1), (5, .int 0), (4, .int 0), (0, .ref h0), (1, .int da), (2, .int ho), (3, .int 3)]) hx hb dX6_bestToLift_58 hl (by decide) rfl (fun ls hl => ?_)
  refine lv_iconst (v := 0) hx hb dX6_bestToLift_60 (by decide) ?_
  refine lv_istore (lv' := [(8, .int 0), (7, .int 1), (6, .int 1), (5, .int 0), (4, .int 0), (0, .ref h0), (1, .int da), (2, .int ho), (3, .int 3)]) hx hb dX6_bestToLift_61 hl (by decide) rfl (fun ls hl => ?_)
  refine lv_iload hx hb dX6_bestToLift_63 (lv_at hl 0 rfl) ?_
  refine lv_sipush (v := 220) hx hb dX6_bestToLift_65 (by decide) ?_
  refine lv_icmp_ge (tgt := 118) hx hb dX6_bestToLift_68 (by decide) (fun c68_4 => by exfalso; exact absurd c68_4 (by decide)) (fun c68_4 => ?_)
  refine lv_iload hx hb dX6_bestToLift_71 (lv_at hl 1 rfl) ?_
  refine lv_iconst (v := 1) hx hb dX6_bestToLift_73 (by decide) ?_
  refine lv_aload_n hx hb dX6_bestToLift_74 rfl (lv_at hl 5 rfl) ?_
  refine va_get (D := (dC, dI)) (ci := 5) (v := .int 0) (C := RX6) (T := TX6) (N := 8) hx hb hts inlX6 hown hK hP 0 rfl rfl 7 (by decide) (hts (.fieldLink RX6 42 "ClosedUntil$Timetable" "closures" "I") qw_239) (fun _ h9 => h9) rfl dX6_bestToLift_75 ?_
  refine lv_ishl hx hb dX6_bestToLift_78 ?_
  refine cst (v := 1) (by decide) ?_
  refine lv_icmp_ge (tgt := 118) hx hb dX6_bestToLift_79 (by decide) (fun c79_5 => ?_) (fun c79_5 => by exfalso; exact absurd c79_5 (by decide))
  refine lv_iinc (v := 2) (lv' := [(6, .int 2), (8, .int 0), (7, .int 1), (5, .int 0), (4, .int 0), (0, .ref h0), (1, .int da), (2, .int ho), (3, .int 3)]) hx hb dX6_bestToLift_118 hl (k := 2) rfl (by decide) (by decide) rfl (fun ls hl => ?_)
  refine lv_goto (tgt := 46) hx hb dX6_bestToLift_121 (by decide) ?_
  refine lv_iload hx hb dX6_bestToLift_46 (lv_at hl 0 rfl) ?_
  refine lv_iload_n hx hb dX6_bestToLift_48 rfl (lv_at hl 8 rfl) ?_
  refine lv_icmp_gt (tgt := 124) hx hb dX6_bestToLift_49 (by decide) (fun c49_6 => by exfalso; exact absurd c49_6 (by decide)) (fun c49_6 => ?_)
  refine lv_iconst (v := 1) hx hb dX6_bestToLift_52 (by decide) ?_
  refine lv_iload hx hb dX6_bestToLift_53 (lv_at hl 0 rfl) ?_
  refine lv_ishl hx hb dX6_bestToLift_55 ?_
  refine cst (v := 4) (by decide) ?_
  refine lv_iconst (v := 1) hx hb dX6_bestToLift_56 (by decide) ?_
  refine lv_isub hx hb dX6_bestToLift_57 ?_
  refine cst (v := 3) (by decide) ?_
  refine lv_istore (lv' := [(7, .int 3), (6, .int 2), (8, .int 0), (5, .int 0), (4, .int 0), (0, .ref h0), (1, .int da), (2, .int ho), (3, .int 3)]) hx hb dX6_bestToLift_58 hl (by decide) rfl (fun ls hl => ?_)
  refine lv_iconst (v := 0) hx hb dX6_bestToLift_60 (by decide) ?_
  refine lv_istore (lv' := [(8, .int 0), (7, .int 3), (6, .int 2), (5, .int 0), (4, .int 0), (0, .ref h0), (1, .int da), (2, .int ho), (3, .int 3)]) hx hb dX6_bestToLift_61 hl (by decide) rfl (fun ls hl => ?_)
  refine lv_iload hx hb dX6_bestToLift_63 (lv_at hl 0 rfl) ?_
  refine lv_sipush (v := 220) hx hb dX6_bestToLift_65 (by decide) ?_
  refine lv_icmp_ge (tgt := 118) hx hb dX6_bestToLift_68 (by decide) (fun c68_7 => by exfalso; exact absurd c68_7 (by decide)) (fun c68_7 => ?_)
  refine lv_iload hx hb dX6_bestToLift_71 (lv_at hl 1 rfl) ?_
  refine lv_iconst (v := 1) hx hb dX6_bestToLift_73 (by decide) ?_
  refine lv_aload_n hx hb dX6_bestToLift_74 rfl (lv_at hl 5 rfl) ?_
  refine va_get (D := (dC, dI)) (ci := 5) (v := .int 0) (C := RX6) (T := TX6) (N := 8) hx hb hts inlX6 hown hK hP 0 rfl rfl 7 (by decide) (hts (.fieldLink RX6 42 "ClosedUntil$Timetable" "closures" "I") qw_239) (fun _ h9 => h9) rfl dX6_bestToLift_75 ?_
  refine lv_ishl hx hb dX6_bestToLift_78 ?_
  refine cst (v := 1) (by decide) ?_
  refine lv_icmp_ge (tgt := 118) hx hb dX6_bestToLift_79 (by decide) (fun c79_8 => ?_) (fun c79_8 => by exfalso; exact absurd c79_8 (by decide))
  refine lv_iinc (v := 3) (lv' := [(6, .int 3), (8, .int 0), (7, .int 3), (5, .int 0), (4, .int 0), (0, .ref h0), (1, .int da), (2, .int ho), (3, .int 3)]) hx hb dX6_bestToLift_118 hl (k := 2) rfl (by decide) (by decide) rfl (fun ls hl => ?_)
  refine lv_goto (tgt := 46) hx hb dX6_bestToLift_121 (by decide) ?_
  refine lv_iload hx hb dX6_bestToLift_46 (lv_at hl 0 rfl) ?_
  refine lv_iload_n hx hb dX6_bestToLift_48 rfl (lv_at hl 8 rfl) ?_
  refine lv_icmp_gt (tgt := 124) hx hb dX6_bestToLift_49 (by decide) (fun c49_9 => by exfalso; exact absurd c49_9 (by decide)) (fun c49_9 => ?_)
  refine lv_iconst (v := 1) hx hb dX6_bestToLift_52 (by decide) ?_
  refine lv_iload hx hb dX6_bestToLift_53 (lv_at hl 0 rfl) ?_
  refine lv_ishl hx hb dX6_bestToLift_55 ?_
  refine cst (v := 8) (by decide) ?_
  refine lv_iconst (v := 1) hx hb dX6_bestToLift_56 (by decide) ?_
  refine lv_isub hx hb dX6_bestToLift_57 ?_
  refine cst (v := 7) (by decide) ?_
  refine lv_istore (lv' := [(7, .int 7), (6, .int 3), (8, .int 0), (5, .int 0), (4, .int 0), (0, .ref h0), (1, .int da), (2, .int ho), (3, .int 3)]) hx hb dX6_bestToLift_58 hl (by decide) rfl (fun ls hl => ?_)
  refine lv_iconst (v := 0) hx hb dX6_bestToLift_60 (by decide) ?_
  refine lv_istore (lv' := [(8, .int 0), (7, .int 7), (6, .int 3), (5, .int 0), (4, .int 0), (0, .ref h0), (1, .int da), (2, .int ho), (3, .int 3)]) hx hb dX6_bestToLift_61 hl (by decide) rfl (fun ls hl => ?_)
  refine lv_iload hx hb dX6_bestToLift_63 (lv_at hl 0 rfl) ?_
  refine lv_sipush (v := 220) hx hb dX6_bestToLift_65 (by decide) ?_
  refine lv_icmp_ge (tgt := 118) hx hb dX6_bestToLift_68 (by decide) (fun c68_10 => by exfalso; exact absurd c68_10 (by decide)) (fun c68_10 => ?_)
  refine lv_iload hx hb dX6_bestToLift_71 (lv_at hl 1 rfl) ?_
  refine lv_iconst (v := 1) hx hb dX6_bestToLift_73 (by decide) ?_
  refine lv_aload_n hx hb dX6_bestToLift_74 rfl (lv_at hl 5 rfl) ?_
  refine va_get (D := (dC, dI)) (ci := 5) (v := .int 0) (C := RX6) (T := TX6) (N := 8) hx hb hts inlX6 hown hK hP 0 rfl rfl 7 (by decide) (hts (.fieldLink RX6 42 "ClosedUntil$Timetable" "closures" "I") qw_239) (fun _ h9 => h9) rfl dX6_bestToLift_75 ?_
  refine lv_ishl hx hb dX6_bestToLift_78 ?_
  refine cst (v := 1) (by decide) ?_
  refine lv_icmp_ge (tgt := 118) hx hb dX6_bestToLift_79 (by decide) (fun c79_11 => ?_) (fun c79_11 => by exfalso; exact absurd c79_11 (by decide))
  refine lv_iinc (v := 4) (lv' := [(6, .int 4), (8, .int 0), (7, .int 7), (5, .int 0), (4, .int 0), (0, .ref h0), (1, .int da), (2, .int ho), (3, .int 3)]) hx hb dX6_bestToLift_118 hl (k := 2) rfl (by decide) (by decide) rfl (fun ls hl => ?_)
  refine lv_goto (tgt := 46) hx hb dX6_bestToLift_121 (by decide) ?_
  refine lv_iload hx hb dX6_bestToLift_46 (lv_at hl 0 rfl) ?_
  refine lv_iload_n hx hb dX6_bestToLift_48 rfl (lv_at hl 8 rfl) ?_
  refine lv_icmp_gt (tgt := 124) hx hb dX6_bestToLift_49 (by decide) (fun c49_12 => ?_) (fun c49_12 => by exfalso; exact absurd c49_12 (by decide))
  refine lv_iload hx hb dX6_bestToLift_124 (lv_at hl 4 rfl) ?_
  exact W.iret (v := 0) hx hb hr (fun t ht hW => ⟨0, rfl, (rfl), ht⟩) (fun _ h => absurd h List.not_mem_nil) dX6_bestToLift_126
set_option maxHeartbeats 4000000 in
set_option maxRecDepth 100000 in
theorem c_bc0 (l : Launch) (dC : Nat → ClassId) (dI : Nat → Nat → Nat) (g : Gv)   : Met l yJ6_bitCount_0f7a4 (.code yJ6_bitCount_0f7a4 cJ6_bitCount_0f7a4 1 (some .int) :: TBL) ({ frames := 0, cells := 0, slots := 0, locals := 0 }) (va_Pc [.int 0] (fun U => va_P (dC, dI) vwCl [] U.heap ∧ va_K (dC, dI) vwCl [] U ∧ Ev g (fun _ => False) U)) (vp_Si (fun r => r = 0)) 0 0 (fun _ => False) := by
  refine Met.ofW (cc := cJ6_bitCount_0f7a4) (maxL := 1) (ret := (some .int)) (by decide) rfl ?_
  intro p e s m args below meth c s₁ B hml hv
  obtain ⟨rfl, hP, hK, hE⟩ := hv
  have hx := B.exec
  have hb := B.bytes
  have hr := B.returns
  have hts0 := atoms_spec (ws := (.code yJ6_bitCount_0f7a4 cJ6_bitCount_0f7a4 1 (some .int) :: TBL)) B.pre
  have hts := fun (w : Cond) (h : w ∈ TBL) => hts0 w (List.mem_cons_of_mem _ h)
  have hown : s.vm.findClass RJ6 = some m.cls := findClass_of_methodNamed B.named
  have hlocks := B.notSynchronized
  have hN := hE.1
  have hS : va_S (fun _ => False) s.heap s.heap [] := va_S.rf
  have hP : va_P (dC, dI) vwCl [] s.heap := hP
  have hl := lv_entry ([.int 0]) (n := 1) (Nat.le_of_ble_eq_true rfl)
  rw [lg_entry_eq]
  generalize (lg_sl ([.int 0]) ++ List.replicate (1 - (lg_sl ([.int 0])).length) Slot.unset).toArray = ls at hl ⊢
  have hl : lv_has ls 1 [(0, .int 0)] := hl
  refine lv_iload_n hx hb dJ6_bitCount_0f7a4_0 rfl (lv_at hl 0 rfl) ?_
  refine lv_iload_n hx hb dJ6_bitCount_0f7a4_1 rfl (lv_at hl 0 rfl) ?_
  refine lv_iconst (v := 1) hx hb dJ6_bitCount_0f7a4_2 (by decide) ?_
  refine lv_iushr hx hb dJ6_bitCount_0f7a4_3 rfl ?_
  refine cst (v := 0) (by decide) ?_
  refine lv_ldcw (v := 1431655765) hx hb hown (hts (.constant RJ6 265 (1431655765)) qw_248) dJ6_bitCount_0f7a4_4 ?_
  refine lv_iand hx hb dJ6_bitCount_0f7a4_7 ?_
  refine cst (v := 0) (by decide) ?_
  refine lv_isub hx hb dJ6_bitCount_0f7a4_8 ?_
  refine cst (v := 0) (by decide) ?_
  refine lv_istore_n (lv' := [(0, .int 0)]) hx hb dJ6_bitCount_0f7a4_9 rfl hl (by decide) rfl (fun ls hl => ?_)
  refine lv_iload_n hx hb dJ6_bitCount_0f7a4_10 rfl (lv_at hl 0 rfl) ?_
  refine lv_ldcw (v := 858993459) hx hb hown (hts (.constant RJ6 266 (858993459)) qw_249) dJ6_bitCount_0f7a4_11 ?_
  refine lv_iand hx hb dJ6_bitCount_0f7a4_14 ?_
  refine cst (v := 0) (by decide) ?_
  refine lv_iload_n hx hb dJ6_bitCount_0f7a4_15 rfl (lv_at hl 0 rfl) ?_
  refine lv_iconst (v := 2) hx hb dJ6_bitCount_0f7a4_16 (by decide) ?_
  refine lv_iushr hx hb dJ6_bitCount_0f7a4_17 rfl ?_
  refine cst (v := 0) (by decide) ?_
  refine lv_ldcw (v := 858993459) hx hb hown (hts (.constant RJ6 266 (858993459)) qw_249) dJ6_bitCount_0f7a4_18 ?_
  refine lv_iand hx hb dJ6_bitCount_0f7a4_21 ?_
  refine cst (v := 0) (by decide) ?_
  refine lv_iadd hx hb dJ6_bitCount_0f7a4_22 ?_
  refine cst (v := 0) (by decide) ?_
  refine lv_istore_n (lv' := [(0, .int 0)]) hx hb dJ6_bitCount_0f7a4_23 rfl hl (by decide) rfl (fun ls hl => ?_)
  refine lv_iload_n hx hb dJ6_bitCount_0f7a4_24 rfl (lv_at hl 0 rfl) ?_
  refine lv_iload_n hx hb dJ6_bitCount_0f7a4_25 rfl (lv_at hl 0 rfl) ?_
  refine lv_iconst (v := 4) hx hb dJ6_bitCount_0f7a4_26 (by decide) ?_
  refine lv_iushr hx hb dJ6_bitCount_0f7a4_27 rfl ?_
  refine cst (v := 0) (by decide) ?_
  refine lv_iadd hx hb dJ6_bitCount_0f7a4_28 ?_
  refine cst (v := 0) (by decide) ?_
  refine lv_ldcw (v := 252645135) hx hb hown (hts (.constant RJ6 267 (252645135)) qw_250) dJ6_bitCount_0f7a4_29 ?_
  refine lv_iand hx hb dJ6_bitCount_0f7a4_32 ?_
  refine cst (v := 0) (by decide) ?_
  refine lv_istore_n (lv' := [(0, .int 0)]) hx hb dJ6_bitCount_0f7a4_33 rfl hl (by decide) rfl (fun ls hl => ?_)
  refine lv_iload_n hx hb dJ6_bitCount_0f7a4_34 rfl (lv_at hl 0 rfl) ?_
  refine lv_iload_n hx hb dJ6_bitCount_0f7a4_35 rfl (lv_at hl 0 rfl) ?_
  refine lv_bipush (v := 8) hx hb dJ6_bitCount_0f7a4_36 (by decide) ?_
  refine lv_iushr hx hb dJ6_bitCount_0f7a4_38 rfl ?_
  refine cst (v := 0) (by decide) ?_
  refine lv_iadd hx hb dJ6_bitCount_0f7a4_39 ?_
  refine cst (v := 0) (by decide) ?_
  refine lv_istore_n (lv' := [(0, .int 0)]) hx hb dJ6_bitCount_0f7a4_40 rfl hl (by decide) rfl (fun ls hl => ?_)
  refine lv_iload_n hx hb dJ6_bitCount_0f7a4_41 rfl (lv_at hl 0 rfl) ?_
  refine lv_iload_n hx hb dJ6_bitCount_0f7a4_42 rfl (lv_at hl 0 rfl) ?_
  refine lv_bipush (v := 16) hx hb dJ6_bitCount_0f7a4_43 (by decide) ?_
  refine lv_iushr hx hb dJ6_bitCount_0f7a4_45 rfl ?_
  refine cst (v := 0) (by decide) ?_
  refine lv_iadd hx hb dJ6_bitCount_0f7a4_46 ?_
  refine cst (v := 0) (by decide) ?_
  refine lv_istore_n (lv' := [(0, .int 0)]) hx hb dJ6_bitCount_0f7a4_47 rfl hl (by decide) rfl (fun ls hl => ?_)
  refine lv_iload_n hx hb dJ6_bitCount_0f7a4_48 rfl (lv_at hl 0 rfl) ?_
  refine lv_bipush (v := 63) hx hb dJ6_bitCount_0f7a4_49 (by decide) ?_
  refine lv_iand hx hb dJ6_bitCount_0f7a4_51 ?_
  refine cst (v := 0) (by decide) ?_
  exact W.iret (v := 0) hx hb hr (fun t ht hW => ⟨0, rfl, (rfl), ht⟩) (fun _ h => absurd h List.not_mem_nil) dJ6_bitCount_0f7a4_52
set_option maxHeartbeats 4000000 in
set_option maxRecDepth 100000 in
theorem c_hasx (l : Launch) (dC : Nat → ClassId) (dI : Nat → Nat → Nat) (g : Gv) (d : Int32)  : Met l yX0_has (.code yX0_has cX0_has 1 (some .boolean) :: TBL) ({ frames := 0, cells := 0, slots := 0, locals := 0 }) (va_Pc [.int d] (fun U => va_P (dC, dI) vwCl [] U.heap ∧ va_K (dC, dI) vwCl [] U ∧ Ev g (fun _ => False) U)) (vp_Si (fun r => (True ∧ r = 1) ∨ (True ∧ r = 0))) 0 0 (fun _ => False) := by
  refine Met.ofW (cc := cX0_has) (maxL := 1) (ret := (some .boolean)) (by decide) rfl ?_
  intro p e s m args below meth c s₁ B hml hv
  obtain ⟨rfl, hP, hK, hE⟩ := hv
  have hx := B.exec
  have hb := B.bytes
  have hr := B.returns
  have hts0 := atoms_spec (ws := (.code yX0_has cX0_has 1 (some .boolean) :: TBL)) B.pre
  have hts := fun (w : Cond) (h : w ∈ TBL) => hts0 w (List.mem_cons_of_mem _ h)
  have hown : s.vm.findClass RX0 = some m.cls := findClass_of_methodNamed B.named
  have hlocks := B.notSynchronized
  have hN := hE.1
  have hS : va_S (fun _ => False) s.heap s.heap [] := va_S.rf
  have hP : va_P (dC, dI) vwCl [] s.heap := hP
  have hl := lv_entry ([.int d]) (n := 1) (Nat.le_of_ble_eq_true rfl)
  rw [lg_entry_eq]
  generalize (lg_sl ([.int d]) ++ List.replicate (1 - (lg_sl ([.int d])).length) Slot.unset).toArray = ls at hl ⊢
  have hl : lv_has ls 1 [(0, .int d)] := hl
  refine lv_iload_n hx hb dX0_has_0 rfl (lv_at hl 0 rfl) ?_
  refine lv_if_lt (tgt := 14) hx hb dX0_has_1 (by decide) (fun c1_1 => ?_) (fun c1_1 => ?_)
  · have c1_1 : d.toInt < 0 := (cv_lt rfl (by decide)).mp c1_1
    refine lv_iconst (v := 0) hx hb dX0_has_14 (by decide) ?_
    exact W.zret (v := 0) hx hb hr rfl (fun t ht hW => ⟨0, rfl, (by first | exact Or.inl ⟨trivial, rfl⟩ | exact Or.inr ⟨trivial, rfl⟩), ht⟩) (fun _ h => absurd h List.not_mem_nil) dX0_has_15
  · have c1_1 : ¬ (d.toInt < 0) := mt (cv_lt rfl (by decide)).mpr c1_1
    refine lv_iload_n hx hb dX0_has_4 rfl (lv_at hl 0 rfl) ?_
    refine lv_ldc (v := 219145) hx hb hown (hts (.constant RX0 9 (219145)) qw_0) dX0_has_5 ?_
    refine lv_icmp_ge (tgt := 14) hx hb dX0_has_7 (by decide) (fun c7_2 => ?_) (fun c7_2 => ?_)
    · have c7_2 : 219145 ≤ d.toInt := (cv_le (by decide) rfl).mp c7_2
      refine lv_iconst (v := 0) hx hb dX0_has_14 (by decide) ?_
      exact W.zret (v := 0) hx hb hr rfl (fun t ht hW => ⟨0, rfl, (by first | exact Or.inl ⟨trivial, rfl⟩ | exact Or.inr ⟨trivial, rfl⟩), ht⟩) (fun _ h => absurd h List.not_mem_nil) dX0_has_15
    · have c7_2 : ¬ (219145 ≤ d.toInt) := mt (cv_le (by decide) rfl).mpr c7_2
      refine lv_iconst (v := 1) hx hb dX0_has_10 (by decide) ?_
      refine lv_goto (tgt := 15) hx hb dX0_has_11 (by decide) ?_
      exact W.zret (v := 1) hx hb hr rfl (fun t ht hW => ⟨1, rfl, (by first | exact Or.inl ⟨trivial, rfl⟩ | exact Or.inr ⟨trivial, rfl⟩), ht⟩) (fun _ h => absurd h List.not_mem_nil) dX0_has_15
