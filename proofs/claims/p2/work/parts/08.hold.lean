theorem dX1_clear_0 : decode cX1_clear 0 = .ok (.aload_n 0, 1) := by decide +kernel
theorem dX1_clear_1 : decode cX1_clear 1 = .ok (.iconst 0, 1) := by decide +kernel
theorem dX1_clear_2 : decode cX1_clear 2 = .ok (.putfield 45, 3) := by decide +kernel
theorem dX1_clear_5 : decode cX1_clear 5 = .ok (.aload_n 0, 1) := by decide +kernel
theorem dX1_clear_6 : decode cX1_clear 6 = .ok (.iconst 0, 1) := by decide +kernel
theorem dX1_clear_7 : decode cX1_clear 7 = .ok (.putfield 49, 3) := by decide +kernel
theorem dX1_clear_10 : decode cX1_clear 10 = .ok (.aload_n 0, 1) := by decide +kernel
theorem dX1_clear_11 : decode cX1_clear 11 = .ok (.iconst 0, 1) := by decide +kernel
theorem dX1_clear_12 : decode cX1_clear 12 = .ok (.putfield 52, 3) := by decide +kernel
theorem dX1_clear_15 : decode cX1_clear 15 = .ok (.aload_n 0, 1) := by decide +kernel
theorem dX1_clear_16 : decode cX1_clear 16 = .ok (.iconst 0, 1) := by decide +kernel
theorem dX1_clear_17 : decode cX1_clear 17 = .ok (.putfield 55, 3) := by decide +kernel
theorem dX1_clear_20 : decode cX1_clear 20 = .ok (.return_, 1) := by decide +kernel
theorem dX1_hasPerson_0 : decode cX1_hasPerson 0 = .ok (.iload_n 1, 1) := by decide +kernel
theorem dX1_hasPerson_1 : decode cX1_hasPerson 1 = .ok (.ifCond .lt 15, 3) := by decide +kernel
theorem dX1_hasPerson_4 : decode cX1_hasPerson 4 = .ok (.iload_n 1, 1) := by decide +kernel
theorem dX1_hasPerson_5 : decode cX1_hasPerson 5 = .ok (.aload_n 0, 1) := by decide +kernel
theorem dX1_hasPerson_6 : decode cX1_hasPerson 6 = .ok (.getfield 45, 3) := by decide +kernel
theorem dX1_hasPerson_9 : decode cX1_hasPerson 9 = .ok (.if_icmp .ge 7, 3) := by decide +kernel
theorem dX1_hasPerson_12 : decode cX1_hasPerson 12 = .ok (.iconst 1, 1) := by decide +kernel
theorem dX1_hasPerson_13 : decode cX1_hasPerson 13 = .ok (.goto 4, 3) := by decide +kernel
theorem dX1_hasPerson_16 : decode cX1_hasPerson 16 = .ok (.iconst 0, 1) := by decide +kernel
theorem dX1_hasPerson_17 : decode cX1_hasPerson 17 = .ok (.ireturn, 1) := by decide +kernel
theorem dX1_hasPiece_0 : decode cX1_hasPiece 0 = .ok (.iload_n 1, 1) := by decide +kernel
theorem dX1_hasPiece_1 : decode cX1_hasPiece 1 = .ok (.ifCond .lt 15, 3) := by decide +kernel
theorem dX1_hasPiece_4 : decode cX1_hasPiece 4 = .ok (.iload_n 1, 1) := by decide +kernel
theorem dX1_hasPiece_5 : decode cX1_hasPiece 5 = .ok (.aload_n 0, 1) := by decide +kernel
theorem dX1_hasPiece_6 : decode cX1_hasPiece 6 = .ok (.getfield 52, 3) := by decide +kernel
theorem dX1_hasPiece_9 : decode cX1_hasPiece 9 = .ok (.if_icmp .ge 7, 3) := by decide +kernel
theorem dX1_hasPiece_12 : decode cX1_hasPiece 12 = .ok (.iconst 1, 1) := by decide +kernel
theorem dX1_hasPiece_13 : decode cX1_hasPiece 13 = .ok (.goto 4, 3) := by decide +kernel
theorem dX1_hasPiece_16 : decode cX1_hasPiece 16 = .ok (.iconst 0, 1) := by decide +kernel
theorem dX1_hasPiece_17 : decode cX1_hasPiece 17 = .ok (.ireturn, 1) := by decide +kernel
theorem dX1_hasClosure_0 : decode cX1_hasClosure 0 = .ok (.iload_n 1, 1) := by decide +kernel
theorem dX1_hasClosure_1 : decode cX1_hasClosure 1 = .ok (.ifCond .lt 15, 3) := by decide +kernel
theorem dX1_hasClosure_4 : decode cX1_hasClosure 4 = .ok (.iload_n 1, 1) := by decide +kernel
theorem dX1_hasClosure_5 : decode cX1_hasClosure 5 = .ok (.aload_n 0, 1) := by decide +kernel
theorem dX1_hasClosure_6 : decode cX1_hasClosure 6 = .ok (.getfield 55, 3) := by decide +kernel
theorem dX1_hasClosure_9 : decode cX1_hasClosure 9 = .ok (.if_icmp .ge 7, 3) := by decide +kernel
theorem dX1_hasClosure_12 : decode cX1_hasClosure 12 = .ok (.iconst 1, 1) := by decide +kernel
theorem dX1_hasClosure_13 : decode cX1_hasClosure 13 = .ok (.goto 4, 3) := by decide +kernel
theorem dX1_hasClosure_16 : decode cX1_hasClosure 16 = .ok (.iconst 0, 1) := by decide +kernel
theorem dX1_hasClosure_17 : decode cX1_hasClosure 17 = .ok (.ireturn, 1) := by decide +kernel
theorem dX1_piecesOf_0 : decode cX1_piecesOf 0 = .ok (.iconst 0, 1) := by decide +kernel
theorem dX1_piecesOf_1 : decode cX1_piecesOf 1 = .ok (.istore_n 2, 1) := by decide +kernel
theorem dX1_piecesOf_2 : decode cX1_piecesOf 2 = .ok (.iconst 0, 1) := by decide +kernel
theorem dX1_piecesOf_3 : decode cX1_piecesOf 3 = .ok (.istore_n 3, 1) := by decide +kernel
theorem dX1_piecesOf_4 : decode cX1_piecesOf 4 = .ok (.iload_n 3, 1) := by decide +kernel
theorem dX1_piecesOf_5 : decode cX1_piecesOf 5 = .ok (.aload_n 0, 1) := by decide +kernel
theorem dX1_piecesOf_6 : decode cX1_piecesOf 6 = .ok (.getfield 52, 3) := by decide +kernel
theorem dX1_piecesOf_9 : decode cX1_piecesOf 9 = .ok (.if_icmp .ge 28, 3) := by decide +kernel
theorem dX1_piecesOf_12 : decode cX1_piecesOf 12 = .ok (.aload_n 0, 1) := by decide +kernel
theorem dX1_piecesOf_13 : decode cX1_piecesOf 13 = .ok (.getfield 21, 3) := by decide +kernel
theorem dX1_piecesOf_16 : decode cX1_piecesOf 16 = .ok (.iload_n 3, 1) := by decide +kernel
theorem dX1_piecesOf_17 : decode cX1_piecesOf 17 = .ok (.iaload, 1) := by decide +kernel
theorem dX1_piecesOf_18 : decode cX1_piecesOf 18 = .ok (.iload_n 1, 1) := by decide +kernel
theorem dX1_piecesOf_19 : decode cX1_piecesOf 19 = .ok (.invokestatic 58, 3) := by decide +kernel
theorem dX1_piecesOf_22 : decode cX1_piecesOf 22 = .ok (.ifCond .eq 9, 3) := by decide +kernel
theorem dX1_piecesOf_25 : decode cX1_piecesOf 25 = .ok (.iload_n 2, 1) := by decide +kernel
theorem dX1_piecesOf_26 : decode cX1_piecesOf 26 = .ok (.iconst 1, 1) := by decide +kernel
theorem dX1_piecesOf_27 : decode cX1_piecesOf 27 = .ok (.iload_n 3, 1) := by decide +kernel
theorem dX1_piecesOf_28 : decode cX1_piecesOf 28 = .ok (.ishl, 1) := by decide +kernel
theorem dX1_piecesOf_29 : decode cX1_piecesOf 29 = .ok (.ior, 1) := by decide +kernel
theorem dX1_piecesOf_30 : decode cX1_piecesOf 30 = .ok (.istore_n 2, 1) := by decide +kernel
theorem dX1_piecesOf_31 : decode cX1_piecesOf 31 = .ok (.iinc 3 1, 3) := by decide +kernel
theorem dX1_piecesOf_34 : decode cX1_piecesOf 34 = .ok (.goto (-30), 3) := by decide +kernel
theorem dX1_piecesOf_37 : decode cX1_piecesOf 37 = .ok (.iload_n 2, 1) := by decide +kernel
theorem dX1_piecesOf_38 : decode cX1_piecesOf 38 = .ok (.ireturn, 1) := by decide +kernel
theorem dX1_isTarget_0 : decode cX1_isTarget 0 = .ok (.aload_n 0, 1) := by decide +kernel
theorem dX1_isTarget_1 : decode cX1_isTarget 1 = .ok (.getfield 30, 3) := by decide +kernel
theorem dX1_isTarget_4 : decode cX1_isTarget 4 = .ok (.iload_n 1, 1) := by decide +kernel
theorem dX1_isTarget_5 : decode cX1_isTarget 5 = .ok (.iaload, 1) := by decide +kernel
theorem dX1_isTarget_6 : decode cX1_isTarget 6 = .ok (.istore_n 3, 1) := by decide +kernel
theorem dX1_isTarget_7 : decode cX1_isTarget 7 = .ok (.aload_n 0, 1) := by decide +kernel
theorem dX1_isTarget_8 : decode cX1_isTarget 8 = .ok (.getfield 27, 3) := by decide +kernel
theorem dX1_isTarget_11 : decode cX1_isTarget 11 = .ok (.iload_n 1, 1) := by decide +kernel
theorem dX1_isTarget_12 : decode cX1_isTarget 12 = .ok (.iaload, 1) := by decide +kernel
theorem dX1_isTarget_13 : decode cX1_isTarget 13 = .ok (.lookupswitch 54 #[(1, 27), (2, 38)], 27) := by decide +kernel
theorem dX1_isTarget_40 : decode cX1_isTarget 40 = .ok (.aload_n 0, 1) := by decide +kernel
theorem dX1_isTarget_41 : decode cX1_isTarget 41 = .ok (.getfield 21, 3) := by decide +kernel
theorem dX1_isTarget_44 : decode cX1_isTarget 44 = .ok (.iload_n 2, 1) := by decide +kernel
theorem dX1_isTarget_45 : decode cX1_isTarget 45 = .ok (.iaload, 1) := by decide +kernel
theorem dX1_isTarget_46 : decode cX1_isTarget 46 = .ok (.iload_n 3, 1) := by decide +kernel
theorem dX1_isTarget_47 : decode cX1_isTarget 47 = .ok (.invokestatic 58, 3) := by decide +kernel
theorem dX1_isTarget_50 : decode cX1_isTarget 50 = .ok (.ireturn, 1) := by decide +kernel
theorem dX1_isTarget_51 : decode cX1_isTarget 51 = .ok (.aload_n 0, 1) := by decide +kernel
theorem dX1_isTarget_52 : decode cX1_isTarget 52 = .ok (.getfield 24, 3) := by decide +kernel
theorem dX1_isTarget_55 : decode cX1_isTarget 55 = .ok (.iload_n 2, 1) := by decide +kernel
theorem dX1_isTarget_56 : decode cX1_isTarget 56 = .ok (.iaload, 1) := by decide +kernel
theorem dX1_isTarget_57 : decode cX1_isTarget 57 = .ok (.iload_n 3, 1) := by decide +kernel
theorem dX1_isTarget_58 : decode cX1_isTarget 58 = .ok (.if_icmp .ne 7, 3) := by decide +kernel
theorem dX1_isTarget_61 : decode cX1_isTarget 61 = .ok (.iconst 1, 1) := by decide +kernel
theorem dX1_isTarget_62 : decode cX1_isTarget 62 = .ok (.goto 4, 3) := by decide +kernel
theorem dX1_isTarget_65 : decode cX1_isTarget 65 = .ok (.iconst 0, 1) := by decide +kernel
theorem dX1_isTarget_66 : decode cX1_isTarget 66 = .ok (.ireturn, 1) := by decide +kernel
theorem dX1_isTarget_67 : decode cX1_isTarget 67 = .ok (.iload_n 2, 1) := by decide +kernel
theorem dX1_isTarget_68 : decode cX1_isTarget 68 = .ok (.iload_n 3, 1) := by decide +kernel
theorem dX1_isTarget_69 : decode cX1_isTarget 69 = .ok (.if_icmp .ne 7, 3) := by decide +kernel
theorem dX1_isTarget_72 : decode cX1_isTarget 72 = .ok (.iconst 1, 1) := by decide +kernel
theorem dX1_isTarget_73 : decode cX1_isTarget 73 = .ok (.goto 4, 3) := by decide +kernel
theorem dX1_isTarget_76 : decode cX1_isTarget 76 = .ok (.iconst 0, 1) := by decide +kernel
theorem dX1_isTarget_77 : decode cX1_isTarget 77 = .ok (.ireturn, 1) := by decide +kernel
theorem dX1_holdingFor_0 : decode cX1_holdingFor 0 = .ok (.iconst 0, 1) := by decide +kernel
theorem dX1_holdingFor_1 : decode cX1_holdingFor 1 = .ok (.istore_n 2, 1) := by decide +kernel
theorem dX1_holdingFor_2 : decode cX1_holdingFor 2 = .ok (.iconst 0, 1) := by decide +kernel
theorem dX1_holdingFor_3 : decode cX1_holdingFor 3 = .ok (.istore_n 3, 1) := by decide +kernel
theorem dX1_holdingFor_4 : decode cX1_holdingFor 4 = .ok (.iload_n 3, 1) := by decide +kernel
theorem dX1_holdingFor_5 : decode cX1_holdingFor 5 = .ok (.aload_n 0, 1) := by decide +kernel
theorem dX1_holdingFor_6 : decode cX1_holdingFor 6 = .ok (.getfield 55, 3) := by decide +kernel
theorem dX1_holdingFor_9 : decode cX1_holdingFor 9 = .ok (.if_icmp .ge 28, 3) := by decide +kernel
theorem dX1_holdingFor_12 : decode cX1_holdingFor 12 = .ok (.iload_n 1, 1) := by decide +kernel
theorem dX1_holdingFor_13 : decode cX1_holdingFor 13 = .ok (.aload_n 0, 1) := by decide +kernel
theorem dX1_holdingFor_14 : decode cX1_holdingFor 14 = .ok (.getfield 27, 3) := by decide +kernel
theorem dX1_holdingFor_17 : decode cX1_holdingFor 17 = .ok (.iload_n 3, 1) := by decide +kernel
theorem dX1_holdingFor_18 : decode cX1_holdingFor 18 = .ok (.iaload, 1) := by decide +kernel
theorem dX1_holdingFor_19 : decode cX1_holdingFor 19 = .ok (.invokestatic 58, 3) := by decide +kernel
theorem dX1_holdingFor_22 : decode cX1_holdingFor 22 = .ok (.ifCond .ne 9, 3) := by decide +kernel
theorem dX1_holdingFor_25 : decode cX1_holdingFor 25 = .ok (.iload_n 2, 1) := by decide +kernel
theorem dX1_holdingFor_26 : decode cX1_holdingFor 26 = .ok (.iconst 1, 1) := by decide +kernel
theorem dX1_holdingFor_27 : decode cX1_holdingFor 27 = .ok (.iload_n 3, 1) := by decide +kernel
theorem dX1_holdingFor_28 : decode cX1_holdingFor 28 = .ok (.ishl, 1) := by decide +kernel
theorem dX1_holdingFor_29 : decode cX1_holdingFor 29 = .ok (.ior, 1) := by decide +kernel
theorem dX1_holdingFor_30 : decode cX1_holdingFor 30 = .ok (.istore_n 2, 1) := by decide +kernel
theorem dX1_holdingFor_31 : decode cX1_holdingFor 31 = .ok (.iinc 3 1, 3) := by decide +kernel
theorem dX1_holdingFor_34 : decode cX1_holdingFor 34 = .ok (.goto (-30), 3) := by decide +kernel
theorem dX1_holdingFor_37 : decode cX1_holdingFor 37 = .ok (.iload_n 2, 1) := by decide +kernel
theorem dX1_holdingFor_38 : decode cX1_holdingFor 38 = .ok (.ireturn, 1) := by decide +kernel
theorem dX2_forgetAll_0 : decode cX2_forgetAll 0 = .ok (.aload_n 0, 1) := by decide +kernel
theorem dX2_forgetAll_1 : decode cX2_forgetAll 1 = .ok (.iconst 0, 1) := by decide +kernel
theorem dX2_forgetAll_2 : decode cX2_forgetAll 2 = .ok (.putfield 21, 3) := by decide +kernel
theorem dX2_forgetAll_5 : decode cX2_forgetAll 5 = .ok (.return_, 1) := by decide +kernel
theorem dX2_add_0 : decode cX2_add 0 = .ok (.aload_n 0, 1) := by decide +kernel
theorem dX2_add_1 : decode cX2_add 1 = .ok (.getfield 21, 3) := by decide +kernel
theorem dX2_add_4 : decode cX2_add 4 = .ok (.bipush 12, 2) := by decide +kernel
theorem dX2_add_6 : decode cX2_add 6 = .ok (.if_icmp .ne 7, 3) := by decide +kernel
theorem dX2_add_9 : decode cX2_add 9 = .ok (.aload_n 0, 1) := by decide +kernel
theorem dX2_add_10 : decode cX2_add 10 = .ok (.invokevirtual 25, 3) := by decide +kernel
theorem dX2_add_13 : decode cX2_add 13 = .ok (.aload_n 0, 1) := by decide +kernel
theorem dX2_add_14 : decode cX2_add 14 = .ok (.getfield 9, 3) := by decide +kernel
theorem dX2_add_17 : decode cX2_add 17 = .ok (.aload_n 0, 1) := by decide +kernel
theorem dX2_add_18 : decode cX2_add 18 = .ok (.getfield 21, 3) := by decide +kernel
theorem dX2_add_21 : decode cX2_add 21 = .ok (.iload_n 1, 1) := by decide +kernel
theorem dX2_add_22 : decode cX2_add 22 = .ok (.iastore, 1) := by decide +kernel
theorem dX2_add_23 : decode cX2_add 23 = .ok (.aload_n 0, 1) := by decide +kernel
theorem dX2_add_24 : decode cX2_add 24 = .ok (.getfield 15, 3) := by decide +kernel
theorem dX2_add_27 : decode cX2_add 27 = .ok (.aload_n 0, 1) := by decide +kernel
theorem dX2_add_28 : decode cX2_add 28 = .ok (.getfield 21, 3) := by decide +kernel
theorem dX2_add_31 : decode cX2_add 31 = .ok (.iload_n 2, 1) := by decide +kernel
theorem dX2_add_32 : decode cX2_add 32 = .ok (.iastore, 1) := by decide +kernel
theorem dX2_add_33 : decode cX2_add 33 = .ok (.aload_n 0, 1) := by decide +kernel
theorem dX2_add_34 : decode cX2_add 34 = .ok (.getfield 18, 3) := by decide +kernel
theorem dX2_add_37 : decode cX2_add 37 = .ok (.aload_n 0, 1) := by decide +kernel
theorem dX2_add_38 : decode cX2_add 38 = .ok (.getfield 21, 3) := by decide +kernel
theorem dX2_add_41 : decode cX2_add 41 = .ok (.iload_n 3, 1) := by decide +kernel
theorem dX2_add_42 : decode cX2_add 42 = .ok (.iastore, 1) := by decide +kernel
theorem dX2_add_43 : decode cX2_add 43 = .ok (.aload_n 0, 1) := by decide +kernel
theorem dX2_add_44 : decode cX2_add 44 = .ok (.dup, 1) := by decide +kernel
theorem dX2_add_45 : decode cX2_add 45 = .ok (.getfield 21, 3) := by decide +kernel
theorem dX2_add_48 : decode cX2_add 48 = .ok (.iconst 1, 1) := by decide +kernel
theorem dX2_add_49 : decode cX2_add 49 = .ok (.iadd, 1) := by decide +kernel
theorem dX2_add_50 : decode cX2_add 50 = .ok (.putfield 21, 3) := by decide +kernel
theorem dX2_add_53 : decode cX2_add 53 = .ok (.return_, 1) := by decide +kernel
theorem dX2_forgetOldest_0 : decode cX2_forgetOldest 0 = .ok (.aload_n 0, 1) := by decide +kernel
theorem dX2_forgetOldest_1 : decode cX2_forgetOldest 1 = .ok (.dup, 1) := by decide +kernel
theorem dX2_forgetOldest_2 : decode cX2_forgetOldest 2 = .ok (.getfield 21, 3) := by decide +kernel
theorem dX2_forgetOldest_5 : decode cX2_forgetOldest 5 = .ok (.iconst 1, 1) := by decide +kernel
theorem dX2_forgetOldest_6 : decode cX2_forgetOldest 6 = .ok (.isub, 1) := by decide +kernel
theorem dX2_forgetOldest_7 : decode cX2_forgetOldest 7 = .ok (.putfield 21, 3) := by decide +kernel
theorem dX2_forgetOldest_10 : decode cX2_forgetOldest 10 = .ok (.aload_n 0, 1) := by decide +kernel
theorem dX2_forgetOldest_11 : decode cX2_forgetOldest 11 = .ok (.getfield 9, 3) := by decide +kernel
theorem dX2_forgetOldest_14 : decode cX2_forgetOldest 14 = .ok (.iconst 1, 1) := by decide +kernel
theorem dX2_forgetOldest_15 : decode cX2_forgetOldest 15 = .ok (.aload_n 0, 1) := by decide +kernel
theorem dX2_forgetOldest_16 : decode cX2_forgetOldest 16 = .ok (.getfield 9, 3) := by decide +kernel
theorem dX2_forgetOldest_19 : decode cX2_forgetOldest 19 = .ok (.iconst 0, 1) := by decide +kernel
theorem dX2_forgetOldest_20 : decode cX2_forgetOldest 20 = .ok (.aload_n 0, 1) := by decide +kernel
theorem dX2_forgetOldest_21 : decode cX2_forgetOldest 21 = .ok (.getfield 21, 3) := by decide +kernel
theorem dX2_forgetOldest_24 : decode cX2_forgetOldest 24 = .ok (.invokestatic 28, 3) := by decide +kernel
theorem dX2_forgetOldest_27 : decode cX2_forgetOldest 27 = .ok (.aload_n 0, 1) := by decide +kernel
theorem dX2_forgetOldest_28 : decode cX2_forgetOldest 28 = .ok (.getfield 15, 3) := by decide +kernel
theorem dX2_forgetOldest_31 : decode cX2_forgetOldest 31 = .ok (.iconst 1, 1) := by decide +kernel
theorem dX2_forgetOldest_32 : decode cX2_forgetOldest 32 = .ok (.aload_n 0, 1) := by decide +kernel
theorem dX2_forgetOldest_33 : decode cX2_forgetOldest 33 = .ok (.getfield 15, 3) := by decide +kernel
theorem dX2_forgetOldest_36 : decode cX2_forgetOldest 36 = .ok (.iconst 0, 1) := by decide +kernel
theorem dX2_forgetOldest_37 : decode cX2_forgetOldest 37 = .ok (.aload_n 0, 1) := by decide +kernel
theorem dX2_forgetOldest_38 : decode cX2_forgetOldest 38 = .ok (.getfield 21, 3) := by decide +kernel
theorem dX2_forgetOldest_41 : decode cX2_forgetOldest 41 = .ok (.invokestatic 28, 3) := by decide +kernel
theorem dX2_forgetOldest_44 : decode cX2_forgetOldest 44 = .ok (.aload_n 0, 1) := by decide +kernel
theorem dX2_forgetOldest_45 : decode cX2_forgetOldest 45 = .ok (.getfield 18, 3) := by decide +kernel
theorem dX2_forgetOldest_48 : decode cX2_forgetOldest 48 = .ok (.iconst 1, 1) := by decide +kernel
theorem dX2_forgetOldest_49 : decode cX2_forgetOldest 49 = .ok (.aload_n 0, 1) := by decide +kernel
theorem dX2_forgetOldest_50 : decode cX2_forgetOldest 50 = .ok (.getfield 18, 3) := by decide +kernel
theorem dX2_forgetOldest_53 : decode cX2_forgetOldest 53 = .ok (.iconst 0, 1) := by decide +kernel
theorem dX2_forgetOldest_54 : decode cX2_forgetOldest 54 = .ok (.aload_n 0, 1) := by decide +kernel
theorem dX2_forgetOldest_55 : decode cX2_forgetOldest 55 = .ok (.getfield 21, 3) := by decide +kernel
theorem dX2_forgetOldest_58 : decode cX2_forgetOldest 58 = .ok (.invokestatic 28, 3) := by decide +kernel
theorem dX2_forgetOldest_61 : decode cX2_forgetOldest 61 = .ok (.return_, 1) := by decide +kernel
theorem dX3_clear_0 : decode cX3_clear 0 = .ok (.iconst 0, 1) := by decide +kernel
theorem dX3_clear_1 : decode cX3_clear 1 = .ok (.istore_n 1, 1) := by decide +kernel
theorem dX3_clear_2 : decode cX3_clear 2 = .ok (.iload_n 1, 1) := by decide +kernel
theorem dX3_clear_3 : decode cX3_clear 3 = .ok (.bipush 24, 2) := by decide +kernel
theorem dX3_clear_5 : decode cX3_clear 5 = .ok (.if_icmp .ge 16, 3) := by decide +kernel
theorem dX3_clear_8 : decode cX3_clear 8 = .ok (.aload_n 0, 1) := by decide +kernel
theorem dX3_clear_9 : decode cX3_clear 9 = .ok (.getfield 9, 3) := by decide +kernel
theorem dX3_clear_12 : decode cX3_clear 12 = .ok (.iload_n 1, 1) := by decide +kernel
theorem dX3_clear_13 : decode cX3_clear 13 = .ok (.iconst (-1), 1) := by decide +kernel
theorem dX3_clear_14 : decode cX3_clear 14 = .ok (.iastore, 1) := by decide +kernel
theorem dX3_clear_15 : decode cX3_clear 15 = .ok (.iinc 1 1, 3) := by decide +kernel
theorem dX3_clear_18 : decode cX3_clear 18 = .ok (.goto (-16), 3) := by decide +kernel
theorem dX3_clear_21 : decode cX3_clear 21 = .ok (.iconst 0, 1) := by decide +kernel
theorem dX3_clear_22 : decode cX3_clear 22 = .ok (.istore_n 1, 1) := by decide +kernel
theorem dX3_clear_23 : decode cX3_clear 23 = .ok (.iload_n 1, 1) := by decide +kernel
theorem dX3_clear_24 : decode cX3_clear 24 = .ok (.bipush 8, 2) := by decide +kernel
theorem dX3_clear_26 : decode cX3_clear 26 = .ok (.if_icmp .ge 16, 3) := by decide +kernel
theorem dX3_clear_29 : decode cX3_clear 29 = .ok (.aload_n 0, 1) := by decide +kernel
theorem dX3_clear_30 : decode cX3_clear 30 = .ok (.getfield 15, 3) := by decide +kernel
theorem dX3_clear_33 : decode cX3_clear 33 = .ok (.iload_n 1, 1) := by decide +kernel
theorem dX3_clear_34 : decode cX3_clear 34 = .ok (.iconst (-1), 1) := by decide +kernel
theorem dX3_clear_35 : decode cX3_clear 35 = .ok (.iastore, 1) := by decide +kernel
theorem dX3_clear_36 : decode cX3_clear 36 = .ok (.iinc 1 1, 3) := by decide +kernel
theorem dX3_clear_39 : decode cX3_clear 39 = .ok (.goto (-16), 3) := by decide +kernel
theorem dX3_clear_42 : decode cX3_clear 42 = .ok (.iconst 0, 1) := by decide +kernel
theorem dX3_clear_43 : decode cX3_clear 43 = .ok (.istore_n 1, 1) := by decide +kernel
theorem dX3_clear_44 : decode cX3_clear 44 = .ok (.iload_n 1, 1) := by decide +kernel
theorem dX3_clear_45 : decode cX3_clear 45 = .ok (.bipush 12, 2) := by decide +kernel
theorem dX3_clear_47 : decode cX3_clear 47 = .ok (.if_icmp .ge 23, 3) := by decide +kernel
theorem dX3_clear_50 : decode cX3_clear 50 = .ok (.aload_n 0, 1) := by decide +kernel
theorem dX3_clear_51 : decode cX3_clear 51 = .ok (.getfield 18, 3) := by decide +kernel
theorem dX3_clear_54 : decode cX3_clear 54 = .ok (.iload_n 1, 1) := by decide +kernel
theorem dX3_clear_55 : decode cX3_clear 55 = .ok (.iconst (-1), 1) := by decide +kernel
theorem dX3_clear_56 : decode cX3_clear 56 = .ok (.iastore, 1) := by decide +kernel
theorem dX3_clear_57 : decode cX3_clear 57 = .ok (.aload_n 0, 1) := by decide +kernel
theorem dX3_clear_58 : decode cX3_clear 58 = .ok (.getfield 21, 3) := by decide +kernel
theorem dX3_clear_61 : decode cX3_clear 61 = .ok (.iload_n 1, 1) := by decide +kernel
theorem dX3_clear_62 : decode cX3_clear 62 = .ok (.iconst 0, 1) := by decide +kernel
theorem dX3_clear_63 : decode cX3_clear 63 = .ok (.iastore, 1) := by decide +kernel
theorem dX3_clear_64 : decode cX3_clear 64 = .ok (.iinc 1 1, 3) := by decide +kernel
theorem dX3_clear_67 : decode cX3_clear 67 = .ok (.goto (-23), 3) := by decide +kernel
theorem dX3_clear_70 : decode cX3_clear 70 = .ok (.return_, 1) := by decide +kernel
theorem dX3_allReviews_0 : decode cX3_allReviews 0 = .ok (.iconst 0, 1) := by decide +kernel
theorem dX3_allReviews_1 : decode cX3_allReviews 1 = .ok (.istore_n 1, 1) := by decide +kernel
theorem dX3_allReviews_2 : decode cX3_allReviews 2 = .ok (.iconst 0, 1) := by decide +kernel
theorem dX3_allReviews_3 : decode cX3_allReviews 3 = .ok (.istore_n 2, 1) := by decide +kernel
theorem dX3_allReviews_4 : decode cX3_allReviews 4 = .ok (.iload_n 2, 1) := by decide +kernel
theorem dX3_allReviews_5 : decode cX3_allReviews 5 = .ok (.bipush 12, 2) := by decide +kernel
theorem dX3_allReviews_7 : decode cX3_allReviews 7 = .ok (.if_icmp .ge 18, 3) := by decide +kernel
theorem dX3_allReviews_10 : decode cX3_allReviews 10 = .ok (.iload_n 1, 1) := by decide +kernel
theorem dX3_allReviews_11 : decode cX3_allReviews 11 = .ok (.aload_n 0, 1) := by decide +kernel
theorem dX3_allReviews_12 : decode cX3_allReviews 12 = .ok (.getfield 21, 3) := by decide +kernel
theorem dX3_allReviews_15 : decode cX3_allReviews 15 = .ok (.iload_n 2, 1) := by decide +kernel
theorem dX3_allReviews_16 : decode cX3_allReviews 16 = .ok (.iaload, 1) := by decide +kernel
theorem dX3_allReviews_17 : decode cX3_allReviews 17 = .ok (.iadd, 1) := by decide +kernel
theorem dX3_allReviews_18 : decode cX3_allReviews 18 = .ok (.istore_n 1, 1) := by decide +kernel
theorem dX3_allReviews_19 : decode cX3_allReviews 19 = .ok (.iinc 2 1, 3) := by decide +kernel
theorem dX3_allReviews_22 : decode cX3_allReviews 22 = .ok (.goto (-18), 3) := by decide +kernel
theorem dX3_allReviews_25 : decode cX3_allReviews 25 = .ok (.iload_n 1, 1) := by decide +kernel
theorem dX3_allReviews_26 : decode cX3_allReviews 26 = .ok (.ireturn, 1) := by decide +kernel
theorem dX3_allLifted_0 : decode cX3_allLifted 0 = .ok (.iconst 0, 1) := by decide +kernel
theorem dX3_allLifted_1 : decode cX3_allLifted 1 = .ok (.istore_n 1, 1) := by decide +kernel
theorem dX3_allLifted_2 : decode cX3_allLifted 2 = .ok (.iconst 0, 1) := by decide +kernel
theorem dX3_allLifted_3 : decode cX3_allLifted 3 = .ok (.istore_n 2, 1) := by decide +kernel
theorem dX3_allLifted_4 : decode cX3_allLifted 4 = .ok (.iload_n 2, 1) := by decide +kernel
theorem dX3_allLifted_5 : decode cX3_allLifted 5 = .ok (.bipush 12, 2) := by decide +kernel
theorem dX3_allLifted_7 : decode cX3_allLifted 7 = .ok (.if_icmp .ge 25, 3) := by decide +kernel
theorem dX3_allLifted_10 : decode cX3_allLifted 10 = .ok (.aload_n 0, 1) := by decide +kernel
theorem dX3_allLifted_11 : decode cX3_allLifted 11 = .ok (.getfield 18, 3) := by decide +kernel
theorem dX3_allLifted_14 : decode cX3_allLifted 14 = .ok (.iload_n 2, 1) := by decide +kernel
theorem dX3_allLifted_15 : decode cX3_allLifted 15 = .ok (.iaload, 1) := by decide +kernel
theorem dX3_allLifted_16 : decode cX3_allLifted 16 = .ok (.iconst (-1), 1) := by decide +kernel
theorem dX3_allLifted_17 : decode cX3_allLifted 17 = .ok (.if_icmp .eq 9, 3) := by decide +kernel
theorem dX3_allLifted_20 : decode cX3_allLifted 20 = .ok (.iload_n 1, 1) := by decide +kernel
theorem dX3_allLifted_21 : decode cX3_allLifted 21 = .ok (.iconst 1, 1) := by decide +kernel
theorem dX3_allLifted_22 : decode cX3_allLifted 22 = .ok (.iload_n 2, 1) := by decide +kernel
theorem dX3_allLifted_23 : decode cX3_allLifted 23 = .ok (.ishl, 1) := by decide +kernel
theorem dX3_allLifted_24 : decode cX3_allLifted 24 = .ok (.ior, 1) := by decide +kernel
theorem dX3_allLifted_25 : decode cX3_allLifted 25 = .ok (.istore_n 1, 1) := by decide +kernel
theorem dX3_allLifted_26 : decode cX3_allLifted 26 = .ok (.iinc 2 1, 3) := by decide +kernel
theorem dX3_allLifted_29 : decode cX3_allLifted 29 = .ok (.goto (-25), 3) := by decide +kernel
theorem dX3_allLifted_32 : decode cX3_allLifted 32 = .ok (.iload_n 1, 1) := by decide +kernel
theorem dX3_allLifted_33 : decode cX3_allLifted 33 = .ok (.ireturn, 1) := by decide +kernel
theorem dX4_hasRoom_0 : decode cX4_hasRoom 0 = .ok (.aload_n 0, 1) := by decide +kernel
theorem dX4_hasRoom_1 : decode cX4_hasRoom 1 = .ok (.getfield 15, 3) := by decide +kernel
theorem dX4_hasRoom_4 : decode cX4_hasRoom 4 = .ok (.bipush 20, 2) := by decide +kernel
theorem dX4_hasRoom_6 : decode cX4_hasRoom 6 = .ok (.iadd, 1) := by decide +kernel
theorem dX4_hasRoom_7 : decode cX4_hasRoom 7 = .ok (.aload_n 0, 1) := by decide +kernel
theorem dX4_hasRoom_8 : decode cX4_hasRoom 8 = .ok (.getfield 9, 3) := by decide +kernel
theorem dX4_hasRoom_11 : decode cX4_hasRoom 11 = .ok (.arraylength, 1) := by decide +kernel
theorem dX4_hasRoom_12 : decode cX4_hasRoom 12 = .ok (.if_icmp .gt 7, 3) := by decide +kernel
theorem dX4_hasRoom_15 : decode cX4_hasRoom 15 = .ok (.iconst 1, 1) := by decide +kernel
theorem dX4_hasRoom_16 : decode cX4_hasRoom 16 = .ok (.goto 4, 3) := by decide +kernel
theorem dX4_hasRoom_19 : decode cX4_hasRoom 19 = .ok (.iconst 0, 1) := by decide +kernel
theorem dX4_hasRoom_20 : decode cX4_hasRoom 20 = .ok (.ireturn, 1) := by decide +kernel
theorem dX4_append_0 : decode cX4_append 0 = .ok (.bipush 24, 2) := by decide +kernel
theorem dX4_append_2 : decode cX4_append 2 = .ok (.istore_n 2, 1) := by decide +kernel
theorem dX4_append_3 : decode cX4_append 3 = .ok (.iload_n 2, 1) := by decide +kernel
theorem dX4_append_4 : decode cX4_append 4 = .ok (.ifCond .lt 44, 3) := by decide +kernel
theorem dX4_append_7 : decode cX4_append 7 = .ok (.aload_n 0, 1) := by decide +kernel
theorem dX4_append_8 : decode cX4_append 8 = .ok (.getfield 15, 3) := by decide +kernel
theorem dX4_append_11 : decode cX4_append 11 = .ok (.aload_n 0, 1) := by decide +kernel
theorem dX4_append_12 : decode cX4_append 12 = .ok (.getfield 9, 3) := by decide +kernel
theorem dX4_append_15 : decode cX4_append 15 = .ok (.arraylength, 1) := by decide +kernel
theorem dX4_append_16 : decode cX4_append 16 = .ok (.if_icmp .ge 32, 3) := by decide +kernel
theorem dX4_append_19 : decode cX4_append 19 = .ok (.aload_n 0, 1) := by decide +kernel
theorem dX4_append_20 : decode cX4_append 20 = .ok (.getfield 9, 3) := by decide +kernel
theorem dX4_append_23 : decode cX4_append 23 = .ok (.aload_n 0, 1) := by decide +kernel
theorem dX4_append_24 : decode cX4_append 24 = .ok (.getfield 15, 3) := by decide +kernel
theorem dX4_append_27 : decode cX4_append 27 = .ok (.iload_n 1, 1) := by decide +kernel
theorem dX4_append_28 : decode cX4_append 28 = .ok (.iload_n 2, 1) := by decide +kernel
theorem dX4_append_29 : decode cX4_append 29 = .ok (.iushr, 1) := by decide +kernel
theorem dX4_append_30 : decode cX4_append 30 = .ok (.i2b, 1) := by decide +kernel
theorem dX4_append_31 : decode cX4_append 31 = .ok (.bastore, 1) := by decide +kernel
theorem dX4_append_32 : decode cX4_append 32 = .ok (.aload_n 0, 1) := by decide +kernel
theorem dX4_append_33 : decode cX4_append 33 = .ok (.dup, 1) := by decide +kernel
theorem dX4_append_34 : decode cX4_append 34 = .ok (.getfield 15, 3) := by decide +kernel
theorem dX4_append_37 : decode cX4_append 37 = .ok (.iconst 1, 1) := by decide +kernel
theorem dX4_append_38 : decode cX4_append 38 = .ok (.iadd, 1) := by decide +kernel
theorem dX4_append_39 : decode cX4_append 39 = .ok (.putfield 15, 3) := by decide +kernel
theorem dX4_append_42 : decode cX4_append 42 = .ok (.iinc 2 (-8), 3) := by decide +kernel
theorem dX4_append_45 : decode cX4_append 45 = .ok (.goto (-42), 3) := by decide +kernel
theorem dX4_append_48 : decode cX4_append 48 = .ok (.return_, 1) := by decide +kernel
theorem dX8_hasBit_0 : decode cX8_hasBit 0 = .ok (.iload_n 1, 1) := by decide +kernel
theorem dX8_hasBit_1 : decode cX8_hasBit 1 = .ok (.ifCond .lt 16, 3) := by decide +kernel
theorem dX8_hasBit_4 : decode cX8_hasBit 4 = .ok (.iload_n 0, 1) := by decide +kernel
theorem dX8_hasBit_5 : decode cX8_hasBit 5 = .ok (.iload_n 1, 1) := by decide +kernel
theorem dX8_hasBit_6 : decode cX8_hasBit 6 = .ok (.iushr, 1) := by decide +kernel
theorem dX8_hasBit_7 : decode cX8_hasBit 7 = .ok (.iconst 1, 1) := by decide +kernel
theorem dX8_hasBit_8 : decode cX8_hasBit 8 = .ok (.iand, 1) := by decide +kernel
theorem dX8_hasBit_9 : decode cX8_hasBit 9 = .ok (.iconst 1, 1) := by decide +kernel
theorem dX8_hasBit_10 : decode cX8_hasBit 10 = .ok (.if_icmp .ne 7, 3) := by decide +kernel
theorem dX8_hasBit_13 : decode cX8_hasBit 13 = .ok (.iconst 1, 1) := by decide +kernel
theorem dX8_hasBit_14 : decode cX8_hasBit 14 = .ok (.goto 4, 3) := by decide +kernel
theorem dX8_hasBit_17 : decode cX8_hasBit 17 = .ok (.iconst 0, 1) := by decide +kernel
theorem dX8_hasBit_18 : decode cX8_hasBit 18 = .ok (.ireturn, 1) := by decide +kernel
theorem qw_22 : (Cond.fieldLink RX1 45 "ClosedUntil$Holdings" "people" "I" : Cond) ∈ TBL := List.mem_of_getElem? (i := 223) (by decide +kernel)
theorem qw_23 : (Cond.fieldLink RX1 49 "ClosedUntil$Holdings" "deposits" "I" : Cond) ∈ TBL := List.mem_of_getElem? (i := 224) (by decide +kernel)
theorem qw_24 : (Cond.fieldLink RX1 52 "ClosedUntil$Holdings" "pieces" "I" : Cond) ∈ TBL := List.mem_of_getElem? (i := 225) (by decide +kernel)
theorem qw_25 : (Cond.fieldLink RX1 55 "ClosedUntil$Holdings" "closures" "I" : Cond) ∈ TBL := List.mem_of_getElem? (i := 226) (by decide +kernel)
theorem qw_26 : (Cond.fieldLink RX1 21 "ClosedUntil$Holdings" "peopleOf" "[I" : Cond) ∈ TBL := List.mem_of_getElem? (i := 154) (by decide +kernel)
theorem qw_27 : (Cond.code yX8_hasBit cX8_hasBit 2 (some .boolean) : Cond) ∈ TBL := List.mem_of_getElem? (i := 325) (by decide +kernel)
theorem qw_28 : (Cond.initialized RX8 : Cond) ∈ TBL := List.mem_of_getElem? (i := 2) (by decide +kernel)
theorem qw_29 : (Cond.static yX8_hasBit : Cond) ∈ TBL := List.mem_of_getElem? (i := 324) (by decide +kernel)
theorem qw_30 : (Cond.fieldLink RX1 30 "ClosedUntil$Holdings" "subject" "[I" : Cond) ∈ TBL := List.mem_of_getElem? (i := 157) (by decide +kernel)
theorem qw_31 : (Cond.fieldLink RX1 27 "ClosedUntil$Holdings" "sort" "[I" : Cond) ∈ TBL := List.mem_of_getElem? (i := 156) (by decide +kernel)
theorem qw_32 : (Cond.fieldLink RX1 24 "ClosedUntil$Holdings" "depositOf" "[I" : Cond) ∈ TBL := List.mem_of_getElem? (i := 155) (by decide +kernel)
theorem qw_33 : (Cond.fieldLink RX2 21 "ClosedUntil$Journal" "size" "I" : Cond) ∈ TBL := List.mem_of_getElem? (i := 345) (by decide +kernel)
theorem qw_34 : (Cond.fieldLink RX2 9 "ClosedUntil$Journal" "acts" "[I" : Cond) ∈ TBL := List.mem_of_getElem? (i := 131) (by decide +kernel)
theorem qw_35 : (Cond.fieldLink RX2 15 "ClosedUntil$Journal" "whose" "[I" : Cond) ∈ TBL := List.mem_of_getElem? (i := 132) (by decide +kernel)
theorem qw_36 : (Cond.fieldLink RX2 18 "ClosedUntil$Journal" "before" "[I" : Cond) ∈ TBL := List.mem_of_getElem? (i := 133) (by decide +kernel)
theorem qw_37 : (Cond.methodLink RX2 28 arraycopyName : Cond) ∈ TBL := List.mem_of_getElem? (i := 889) (by decide +kernel)
theorem qw_38 : (Cond.native arraycopyName : Cond) ∈ TBL := List.mem_of_getElem? (i := 890) (by decide +kernel)
theorem qw_39 : (Cond.static arraycopyName : Cond) ∈ TBL := List.mem_of_getElem? (i := 891) (by decide +kernel)
theorem qw_40 : (Cond.initialized "java/lang/System" : Cond) ∈ TBL := List.mem_of_getElem? (i := 892) (by decide +kernel)
theorem qw_41 : (Cond.code yX2_forgetOldest cX2_forgetOldest 1 none : Cond) ∈ TBL := List.mem_of_getElem? (i := 888) (by decide +kernel)
theorem qw_42 : (Cond.initialized RX2 : Cond) ∈ TBL := List.mem_of_getElem? (i := 27) (by decide +kernel)
theorem qw_43 : (Cond.methodLink RX2 25 yX2_forgetOldest : Cond) ∈ TBL := List.mem_of_getElem? (i := 885) (by decide +kernel)
theorem qw_44 : (Cond.instanceMethod yX2_forgetOldest : Cond) ∈ TBL := List.mem_of_getElem? (i := 886) (by decide +kernel)
theorem qw_45 : (Cond.selects RX2 yX2_forgetOldest yX2_forgetOldest : Cond) ∈ TBL := List.mem_of_getElem? (i := 887) (by decide +kernel)
theorem qw_46 : (Cond.fieldLink RX3 9 "ClosedUntil$State" "parent" "[I" : Cond) ∈ TBL := List.mem_of_getElem? (i := 137) (by decide +kernel)
theorem qw_47 : (Cond.fieldLink RX3 15 "ClosedUntil$State" "death" "[I" : Cond) ∈ TBL := List.mem_of_getElem? (i := 138) (by decide +kernel)
theorem qw_48 : (Cond.fieldLink RX3 18 "ClosedUntil$State" "lifted" "[I" : Cond) ∈ TBL := List.mem_of_getElem? (i := 139) (by decide +kernel)
theorem qw_49 : (Cond.fieldLink RX3 21 "ClosedUntil$State" "reviews" "[I" : Cond) ∈ TBL := List.mem_of_getElem? (i := 140) (by decide +kernel)
theorem qw_50 : (Cond.fieldLink RX4 15 "ClosedUntil$Tape" "length" "I" : Cond) ∈ TBL := List.mem_of_getElem? (i := 197) (by decide +kernel)
theorem qw_51 : (Cond.fieldLink RX4 9 "ClosedUntil$Tape" "bytes" "[B" : Cond) ∈ TBL := List.mem_of_getElem? (i := 47) (by decide +kernel)
theorem rgL1_f9e15c6 {c0 : Nat × va_E} : (([c0] : va_W))[0]? = some c0 := rfl
theorem rgS1_4a8b427 {A : Nat → Prop} {D : va_G} {cl : List vw_C} {H : Heap} {c0 : Nat × va_E} {d e : Nat × va_E} (hP : va_P D cl (([c0]).set 0 d) H) (hD : va_D A (([c0]).set 0 d)) (h : d = e) : va_P D cl ([e]) H ∧ va_D A ([e]) := by subst h; exact ⟨hP, hD⟩
theorem rgL2_5ac5f51 {c0 c1 : Nat × va_E} : (([c0, c1] : va_W))[0]? = some c0 := rfl
theorem rgL2_906ef0f {c0 c1 : Nat × va_E} : (([c0, c1] : va_W))[1]? = some c1 := rfl
theorem rgT1_bb00d73 {t0 : ClassId × FieldType} : (([t0] : List (ClassId × FieldType)))[0]? = some t0 := rfl
theorem rgP2_6c9046d {D : va_G} {cl : List vw_C} {H : Heap} {c0 c1 : Nat × va_E} (h : va_P D cl ([c0, c1]) H) : va_P D cl ([]) H := h.sub (ws' := []) [] rfl
theorem rgK1_f3b3254 {D : va_G} {cl : List vw_C} {U : State} {t0 : ClassId × FieldType} (h : va_K D cl [t0] U) : va_K D cl [] U := h.sub (tys' := []) [] rfl
theorem rgL5_a6879b9 {c0 c1 c2 c3 c4 : Nat × va_E} : (([c0, c1, c2, c3, c4] : va_W))[0]? = some c0 := rfl
theorem rgL5_c0b45fd {c0 c1 c2 c3 c4 : Nat × va_E} : (([c0, c1, c2, c3, c4] : va_W))[4]? = some c4 := rfl
theorem rgT4_a0d579d {t0 t1 t2 t3 : ClassId × FieldType} : (([t0, t1, t2, t3] : List (ClassId × FieldType)))[3]? = some t3 := rfl
theorem rgL5_b55ecbc {c0 c1 c2 c3 c4 : Nat × va_E} : (([c0, c1, c2, c3, c4] : va_W))[3]? = some c3 := rfl
theorem rgT4_df3fd44 {t0 t1 t2 t3 : ClassId × FieldType} : (([t0, t1, t2, t3] : List (ClassId × FieldType)))[2]? = some t2 := rfl
theorem rgL5_8fa4d66 {c0 c1 c2 c3 c4 : Nat × va_E} : (([c0, c1, c2, c3, c4] : va_W))[1]? = some c1 := rfl
theorem rgT4_b662ba5 {t0 t1 t2 t3 : ClassId × FieldType} : (([t0, t1, t2, t3] : List (ClassId × FieldType)))[0]? = some t0 := rfl
theorem rgP5_7f34564 {D : va_G} {cl : List vw_C} {H : Heap} {c0 c1 c2 c3 c4 : Nat × va_E} (h : va_P D cl ([c0, c1, c2, c3, c4]) H) : va_P D cl ([]) H := h.sub (ws' := []) [] rfl
theorem rgK4_6738937 {D : va_G} {cl : List vw_C} {U : State} {t0 t1 t2 t3 : ClassId × FieldType} (h : va_K D cl [t0, t1, t2, t3] U) : va_K D cl [] U := h.sub (tys' := []) [] rfl
theorem rgL5_4d93d4e {c0 c1 c2 c3 c4 : Nat × va_E} : (([c0, c1, c2, c3, c4] : va_W))[2]? = some c2 := rfl
theorem rgT4_b124325 {t0 t1 t2 t3 : ClassId × FieldType} : (([t0, t1, t2, t3] : List (ClassId × FieldType)))[1]? = some t1 := rfl
theorem rgL4_25bb07f {c0 c1 c2 c3 : Nat × va_E} : (([c0, c1, c2, c3] : va_W))[0]? = some c0 := rfl
theorem rgS4_3ebc7b6 {A : Nat → Prop} {D : va_G} {cl : List vw_C} {H : Heap} {c0 c1 c2 c3 : Nat × va_E} {d e : Nat × va_E} (hP : va_P D cl (([c0, c1, c2, c3]).set 0 d) H) (hD : va_D A (([c0, c1, c2, c3]).set 0 d)) (h : d = e) : va_P D cl ([e, c1, c2, c3]) H ∧ va_D A ([e, c1, c2, c3]) := by subst h; exact ⟨hP, hD⟩
theorem rgL4_60d974a {c0 c1 c2 c3 : Nat × va_E} : (([c0, c1, c2, c3] : va_W))[1]? = some c1 := rfl
theorem rgS4_7eaf579 {A : Nat → Prop} {D : va_G} {cl : List vw_C} {H : Heap} {c0 c1 c2 c3 : Nat × va_E} {d e : Nat × va_E} (hP : va_P D cl (([c0, c1, c2, c3]).set 1 d) H) (hD : va_D A (([c0, c1, c2, c3]).set 1 d)) (h : d = e) : va_P D cl ([c0, e, c2, c3]) H ∧ va_D A ([c0, e, c2, c3]) := by subst h; exact ⟨hP, hD⟩
theorem rgL4_682b397 {c0 c1 c2 c3 : Nat × va_E} : (([c0, c1, c2, c3] : va_W))[2]? = some c2 := rfl
theorem rgS4_558cc52 {A : Nat → Prop} {D : va_G} {cl : List vw_C} {H : Heap} {c0 c1 c2 c3 : Nat × va_E} {d e : Nat × va_E} (hP : va_P D cl (([c0, c1, c2, c3]).set 2 d) H) (hD : va_D A (([c0, c1, c2, c3]).set 2 d)) (h : d = e) : va_P D cl ([c0, c1, e, c3]) H ∧ va_D A ([c0, c1, e, c3]) := by subst h; exact ⟨hP, hD⟩
theorem rgL4_582d62e {c0 c1 c2 c3 : Nat × va_E} : (([c0, c1, c2, c3] : va_W))[3]? = some c3 := rfl
theorem rgS4_c467359 {A : Nat → Prop} {D : va_G} {cl : List vw_C} {H : Heap} {c0 c1 c2 c3 : Nat × va_E} {d e : Nat × va_E} (hP : va_P D cl (([c0, c1, c2, c3]).set 3 d) H) (hD : va_D A (([c0, c1, c2, c3]).set 3 d)) (h : d = e) : va_P D cl ([c0, c1, c2, e]) H ∧ va_D A ([c0, c1, c2, e]) := by subst h; exact ⟨hP, hD⟩
theorem rgK3_e7c053f {D : va_G} {cl : List vw_C} {U : State} {t0 t1 t2 : ClassId × FieldType} (h : va_K D cl [t0, t1, t2] U) : va_K D cl [] U := h.sub (tys' := []) [] rfl
theorem rgT3_b86a1dc {t0 t1 t2 : ClassId × FieldType} : (([t0, t1, t2] : List (ClassId × FieldType)))[0]? = some t0 := rfl
theorem rgT3_9bdde83 {t0 t1 t2 : ClassId × FieldType} : (([t0, t1, t2] : List (ClassId × FieldType)))[1]? = some t1 := rfl
theorem rgT3_173f9f1 {t0 t1 t2 : ClassId × FieldType} : (([t0, t1, t2] : List (ClassId × FieldType)))[2]? = some t2 := rfl
theorem rgJ4_df87ba1 {A0 : Nat → Prop} {D : va_G} {cl : List vw_C} {H H1 : Heap} {c0 c1 c2 c3 : Nat × va_E} {d0 d1 d2 d3 : Nat × va_E} (hP : va_P D cl ([c0, c1, c2, c3]) H) (hD : va_D A0 ([c0, c1, c2, c3])) (hk : ∀ q : Nat, q < H.size → ¬ va_A ([c0, c1, c2, c3]) H.size q → H1[q]? = H[q]?) (hF : ∀ q, va_A ([c0, c1, c2, c3]) H.size q → A0 q) (hP1 : va_P D cl ([d0, d1, d2, d3]) H1) (hD1 : va_D (va_A ([c0, c1, c2, c3]) H.size) ([d0, d1, d2, d3])) : va_P D cl ([d0, d1, d2, d3]) H1 ∧ va_D A0 ([d0, d1, d2, d3]) := by
  obtain ⟨h1, h2⟩ := va_join (ws := [c0, c1, c2, c3]) (wc := [c0, c1, c2, c3]) (wr := []) (w1 := [d0, d1, d2, d3]) hP hD [0, 1, 2, 3] [] rfl rfl (by decide +kernel) (by decide +kernel) hk hF hP1 hD1
  exact ⟨va_P.sub (ws := [d0, d1, d2, d3]) (ws' := [d0, d1, d2, d3]) h1 [0, 1, 2, 3] rfl, va_D.sub (ws := [d0, d1, d2, d3]) (ws' := [d0, d1, d2, d3]) h2 [0, 1, 2, 3] (by decide +kernel) rfl⟩
theorem rgS5_283009a {A : Nat → Prop} {D : va_G} {cl : List vw_C} {H : Heap} {c0 c1 c2 c3 c4 : Nat × va_E} {d e : Nat × va_E} (hP : va_P D cl (([c0, c1, c2, c3, c4]).set 3 d) H) (hD : va_D A (([c0, c1, c2, c3, c4]).set 3 d)) (h : d = e) : va_P D cl ([c0, c1, c2, e, c4]) H ∧ va_D A ([c0, c1, c2, e, c4]) := by subst h; exact ⟨hP, hD⟩
theorem rgS5_abb24c5 {A : Nat → Prop} {D : va_G} {cl : List vw_C} {H : Heap} {c0 c1 c2 c3 c4 : Nat × va_E} {d e : Nat × va_E} (hP : va_P D cl (([c0, c1, c2, c3, c4]).set 4 d) H) (hD : va_D A (([c0, c1, c2, c3, c4]).set 4 d)) (h : d = e) : va_P D cl ([c0, c1, c2, c3, e]) H ∧ va_D A ([c0, c1, c2, c3, e]) := by subst h; exact ⟨hP, hD⟩
theorem rgS5_55fc036 {A : Nat → Prop} {D : va_G} {cl : List vw_C} {H : Heap} {c0 c1 c2 c3 c4 : Nat × va_E} {d e : Nat × va_E} (hP : va_P D cl (([c0, c1, c2, c3, c4]).set 2 d) H) (hD : va_D A (([c0, c1, c2, c3, c4]).set 2 d)) (h : d = e) : va_P D cl ([c0, c1, e, c3, c4]) H ∧ va_D A ([c0, c1, e, c3, c4]) := by subst h; exact ⟨hP, hD⟩
theorem rgS5_08baf9a {A : Nat → Prop} {D : va_G} {cl : List vw_C} {H : Heap} {c0 c1 c2 c3 c4 : Nat × va_E} {d e : Nat × va_E} (hP : va_P D cl (([c0, c1, c2, c3, c4]).set 1 d) H) (hD : va_D A (([c0, c1, c2, c3, c4]).set 1 d)) (h : d = e) : va_P D cl ([c0, e, c2, c3, c4]) H ∧ va_D A ([c0, e, c2, c3, c4]) := by subst h; exact ⟨hP, hD⟩
theorem rgS2_56f84fb {A : Nat → Prop} {D : va_G} {cl : List vw_C} {H : Heap} {c0 c1 : Nat × va_E} {d e : Nat × va_E} (hP : va_P D cl (([c0, c1]).set 1 d) H) (hD : va_D A (([c0, c1]).set 1 d)) (h : d = e) : va_P D cl ([c0, e]) H ∧ va_D A ([c0, e]) := by subst h; exact ⟨hP, hD⟩
theorem rgS2_40109d0 {A : Nat → Prop} {D : va_G} {cl : List vw_C} {H : Heap} {c0 c1 : Nat × va_E} {d e : Nat × va_E} (hP : va_P D cl (([c0, c1]).set 0 d) H) (hD : va_D A (([c0, c1]).set 0 d)) (h : d = e) : va_P D cl ([e, c1]) H ∧ va_D A ([e, c1]) := by subst h; exact ⟨hP, hD⟩
set_option maxHeartbeats 4000000 in
set_option maxRecDepth 100000 in
theorem k_X1_clear (l : Launch) (dC : Nat → ClassId) (dI : Nat → Nat → Nat) (g : Gv) (sz : Nat) (a0 : Nat) (a0_0 : Int32) (a0_1 : Nat) (a0_2 : Int32) (a0_3 : Nat) (a0_4 : Int32) (a0_5 : Nat) (a0_6 : Nat) (a0_7 : Nat) (a0_8 : Int32) (a0_9 : Nat) (a0_10 : Nat) (a0_11 : Nat) (a0_12 : Nat) (a0_13 : Nat) (h_a0_0 : 0 ≤ a0_0.toInt ∧ a0_0.toInt ≤ 8) (h_a0_2 : 0 ≤ a0_2.toInt ∧ a0_2.toInt ≤ 4) (h_a0_4 : 0 ≤ a0_4.toInt ∧ a0_4.toInt ≤ 24) (h_a0_8 : 0 ≤ a0_8.toInt ∧ a0_8.toInt ≤ 12) : Met l yX1_clear (.code yX1_clear cX1_clear 1 none :: TBL) ({ frames := 0, cells := 0, slots := 0, locals := 0 }) (va_Pc [.ref a0] (fun U => U.heap.size = sz ∧ va_P (dC, dI) vwCl [(a0, .inr (0, [.int a0_0, .ref a0_1, .int a0_2, .ref a0_3, .int a0_4, .ref a0_5, .ref a0_6, .ref a0_7, .int a0_8, .ref a0_9, .ref a0_10, .ref a0_11, .ref a0_12, .ref a0_13]))] U.heap ∧ va_K (dC, dI) vwCl [] U ∧ va_D (fun _ => True) [(a0, .inr (0, [.int a0_0, .ref a0_1, .int a0_2, .ref a0_3, .int a0_4, .ref a0_5, .ref a0_6, .ref a0_7, .int a0_8, .ref a0_9, .ref a0_10, .ref a0_11, .ref a0_12, .ref a0_13]))] ∧ Ev g (va_A [(a0, .inr (0, [.int a0_0, .ref a0_1, .int a0_2, .ref a0_3, .int a0_4, .ref a0_5, .ref a0_6, .ref a0_7, .int a0_8, .ref a0_9, .ref a0_10, .ref a0_11, .ref a0_12, .ref a0_13]))] sz) U)) (va_Qv (fun (_ : Unit) => True) (fun (_ : Unit) (t : State) => ∃ (za0_0 : Int32) (za0_2 : Int32) (za0_4 : Int32) (za0_8 : Int32), (0 ≤ za0_0.toInt ∧ za0_0.toInt ≤ 8) ∧ (0 ≤ za0_2.toInt ∧ za0_2.toInt ≤ 4) ∧ (0 ≤ za0_4.toInt ∧ za0_4.toInt ≤ 24) ∧ (0 ≤ za0_8.toInt ∧ za0_8.toInt ≤ 12) ∧ (za0_0.toInt = 0) ∧ (za0_2.toInt = 0) ∧ (za0_4.toInt = 0) ∧ (za0_8.toInt = 0) ∧ va_P (dC, dI) vwCl [(a0, .inr (0, [.int za0_0, .ref a0_1, .int za0_2, .ref a0_3, .int za0_4, .ref a0_5, .ref a0_6, .ref a0_7, .int za0_8, .ref a0_9, .ref a0_10, .ref a0_11, .ref a0_12, .ref a0_13]))] t.heap ∧ va_K (dC, dI) vwCl [] t ∧ va_D (va_A [(a0, .inr (0, [.int a0_0, .ref a0_1, .int a0_2, .ref a0_3, .int a0_4, .ref a0_5, .ref a0_6, .ref a0_7, .int a0_8, .ref a0_9, .ref a0_10, .ref a0_11, .ref a0_12, .ref a0_13]))] sz) [(a0, .inr (0, [.int za0_0, .ref a0_1, .int za0_2, .ref a0_3, .int za0_4, .ref a0_5, .ref a0_6, .ref a0_7, .int za0_8, .ref a0_9, .ref a0_10, .ref a0_11, .ref a0_12, .ref a0_13]))]) (va_A [(a0, .inr (0, [.int a0_0, .ref a0_1, .int a0_2, .ref a0_3, .int a0_4, .ref a0_5, .ref a0_6, .ref a0_7, .int a0_8, .ref a0_9, .ref a0_10, .ref a0_11, .ref a0_12, .ref a0_13]))] sz)) 0 0 (va_A [(a0, .inr (0, [.int a0_0, .ref a0_1, .int a0_2, .ref a0_3, .int a0_4, .ref a0_5, .ref a0_6, .ref a0_7, .int a0_8, .ref a0_9, .ref a0_10, .ref a0_11, .ref a0_12, .ref a0_13]))] sz) := by
  refine Met.ofW (cc := cX1_clear) (maxL := 1) (ret := none) (by decide) rfl ?_
  intro p e s m args below meth c s₁ B hml hv
  obtain ⟨rfl, hsz, hP, hK, hD0, hE⟩ := hv
  have hx := B.exec
  have hb := B.bytes
  have hr := B.returns
  have hts0 := atoms_spec (ws := (.code yX1_clear cX1_clear 1 none :: TBL)) B.pre
  have hts := fun (w : Cond) (h : w ∈ TBL) => hts0 w (List.mem_cons_of_mem _ h)
  have hown : s.vm.findClass RX1 = some m.cls := findClass_of_methodNamed B.named
  have hlocks := B.notSynchronized
  have hN := hE.1
  subst hsz
  have hD := hD0.self (sz := s.heap.size)
  generalize hAe : va_A [(a0, .inr (0, [.int a0_0, .ref a0_1, .int a0_2, .ref a0_3, .int a0_4, .ref a0_5, .ref a0_6, .ref a0_7, .int a0_8, .ref a0_9, .ref a0_10, .ref a0_11, .ref a0_12, .ref a0_13]))] s.heap.size = A at hD hE ⊢
  have hA : ∀ q : Nat, s.heap.size ≤ q → A q := fun q h => by rw [← hAe]; exact Or.inr h
  have hS : va_S A s.heap s.heap [] := va_S.rf
  replace hP : va_P (dC, dI) vwCl [(a0, .inr (0, [.int a0_0, .ref a0_1, .int a0_2, .ref a0_3, .int a0_4, .ref a0_5, .ref a0_6, .ref a0_7, .int a0_8, .ref a0_9, .ref a0_10, .ref a0_11, .ref a0_12, .ref a0_13]))] s.heap := hP
  have hl := lv_entry ([.ref a0]) (n := 1) (Nat.le_of_ble_eq_true rfl)
  rw [lg_entry_eq]
  generalize (lg_sl ([.ref a0]) ++ List.replicate (1 - (lg_sl ([.ref a0])).length) Slot.unset).toArray = ls at hl ⊢
  have hl : lv_has ls 1 [(0, .ref a0)] := hl
  refine lv_aload_n hx hb dX1_clear_0 rfl (lv_at hl 0 rfl) ?_
  refine lv_iconst (v := 0) hx hb dX1_clear_1 (by decide) ?_
  refine va_put (D := (dC, dI)) (ci := 0) (v := .int 0) (ty := .int) (C := RX1) (T := TX1) (N := 14) hx hb hts inlX1 tyX1 tyX1_ok nmX1 hown hK hP hD hS 0 rgL1_f9e15c6 rfl 0 (by decide) (hts (.fieldLink RX1 45 "ClosedUntil$Holdings" "people" "I") qw_22) (fun _ h9 => h9) rfl (by decide +kernel) rfl rfl (Nat.le_of_ble_eq_true rfl) dX1_clear_2 (fun H locs hP9 hD9 hS9 => ?_)
  clear hP hD hS
  obtain ⟨hP, hD⟩ := rgS1_4a8b427 (e := (a0, .inr (0, [.int 0, .ref a0_1, .int a0_2, .ref a0_3, .int a0_4, .ref a0_5, .ref a0_6, .ref a0_7, .int a0_8, .ref a0_9, .ref a0_10, .ref a0_11, .ref a0_12, .ref a0_13]))) hP9 hD9 rfl
  have hS := hS9; clear hP9 hD9 hS9
  refine lv_aload_n hx hb dX1_clear_5 rfl (lv_at hl 0 rfl) ?_
  refine lv_iconst (v := 0) hx hb dX1_clear_6 (by decide) ?_
  refine va_put (D := (dC, dI)) (ci := 0) (v := .int 0) (ty := .int) (C := RX1) (T := TX1) (N := 14) hx hb hts inlX1 tyX1 tyX1_ok nmX1 hown hK hP hD hS 0 rgL1_f9e15c6 rfl 2 (by decide) (hts (.fieldLink RX1 49 "ClosedUntil$Holdings" "deposits" "I") qw_23) (fun _ h9 => h9) rfl (by decide +kernel) rfl rfl (Nat.le_of_ble_eq_true rfl) dX1_clear_7 (fun H locs hP9 hD9 hS9 => ?_)
  clear hP hD hS
  obtain ⟨hP, hD⟩ := rgS1_4a8b427 (e := (a0, .inr (0, [.int 0, .ref a0_1, .int 0, .ref a0_3, .int a0_4, .ref a0_5, .ref a0_6, .ref a0_7, .int a0_8, .ref a0_9, .ref a0_10, .ref a0_11, .ref a0_12, .ref a0_13]))) hP9 hD9 rfl
  have hS := hS9; clear hP9 hD9 hS9
  refine lv_aload_n hx hb dX1_clear_10 rfl (lv_at hl 0 rfl) ?_
  refine lv_iconst (v := 0) hx hb dX1_clear_11 (by decide) ?_
  refine va_put (D := (dC, dI)) (ci := 0) (v := .int 0) (ty := .int) (C := RX1) (T := TX1) (N := 14) hx hb hts inlX1 tyX1 tyX1_ok nmX1 hown hK hP hD hS 0 rgL1_f9e15c6 rfl 4 (by decide) (hts (.fieldLink RX1 52 "ClosedUntil$Holdings" "pieces" "I") qw_24) (fun _ h9 => h9) rfl (by decide +kernel) rfl rfl (Nat.le_of_ble_eq_true rfl) dX1_clear_12 (fun H locs hP9 hD9 hS9 => ?_)
  clear hP hD hS
  obtain ⟨hP, hD⟩ := rgS1_4a8b427 (e := (a0, .inr (0, [.int 0, .ref a0_1, .int 0, .ref a0_3, .int 0, .ref a0_5, .ref a0_6, .ref a0_7, .int a0_8, .ref a0_9, .ref a0_10, .ref a0_11, .ref a0_12, .ref a0_13]))) hP9 hD9 rfl
  have hS := hS9; clear hP9 hD9 hS9
  refine lv_aload_n hx hb dX1_clear_15 rfl (lv_at hl 0 rfl) ?_
  refine lv_iconst (v := 0) hx hb dX1_clear_16 (by decide) ?_
  refine va_put (D := (dC, dI)) (ci := 0) (v := .int 0) (ty := .int) (C := RX1) (T := TX1) (N := 14) hx hb hts inlX1 tyX1 tyX1_ok nmX1 hown hK hP hD hS 0 rgL1_f9e15c6 rfl 8 (by decide) (hts (.fieldLink RX1 55 "ClosedUntil$Holdings" "closures" "I") qw_25) (fun _ h9 => h9) rfl (by decide +kernel) rfl rfl (Nat.le_of_ble_eq_true rfl) dX1_clear_17 (fun H locs hP9 hD9 hS9 => ?_)
  clear hP hD hS
  obtain ⟨hP, hD⟩ := rgS1_4a8b427 (e := (a0, .inr (0, [.int 0, .ref a0_1, .int 0, .ref a0_3, .int 0, .ref a0_5, .ref a0_6, .ref a0_7, .int 0, .ref a0_9, .ref a0_10, .ref a0_11, .ref a0_12, .ref a0_13]))) hP9 hD9 rfl
  have hS := hS9; clear hP9 hD9 hS9
  have qc0 : (0 : Int32).toInt = 0 := by decide
  refine W.widen (k := 0) (n := 0) (Nat.le_of_ble_eq_true rfl) (Nat.le_of_ble_eq_true rfl) ?_
  have hP9 := hP
  have hD9 := hD
  have hK9 := hK
  have hf9_0 : (0 ≤ (0 : Int32).toInt ∧ (0 : Int32).toInt ≤ 8) := by omega
  have hf9_1 : (0 ≤ (0 : Int32).toInt ∧ (0 : Int32).toInt ≤ 4) := by omega
  have hf9_2 : (0 ≤ (0 : Int32).toInt ∧ (0 : Int32).toInt ≤ 24) := by omega
  have hf9_3 : (0 ≤ (0 : Int32).toInt ∧ (0 : Int32).toInt ≤ 12) := by omega
  have hf9_4 : ((0 : Int32).toInt = 0) := by omega
  have hf9_5 : ((0 : Int32).toInt = 0) := by omega
  have hf9_6 : ((0 : Int32).toInt = 0) := by omega
  have hf9_7 : ((0 : Int32).toInt = 0) := by omega
  exact W.vret hx hb hr (fun t ht hW => ⟨⟨(), rfl, trivial, 0, 0, 0, 0, hf9_0, hf9_1, hf9_2, hf9_3, hf9_4, hf9_5, hf9_6, hf9_7, atB ht hP9, va_K.moved hW.alike hK9, hD9⟩, hS.F ht⟩) hS.2.2 dX1_clear_20
set_option maxHeartbeats 4000000 in
set_option maxRecDepth 100000 in
theorem k_X1_hasPerson (l : Launch) (dC : Nat → ClassId) (dI : Nat → Nat → Nat) (g : Gv) (a0 : Nat) (a1 : Int32) (a0_0 : Int32) (a0_1 : Nat) (a0_2 : Int32) (a0_3 : Nat) (a0_4 : Int32) (a0_5 : Nat) (a0_6 : Nat) (a0_7 : Nat) (a0_8 : Int32) (a0_9 : Nat) (a0_10 : Nat) (a0_11 : Nat) (a0_12 : Nat) (a0_13 : Nat) (h_a0_0 : 0 ≤ a0_0.toInt ∧ a0_0.toInt ≤ 8) (h_a0_2 : 0 ≤ a0_2.toInt ∧ a0_2.toInt ≤ 4) (h_a0_4 : 0 ≤ a0_4.toInt ∧ a0_4.toInt ≤ 24) (h_a0_8 : 0 ≤ a0_8.toInt ∧ a0_8.toInt ≤ 12) : Met l yX1_hasPerson (.code yX1_hasPerson cX1_hasPerson 2 (some .boolean) :: TBL) ({ frames := 0, cells := 0, slots := 0, locals := 0 }) (va_Pc [.ref a0, .int a1] (fun U => va_P (dC, dI) vwCl [(a0, .inr (0, [.int a0_0, .ref a0_1, .int a0_2, .ref a0_3, .int a0_4, .ref a0_5, .ref a0_6, .ref a0_7, .int a0_8, .ref a0_9, .ref a0_10, .ref a0_11, .ref a0_12, .ref a0_13]))] U.heap ∧ va_K (dC, dI) vwCl [] U ∧ Ev g (fun _ => False) U)) (vp_Si (fun (r : Int32) => (r = 0 ∨ r = 1) ∧ ((r.toInt = 1 ∧ 0 ≤ a1.toInt ∧ a1.toInt < a0_0.toInt) ∨ r.toInt = 0))) 0 0 (fun _ => False) := by
  refine Met.ofW (cc := cX1_hasPerson) (maxL := 2) (ret := (some .boolean)) (by decide) rfl ?_
  intro p e s m args below meth c s₁ B hml hv
  obtain ⟨rfl, hP, hK, hE⟩ := hv
  have hx := B.exec
  have hb := B.bytes
  have hr := B.returns
  have hts0 := atoms_spec (ws := (.code yX1_hasPerson cX1_hasPerson 2 (some .boolean) :: TBL)) B.pre
  have hts := fun (w : Cond) (h : w ∈ TBL) => hts0 w (List.mem_cons_of_mem _ h)
  have hown : s.vm.findClass RX1 = some m.cls := findClass_of_methodNamed B.named
  have hlocks := B.notSynchronized
  have hN := hE.1
  have hS : va_S (fun _ => False) s.heap s.heap [] := va_S.rf
  replace hP : va_P (dC, dI) vwCl [(a0, .inr (0, [.int a0_0, .ref a0_1, .int a0_2, .ref a0_3, .int a0_4, .ref a0_5, .ref a0_6, .ref a0_7, .int a0_8, .ref a0_9, .ref a0_10, .ref a0_11, .ref a0_12, .ref a0_13]))] s.heap := hP
  have hl := lv_entry ([.ref a0, .int a1]) (n := 2) (Nat.le_of_ble_eq_true rfl)
  rw [lg_entry_eq]
  generalize (lg_sl ([.ref a0, .int a1]) ++ List.replicate (2 - (lg_sl ([.ref a0, .int a1])).length) Slot.unset).toArray = ls at hl ⊢
  have hl : lv_has ls 2 [(0, .ref a0), (1, .int a1)] := hl
  have b_a1 := i32b a1
  refine lv_iload_n hx hb dX1_hasPerson_0 rfl (lv_at hl 1 rfl) ?_
  refine lv_if_lt (tgt := 16) hx hb dX1_hasPerson_1 (by decide) (fun c1_1 => ?_) (fun c1_1 => ?_)
  · have c1_1 : a1.toInt < 0 := (cv_lt rfl (by decide)).mp c1_1
    refine lv_iconst (v := 0) hx hb dX1_hasPerson_16 (by decide) ?_
    exact W.zret (v := 0) hx hb hr rfl (fun t ht hW => ⟨0, rfl, ⟨(by decide), (by have q := (show (0 : Int32).toInt = 0 by decide); omega)⟩, ht⟩) (fun _ h => absurd h List.not_mem_nil) dX1_hasPerson_17
  · have c1_1 : ¬ (a1.toInt < 0) := mt (cv_lt rfl (by decide)).mpr c1_1
    refine lv_iload_n hx hb dX1_hasPerson_4 rfl (lv_at hl 1 rfl) ?_
    refine lv_aload_n hx hb dX1_hasPerson_5 rfl (lv_at hl 0 rfl) ?_
    refine va_get (D := (dC, dI)) (ci := 0) (v := .int a0_0) (C := RX1) (T := TX1) (N := 14) hx hb hts inlX1 hown hK hP 0 rgL1_f9e15c6 rfl 0 (by decide) (hts (.fieldLink RX1 45 "ClosedUntil$Holdings" "people" "I") qw_22) (fun _ h9 => h9) rfl dX1_hasPerson_6 ?_
    refine lv_icmp_ge (tgt := 16) hx hb dX1_hasPerson_9 (by decide) (fun c9_2 => ?_) (fun c9_2 => ?_)
    · have c9_2 : a0_0.toInt ≤ a1.toInt := (cv_le rfl rfl).mp c9_2
      refine lv_iconst (v := 0) hx hb dX1_hasPerson_16 (by decide) ?_
      exact W.zret (v := 0) hx hb hr rfl (fun t ht hW => ⟨0, rfl, ⟨(by decide), (by have q := (show (0 : Int32).toInt = 0 by decide); omega)⟩, ht⟩) (fun _ h => absurd h List.not_mem_nil) dX1_hasPerson_17
    · have c9_2 : ¬ (a0_0.toInt ≤ a1.toInt) := mt (cv_le rfl rfl).mpr c9_2
      refine lv_iconst (v := 1) hx hb dX1_hasPerson_12 (by decide) ?_
      refine lv_goto (tgt := 17) hx hb dX1_hasPerson_13 (by decide) ?_
      exact W.zret (v := 1) hx hb hr rfl (fun t ht hW => ⟨1, rfl, ⟨(by decide), (by have q := (show (1 : Int32).toInt = 1 by decide); omega)⟩, ht⟩) (fun _ h => absurd h List.not_mem_nil) dX1_hasPerson_17
set_option maxHeartbeats 4000000 in
set_option maxRecDepth 100000 in
theorem k_X1_hasPiece (l : Launch) (dC : Nat → ClassId) (dI : Nat → Nat → Nat) (g : Gv) (a0 : Nat) (a1 : Int32) (a0_0 : Int32) (a0_1 : Nat) (a0_2 : Int32) (a0_3 : Nat) (a0_4 : Int32) (a0_5 : Nat) (a0_6 : Nat) (a0_7 : Nat) (a0_8 : Int32) (a0_9 : Nat) (a0_10 : Nat) (a0_11 : Nat) (a0_12 : Nat) (a0_13 : Nat) (h_a0_0 : 0 ≤ a0_0.toInt ∧ a0_0.toInt ≤ 8) (h_a0_2 : 0 ≤ a0_2.toInt ∧ a0_2.toInt ≤ 4) (h_a0_4 : 0 ≤ a0_4.toInt ∧ a0_4.toInt ≤ 24) (h_a0_8 : 0 ≤ a0_8.toInt ∧ a0_8.toInt ≤ 12) : Met l yX1_hasPiece (.code yX1_hasPiece cX1_hasPiece 2 (some .boolean) :: TBL) ({ frames := 0, cells := 0, slots := 0, locals := 0 }) (va_Pc [.ref a0, .int a1] (fun U => va_P (dC, dI) vwCl [(a0, .inr (0, [.int a0_0, .ref a0_1, .int a0_2, .ref a0_3, .int a0_4, .ref a0_5, .ref a0_6, .ref a0_7, .int a0_8, .ref a0_9, .ref a0_10, .ref a0_11, .ref a0_12, .ref a0_13]))] U.heap ∧ va_K (dC, dI) vwCl [] U ∧ Ev g (fun _ => False) U)) (vp_Si (fun (r : Int32) => (r = 0 ∨ r = 1) ∧ ((r.toInt = 1 ∧ 0 ≤ a1.toInt ∧ a1.toInt < a0_4.toInt) ∨ r.toInt = 0))) 0 0 (fun _ => False) := by
  refine Met.ofW (cc := cX1_hasPiece) (maxL := 2) (ret := (some .boolean)) (by decide) rfl ?_
  intro p e s m args below meth c s₁ B hml hv
  obtain ⟨rfl, hP, hK, hE⟩ := hv
  have hx := B.exec
  have hb := B.bytes
  have hr := B.returns
  have hts0 := atoms_spec (ws := (.code yX1_hasPiece cX1_hasPiece 2 (some .boolean) :: TBL)) B.pre
  have hts := fun (w : Cond) (h : w ∈ TBL) => hts0 w (List.mem_cons_of_mem _ h)
  have hown : s.vm.findClass RX1 = some m.cls := findClass_of_methodNamed B.named
  have hlocks := B.notSynchronized
  have hN := hE.1
  have hS : va_S (fun _ => False) s.heap s.heap [] := va_S.rf
  replace hP : va_P (dC, dI) vwCl [(a0, .inr (0, [.int a0_0, .ref a0_1, .int a0_2, .ref a0_3, .int a0_4, .ref a0_5, .ref a0_6, .ref a0_7, .int a0_8, .ref a0_9, .ref a0_10, .ref a0_11, .ref a0_12, .ref a0_13]))] s.heap := hP
  have hl := lv_entry ([.ref a0, .int a1]) (n := 2) (Nat.le_of_ble_eq_true rfl)
  rw [lg_entry_eq]
  generalize (lg_sl ([.ref a0, .int a1]) ++ List.replicate (2 - (lg_sl ([.ref a0, .int a1])).length) Slot.unset).toArray = ls at hl ⊢
  have hl : lv_has ls 2 [(0, .ref a0), (1, .int a1)] := hl
  have b_a1 := i32b a1
  refine lv_iload_n hx hb dX1_hasPiece_0 rfl (lv_at hl 1 rfl) ?_
  refine lv_if_lt (tgt := 16) hx hb dX1_hasPiece_1 (by decide) (fun c1_1 => ?_) (fun c1_1 => ?_)
  · have c1_1 : a1.toInt < 0 := (cv_lt rfl (by decide)).mp c1_1
    refine lv_iconst (v := 0) hx hb dX1_hasPiece_16 (by decide) ?_
    exact W.zret (v := 0) hx hb hr rfl (fun t ht hW => ⟨0, rfl, ⟨(by decide), (by have q := (show (0 : Int32).toInt = 0 by decide); omega)⟩, ht⟩) (fun _ h => absurd h List.not_mem_nil) dX1_hasPiece_17
  · have c1_1 : ¬ (a1.toInt < 0) := mt (cv_lt rfl (by decide)).mpr c1_1
    refine lv_iload_n hx hb dX1_hasPiece_4 rfl (lv_at hl 1 rfl) ?_
    refine lv_aload_n hx hb dX1_hasPiece_5 rfl (lv_at hl 0 rfl) ?_
    refine va_get (D := (dC, dI)) (ci := 0) (v := .int a0_4) (C := RX1) (T := TX1) (N := 14) hx hb hts inlX1 hown hK hP 0 rgL1_f9e15c6 rfl 4 (by decide) (hts (.fieldLink RX1 52 "ClosedUntil$Holdings" "pieces" "I") qw_24) (fun _ h9 => h9) rfl dX1_hasPiece_6 ?_
    refine lv_icmp_ge (tgt := 16) hx hb dX1_hasPiece_9 (by decide) (fun c9_2 => ?_) (fun c9_2 => ?_)
    · have c9_2 : a0_4.toInt ≤ a1.toInt := (cv_le rfl rfl).mp c9_2
      refine lv_iconst (v := 0) hx hb dX1_hasPiece_16 (by decide) ?_
      exact W.zret (v := 0) hx hb hr rfl (fun t ht hW => ⟨0, rfl, ⟨(by decide), (by have q := (show (0 : Int32).toInt = 0 by decide); omega)⟩, ht⟩) (fun _ h => absurd h List.not_mem_nil) dX1_hasPiece_17
    · have c9_2 : ¬ (a0_4.toInt ≤ a1.toInt) := mt (cv_le rfl rfl).mpr c9_2
      refine lv_iconst (v := 1) hx hb dX1_hasPiece_12 (by decide) ?_
      refine lv_goto (tgt := 17) hx hb dX1_hasPiece_13 (by decide) ?_
      exact W.zret (v := 1) hx hb hr rfl (fun t ht hW => ⟨1, rfl, ⟨(by decide), (by have q := (show (1 : Int32).toInt = 1 by decide); omega)⟩, ht⟩) (fun _ h => absurd h List.not_mem_nil) dX1_hasPiece_17
set_option maxHeartbeats 4000000 in
set_option maxRecDepth 100000 in
theorem k_X1_hasClosure (l : Launch) (dC : Nat → ClassId) (dI : Nat → Nat → Nat) (g : Gv) (a0 : Nat) (a1 : Int32) (a0_0 : Int32) (a0_1 : Nat) (a0_2 : Int32) (a0_3 : Nat) (a0_4 : Int32) (a0_5 : Nat) (a0_6 : Nat) (a0_7 : Nat) (a0_8 : Int32) (a0_9 : Nat) (a0_10 : Nat) (a0_11 : Nat) (a0_12 : Nat) (a0_13 : Nat) (h_a0_0 : 0 ≤ a0_0.toInt ∧ a0_0.toInt ≤ 8) (h_a0_2 : 0 ≤ a0_2.toInt ∧ a0_2.toInt ≤ 4) (h_a0_4 : 0 ≤ a0_4.toInt ∧ a0_4.toInt ≤ 24) (h_a0_8 : 0 ≤ a0_8.toInt ∧ a0_8.toInt ≤ 12) : Met l yX1_hasClosure (.code yX1_hasClosure cX1_hasClosure 2 (some .boolean) :: TBL) ({ frames := 0, cells := 0, slots := 0, locals := 0 }) (va_Pc [.ref a0, .int a1] (fun U => va_P (dC, dI) vwCl [(a0, .inr (0, [.int a0_0, .ref a0_1, .int a0_2, .ref a0_3, .int a0_4, .ref a0_5, .ref a0_6, .ref a0_7, .int a0_8, .ref a0_9, .ref a0_10, .ref a0_11, .ref a0_12, .ref a0_13]))] U.heap ∧ va_K (dC, dI) vwCl [] U ∧ Ev g (fun _ => False) U)) (vp_Si (fun (r : Int32) => (r = 0 ∨ r = 1) ∧ ((r.toInt = 1 ∧ 0 ≤ a1.toInt ∧ a1.toInt < a0_8.toInt) ∨ r.toInt = 0))) 0 0 (fun _ => False) := by
  refine Met.ofW (cc := cX1_hasClosure) (maxL := 2) (ret := (some .boolean)) (by decide) rfl ?_
  intro p e s m args below meth c s₁ B hml hv
  obtain ⟨rfl, hP, hK, hE⟩ := hv
  have hx := B.exec
  have hb := B.bytes
  have hr := B.returns
  have hts0 := atoms_spec (ws := (.code yX1_hasClosure cX1_hasClosure 2 (some .boolean) :: TBL)) B.pre
  have hts := fun (w : Cond) (h : w ∈ TBL) => hts0 w (List.mem_cons_of_mem _ h)
  have hown : s.vm.findClass RX1 = some m.cls := findClass_of_methodNamed B.named
  have hlocks := B.notSynchronized
  have hN := hE.1
  have hS : va_S (fun _ => False) s.heap s.heap [] := va_S.rf
  replace hP : va_P (dC, dI) vwCl [(a0, .inr (0, [.int a0_0, .ref a0_1, .int a0_2, .ref a0_3, .int a0_4, .ref a0_5, .ref a0_6, .ref a0_7, .int a0_8, .ref a0_9, .ref a0_10, .ref a0_11, .ref a0_12, .ref a0_13]))] s.heap := hP
  have hl := lv_entry ([.ref a0, .int a1]) (n := 2) (Nat.le_of_ble_eq_true rfl)
  rw [lg_entry_eq]
  generalize (lg_sl ([.ref a0, .int a1]) ++ List.replicate (2 - (lg_sl ([.ref a0, .int a1])).length) Slot.unset).toArray = ls at hl ⊢
  have hl : lv_has ls 2 [(0, .ref a0), (1, .int a1)] := hl
  have b_a1 := i32b a1
  refine lv_iload_n hx hb dX1_hasClosure_0 rfl (lv_at hl 1 rfl) ?_
  refine lv_if_lt (tgt := 16) hx hb dX1_hasClosure_1 (by decide) (fun c1_1 => ?_) (fun c1_1 => ?_)
  · have c1_1 : a1.toInt < 0 := (cv_lt rfl (by decide)).mp c1_1
    refine lv_iconst (v := 0) hx hb dX1_hasClosure_16 (by decide) ?_
    exact W.zret (v := 0) hx hb hr rfl (fun t ht hW => ⟨0, rfl, ⟨(by decide), (by have q := (show (0 : Int32).toInt = 0 by decide); omega)⟩, ht⟩) (fun _ h => absurd h List.not_mem_nil) dX1_hasClosure_17
  · have c1_1 : ¬ (a1.toInt < 0) := mt (cv_lt rfl (by decide)).mpr c1_1
    refine lv_iload_n hx hb dX1_hasClosure_4 rfl (lv_at hl 1 rfl) ?_
    refine lv_aload_n hx hb dX1_hasClosure_5 rfl (lv_at hl 0 rfl) ?_
    refine va_get (D := (dC, dI)) (ci := 0) (v := .int a0_8) (C := RX1) (T := TX1) (N := 14) hx hb hts inlX1 hown hK hP 0 rgL1_f9e15c6 rfl 8 (by decide) (hts (.fieldLink RX1 55 "ClosedUntil$Holdings" "closures" "I") qw_25) (fun _ h9 => h9) rfl dX1_hasClosure_6 ?_
    refine lv_icmp_ge (tgt := 16) hx hb dX1_hasClosure_9 (by decide) (fun c9_2 => ?_) (fun c9_2 => ?_)
    · have c9_2 : a0_8.toInt ≤ a1.toInt := (cv_le rfl rfl).mp c9_2
      refine lv_iconst (v := 0) hx hb dX1_hasClosure_16 (by decide) ?_
      exact W.zret (v := 0) hx hb hr rfl (fun t ht hW => ⟨0, rfl, ⟨(by decide), (by have q := (show (0 : Int32).toInt = 0 by decide); omega)⟩, ht⟩) (fun _ h => absurd h List.not_mem_nil) dX1_hasClosure_17
    · have c9_2 : ¬ (a0_8.toInt ≤ a1.toInt) := mt (cv_le rfl rfl).mpr c9_2
      refine lv_iconst (v := 1) hx hb dX1_hasClosure_12 (by decide) ?_
      refine lv_goto (tgt := 17) hx hb dX1_hasClosure_13 (by decide) ?_
      exact W.zret (v := 1) hx hb hr rfl (fun t ht hW => ⟨1, rfl, ⟨(by decide), (by have q := (show (1 : Int32).toInt = 1 by decide); omega)⟩, ht⟩) (fun _ h => absurd h List.not_mem_nil) dX1_hasClosure_17
set_option maxHeartbeats 4000000 in
set_option maxRecDepth 100000 in
theorem k_X8_hasBit (l : Launch) (dC : Nat → ClassId) (dI : Nat → Nat → Nat) (g : Gv) (a0 : Int32) (a1 : Int32)  : Met l yX8_hasBit (.code yX8_hasBit cX8_hasBit 2 (some .boolean) :: TBL) ({ frames := 0, cells := 0, slots := 0, locals := 0 }) (va_Pc [.int a0, .int a1] (fun U => va_P (dC, dI) vwCl [] U.heap ∧ va_K (dC, dI) vwCl [] U ∧ Ev g (fun _ => False) U)) (vp_Si (fun (r : Int32) => (r = 0 ∨ r = 1))) 0 0 (fun _ => False) := by
  refine Met.ofW (cc := cX8_hasBit) (maxL := 2) (ret := (some .boolean)) (by decide) rfl ?_
  intro p e s m args below meth c s₁ B hml hv
  obtain ⟨rfl, hP, hK, hE⟩ := hv
  have hx := B.exec
  have hb := B.bytes
  have hr := B.returns
  have hts0 := atoms_spec (ws := (.code yX8_hasBit cX8_hasBit 2 (some .boolean) :: TBL)) B.pre
  have hts := fun (w : Cond) (h : w ∈ TBL) => hts0 w (List.mem_cons_of_mem _ h)
  have hown : s.vm.findClass RX8 = some m.cls := findClass_of_methodNamed B.named
  have hlocks := B.notSynchronized
  have hN := hE.1
  have hS : va_S (fun _ => False) s.heap s.heap [] := va_S.rf
  replace hP : va_P (dC, dI) vwCl [] s.heap := hP
  have hl := lv_entry ([.int a0, .int a1]) (n := 2) (Nat.le_of_ble_eq_true rfl)
  rw [lg_entry_eq]
  generalize (lg_sl ([.int a0, .int a1]) ++ List.replicate (2 - (lg_sl ([.int a0, .int a1])).length) Slot.unset).toArray = ls at hl ⊢
  have hl : lv_has ls 2 [(0, .int a0), (1, .int a1)] := hl
  have b_a0 := i32b a0
  have b_a1 := i32b a1
  refine lv_iload_n hx hb dX8_hasBit_0 rfl (lv_at hl 1 rfl) ?_
  refine lv_if_lt (tgt := 17) hx hb dX8_hasBit_1 (by decide) (fun c1_1 => ?_) (fun c1_1 => ?_)
  · have c1_1 : a1.toInt < 0 := (cv_lt rfl (by decide)).mp c1_1
    refine lv_iconst (v := 0) hx hb dX8_hasBit_17 (by decide) ?_
    exact W.zret (v := 0) hx hb hr rfl (fun t ht hW => ⟨0, rfl, (by decide), ht⟩) (fun _ h => absurd h List.not_mem_nil) dX8_hasBit_18
  · have c1_1 : ¬ (a1.toInt < 0) := mt (cv_lt rfl (by decide)).mpr c1_1
    refine lv_iload_n hx hb dX8_hasBit_4 rfl (lv_at hl 0 rfl) ?_
    refine lv_iload_n hx hb dX8_hasBit_5 rfl (lv_at hl 1 rfl) ?_
    refine lv_iushr hx hb dX8_hasBit_6 rfl ?_
    refine lv_topi (fun x2 e_x2 => ?_)
    refine lv_iconst (v := 1) hx hb dX8_hasBit_7 (by decide) ?_
    refine lv_iand hx hb dX8_hasBit_8 ?_
    refine lv_topi (fun x3 e_x3 => ?_)
    have e_x3 := ti_and e_x3 (show (1 : Int32).toInt = 1 by decide) (by decide)
    refine lv_iconst (v := 1) hx hb dX8_hasBit_9 (by decide) ?_
    refine lv_icmp_ne (tgt := 17) hx hb dX8_hasBit_10 (by decide) (fun c10_4 => ?_) (fun c10_4 => ?_)
    · have c10_4 : ¬ (x3.toInt = 1) := mt (cv_eq rfl (by decide)).mpr c10_4
      refine lv_iconst (v := 0) hx hb dX8_hasBit_17 (by decide) ?_
      exact W.zret (v := 0) hx hb hr rfl (fun t ht hW => ⟨0, rfl, (by decide), ht⟩) (fun _ h => absurd h List.not_mem_nil) dX8_hasBit_18
    · have c10_4 : x3.toInt = 1 := (cv_eq rfl (by decide)).mp c10_4
      refine lv_iconst (v := 1) hx hb dX8_hasBit_13 (by decide) ?_
      refine lv_goto (tgt := 18) hx hb dX8_hasBit_14 (by decide) ?_
      exact W.zret (v := 1) hx hb hr rfl (fun t ht hW => ⟨1, rfl, (by decide), ht⟩) (fun _ h => absurd h List.not_mem_nil) dX8_hasBit_18
set_option maxHeartbeats 4000000 in
set_option maxRecDepth 100000 in
theorem k_X1_piecesOf (l : Launch) (dC : Nat → ClassId) (dI : Nat → Nat → Nat) (g : Gv) (a0 : Nat) (a1 : Int32) (a0_0 : Int32) (a0_1 : Nat) (a0_2 : Int32) (a0_3 : Nat) (a0_4 : Int32) (a0_5 : Nat) (a0_6 : Nat) (a0_7 : Nat) (a0_8 : Int32) (a0_9 : Nat) (a0_10 : Nat) (a0_11 : Nat) (a0_12 : Nat) (a0_13 : Nat) (a0_6_c : ClassId) (a0_6_f : Nat → Int32) (h_a0_0 : 0 ≤ a0_0.toInt ∧ a0_0.toInt ≤ 8) (h_a0_2 : 0 ≤ a0_2.toInt ∧ a0_2.toInt ≤ 4) (h_a0_4 : 0 ≤ a0_4.toInt ∧ a0_4.toInt ≤ 24) (h_a0_8 : 0 ≤ a0_8.toInt ∧ a0_8.toInt ≤ 12) : Met l yX1_piecesOf (.code yX1_piecesOf cX1_piecesOf 4 (some .int) :: TBL) ({ frames := 1, cells := 0, slots := 0, locals := 21 }) (va_Pc [.ref a0, .int a1] (fun U => va_P (dC, dI) vwCl [(a0, .inr (0, [.int a0_0, .ref a0_1, .int a0_2, .ref a0_3, .int a0_4, .ref a0_5, .ref a0_6, .ref a0_7, .int a0_8, .ref a0_9, .ref a0_10, .ref a0_11, .ref a0_12, .ref a0_13])), (a0_6, .inl (a0_6_c, 24, .inl a0_6_f))] U.heap ∧ va_K (dC, dI) vwCl [(a0_6_c, .int)] U ∧ Ev g (fun _ => False) U)) (vp_Si (fun (r : Int32) => True)) 0 0 (fun _ => False) := by
  refine Met.ofW (cc := cX1_piecesOf) (maxL := 4) (ret := (some .int)) (by decide) rfl ?_
  intro p e s m args below meth c s₁ B hml hv
  obtain ⟨rfl, hP, hK, hE⟩ := hv
  have hx := B.exec
  have hb := B.bytes
  have hr := B.returns
  have hts0 := atoms_spec (ws := (.code yX1_piecesOf cX1_piecesOf 4 (some .int) :: TBL)) B.pre
  have hts := fun (w : Cond) (h : w ∈ TBL) => hts0 w (List.mem_cons_of_mem _ h)
  have hown : s.vm.findClass RX1 = some m.cls := findClass_of_methodNamed B.named
  have hlocks := B.notSynchronized
  have hN := hE.1
  have hS : va_S (fun _ => False) s.heap s.heap [] := va_S.rf
  replace hP : va_P (dC, dI) vwCl [(a0, .inr (0, [.int a0_0, .ref a0_1, .int a0_2, .ref a0_3, .int a0_4, .ref a0_5, .ref a0_6, .ref a0_7, .int a0_8, .ref a0_9, .ref a0_10, .ref a0_11, .ref a0_12, .ref a0_13])), (a0_6, .inl (a0_6_c, 24, .inl a0_6_f))] s.heap := hP
  have hl := lv_entry ([.ref a0, .int a1]) (n := 4) (Nat.le_of_ble_eq_true rfl)
  rw [lg_entry_eq]
  generalize (lg_sl ([.ref a0, .int a1]) ++ List.replicate (4 - (lg_sl ([.ref a0, .int a1])).length) Slot.unset).toArray = ls at hl ⊢
  have hl : lv_has ls 4 [(0, .ref a0), (1, .int a1)] := hl
  have b_a1 := i32b a1
  refine lv_iconst (v := 0) hx hb dX1_piecesOf_0 (by decide) ?_
  refine lv_istore_n (lv' := [(2, .int 0), (0, .ref a0), (1, .int a1)]) hx hb dX1_piecesOf_1 rfl hl (by decide) rfl (fun ls hl => ?_)
  refine lv_iconst (v := 0) hx hb dX1_piecesOf_2 (by decide) ?_
  refine lv_istore_n (lv' := [(3, .int 0), (2, .int 0), (0, .ref a0), (1, .int a1)]) hx hb dX1_piecesOf_3 rfl hl (by decide) rfl (fun ls hl => ?_)
  have qc0 : (0 : Int32).toInt = 0 := by decide
  refine wloop (fun n H locs ls => ∃ (l4_3 : Int32) (l4_2 : Int32), n = (2147483647 - l4_3.toInt).toNat ∧ (0 ≤ l4_3.toInt) ∧ lv_has ls 4 [(3, .int l4_3), (2, .int l4_2), (0, .ref a0), (1, .int a1)] ∧ H = s.heap ∧ locs = []) ?_ ((2147483647 - (0 : Int32).toInt).toNat) _ _ _ ⟨0, 0, rfl, (by omega), lv_sub hl [0, 1, 2, 3] rfl, rfl, rfl⟩
  intro n4 H locs ls hI ih4
  obtain ⟨l4_3, l4_2, hn4, g_l4_3, hl, rfl, rfl⟩ := hI
  have b_l4_3 := i32b l4_3
  have b_l4_2 := i32b l4_2
  refine lv_iload_n hx hb dX1_piecesOf_4 rfl (lv_at hl 0 rfl) ?_
  refine lv_aload_n hx hb dX1_piecesOf_5 rfl (lv_at hl 2 rfl) ?_
  refine va_get (D := (dC, dI)) (ci := 0) (v := .int a0_4) (C := RX1) (T := TX1) (N := 14) hx hb hts inlX1 hown hK hP 0 rgL2_5ac5f51 rfl 4 (by decide) (hts (.fieldLink RX1 52 "ClosedUntil$Holdings" "pieces" "I") qw_24) (fun _ h9 => h9) rfl dX1_piecesOf_6 ?_
  refine lv_icmp_ge (tgt := 37) hx hb dX1_piecesOf_9 (by decide) (fun c9_1 => ?_) (fun c9_1 => ?_)
  · have c9_1 : a0_4.toInt ≤ l4_3.toInt := (cv_le rfl rfl).mp c9_1
    refine lv_iload_n hx hb dX1_piecesOf_37 rfl (lv_at hl 1 rfl) ?_
    exact W.iret (v := l4_2) hx hb hr (fun t ht hW => ⟨l4_2, rfl, trivial, ht⟩) (fun _ h => absurd h List.not_mem_nil) dX1_piecesOf_38
  · have c9_1 : ¬ (a0_4.toInt ≤ l4_3.toInt) := mt (cv_le rfl rfl).mpr c9_1
    refine lv_aload_n hx hb dX1_piecesOf_12 rfl (lv_at hl 2 rfl) ?_
    refine va_get (D := (dC, dI)) (ci := 0) (v := .ref a0_6) (C := RX1) (T := TX1) (N := 14) hx hb hts inlX1 hown hK hP 0 rgL2_5ac5f51 rfl 6 (by decide) (hts (.fieldLink RX1 21 "ClosedUntil$Holdings" "peopleOf" "[I") qw_26) (fun _ h9 => h9) rfl dX1_piecesOf_13 ?_
    refine lv_iload_n hx hb dX1_piecesOf_16 rfl (lv_at hl 0 rfl) ?_
    refine va_iald hx hb hK hP 1 0 rgL2_906ef0f rgT1_bb00d73 (vinI (by omega) (by omega)) dX1_piecesOf_17 ?_
    refine lv_topi (fun x2 e_x2 => ?_)
    have b_x2 := i32b x2
    refine lv_iload_n hx hb dX1_piecesOf_18 rfl (lv_at hl 3 rfl) ?_
    have hPc := (rgP2_6c9046d hP)
    have hKc := (rgK1_f3b3254 hK)
    refine vp_callSi ((va_runSN (As := [.int x2, .int a1]) (rest := []) ⟨hx, hb, hml, hown, hts⟩ (k_X8_hasBit l dC dI g (x2) (a1) ) ⟨va_cnB 2 hts (gwC qw_27) rfl rfl rfl (nm_28 hN) (hts (.initialized RX8) qw_28) (by decide +kernel) ⟨Nat.le_of_ble_eq_true rfl, Nat.le_of_ble_eq_true rfl⟩, (hts (.static yX8_hasBit) qw_29), trivial⟩ ⟨fun a U g9 mk q => ⟨q.1, q.2.1, va_K.moved (u := U) (U := U.calling g9 mk a) (Vm.Alike.refl U.vm) q.2.2.1, Ev.bl q.2.2.2⟩, fun U hU hW => ⟨rfl, atB hU hPc, va_K.moved hW.alike hKc, hE.go hS (fun _ h => h.elim) hU hW⟩⟩ rfl rfl hl.1 rfl (lv_room (Nat.le_of_ble_eq_true rfl)) dX1_piecesOf_19 ⟨Nat.le_of_ble_eq_true rfl, Nat.le_of_ble_eq_true rfl⟩)).run (fun r3 h_r3 => ?_)
    have h_r3 : (r3 = 0 ∨ r3 = 1) := h_r3
    have b_r3 := z01 (show r3 = 0 ∨ r3 = 1 from h_r3)
    refine lv_if_eq (tgt := 31) hx hb dX1_piecesOf_22 (by decide) (fun c22_4 => ?_) (fun c22_4 => ?_)
    · have c22_4 : r3.toInt = 0 := (cv_eq rfl (by decide)).mp c22_4
      obtain ⟨x5, e_x5⟩ : ∃ y : Int32, y = l4_3 + 1 := ⟨_, rfl⟩
      refine lv_iinc (v := x5) (lv' := [(3, .int x5), (2, .int l4_2), (0, .ref a0), (1, .int a1)]) hx hb dX1_piecesOf_31 hl (k := 0) rfl (by rw [e_x5]; rfl) (by decide) rfl (fun ls hl => ?_)
      try have e_x5 := ti_add e_x5 rfl (show (1 : Int32).toInt = 1 by decide) (by omega)
      refine lv_goto (tgt := 4) hx hb dX1_piecesOf_34 (by decide) ?_
      exact ih4 ((2147483647 - x5.toInt).toNat) _ _ _ (by omega) ⟨x5, l4_2, rfl, (by omega), lv_sub hl [0, 1, 2, 3] rfl, rfl, rfl⟩
    · have c22_4 : ¬ (r3.toInt = 0) := mt (cv_eq rfl (by decide)).mpr c22_4
      refine lv_iload_n hx hb dX1_piecesOf_25 rfl (lv_at hl 1 rfl) ?_
      refine lv_iconst (v := 1) hx hb dX1_piecesOf_26 (by decide) ?_
      refine lv_iload_n hx hb dX1_piecesOf_27 rfl (lv_at hl 0 rfl) ?_
      refine lv_ishl hx hb dX1_piecesOf_28 ?_
      refine lv_topi (fun x6 e_x6 => ?_)
      refine lv_ior hx hb dX1_piecesOf_29 ?_
      refine lv_topi (fun x7 e_x7 => ?_)
      refine lv_istore_n (lv' := [(2, .int x7), (3, .int l4_3), (0, .ref a0), (1, .int a1)]) hx hb dX1_piecesOf_30 rfl hl (by decide) rfl (fun ls hl => ?_)
      obtain ⟨x8, e_x8⟩ : ∃ y : Int32, y = l4_3 + 1 := ⟨_, rfl⟩
      refine lv_iinc (v := x8) (lv' := [(3, .int x8), (2, .int x7), (0, .ref a0), (1, .int a1)]) hx hb dX1_piecesOf_31 hl (k := 1) rfl (by rw [e_x8]; rfl) (by decide) rfl (fun ls hl => ?_)
      try have e_x8 := ti_add e_x8 rfl (show (1 : Int32).toInt = 1 by decide) (by omega)
      refine lv_goto (tgt := 4) hx hb dX1_piecesOf_34 (by decide) ?_
      exact ih4 ((2147483647 - x8.toInt).toNat) _ _ _ (by omega) ⟨x8, x7, rfl, (by omega), lv_sub hl [0, 1, 2, 3] rfl, rfl, rfl⟩
set_option maxHeartbeats 4000000 in
set_option maxRecDepth 100000 in
theorem k_X1_isTarget (l : Launch) (dC : Nat → ClassId) (dI : Nat → Nat → Nat) (g : Gv) (a0 : Nat) (a1 : Int32) (a2 : Int32) (a0_0 : Int32) (a0_1 : Nat) (a0_2 : Int32) (a0_3 : Nat) (a0_4 : Int32) (a0_5 : Nat) (a0_6 : Nat) (a0_7 : Nat) (a0_8 : Int32) (a0_9 : Nat) (a0_10 : Nat) (a0_11 : Nat) (a0_12 : Nat) (a0_13 : Nat) (a0_6_c : ClassId) (a0_6_f : Nat → Int32) (a0_7_c : ClassId) (a0_7_f : Nat → Int32) (a0_9_c : ClassId) (a0_9_f : Nat → Int32) (a0_10_c : ClassId) (a0_10_f : Nat → Int32) (h_a0_0 : 0 ≤ a0_0.toInt ∧ a0_0.toInt ≤ 8) (h_a0_2 : 0 ≤ a0_2.toInt ∧ a0_2.toInt ≤ 4) (h_a0_4 : 0 ≤ a0_4.toInt ∧ a0_4.toInt ≤ 24) (h_a0_8 : 0 ≤ a0_8.toInt ∧ a0_8.toInt ≤ 12) (ha1r : 0 ≤ a1.toInt ∧ a1.toInt < 12) (ha2r : 0 ≤ a2.toInt ∧ a2.toInt < 24) : Met l yX1_isTarget (.code yX1_isTarget cX1_isTarget 4 (some .boolean) :: TBL) ({ frames := 1, cells := 0, slots := 0, locals := 21 }) (va_Pc [.ref a0, .int a1, .int a2] (fun U => va_P (dC, dI) vwCl [(a0, .inr (0, [.int a0_0, .ref a0_1, .int a0_2, .ref a0_3, .int a0_4, .ref a0_5, .ref a0_6, .ref a0_7, .int a0_8, .ref a0_9, .ref a0_10, .ref a0_11, .ref a0_12, .ref a0_13])), (a0_6, .inl (a0_6_c, 24, .inl a0_6_f)), (a0_7, .inl (a0_7_c, 24, .inl a0_7_f)), (a0_9, .inl (a0_9_c, 12, .inl a0_9_f)), (a0_10, .inl (a0_10_c, 12, .inl a0_10_f))] U.heap ∧ va_K (dC, dI) vwCl [(a0_6_c, .int), (a0_7_c, .int), (a0_9_c, .int), (a0_10_c, .int)] U ∧ Ev g (fun _ => False) U)) (vp_Si (fun (r : Int32) => (r = 0 ∨ r = 1))) 0 0 (fun _ => False) := by
  refine Met.ofW (cc := cX1_isTarget) (maxL := 4) (ret := (some .boolean)) (by decide) rfl ?_
  intro p e s m args below meth c s₁ B hml hv
  obtain ⟨rfl, hP, hK, hE⟩ := hv
  have hx := B.exec
  have hb := B.bytes
  have hr := B.returns
  have hts0 := atoms_spec (ws := (.code yX1_isTarget cX1_isTarget 4 (some .boolean) :: TBL)) B.pre
  have hts := fun (w : Cond) (h : w ∈ TBL) => hts0 w (List.mem_cons_of_mem _ h)
  have hown : s.vm.findClass RX1 = some m.cls := findClass_of_methodNamed B.named
  have hlocks := B.notSynchronized
  have hN := hE.1
  have hS : va_S (fun _ => False) s.heap s.heap [] := va_S.rf
  replace hP : va_P (dC, dI) vwCl [(a0, .inr (0, [.int a0_0, .ref a0_1, .int a0_2, .ref a0_3, .int a0_4, .ref a0_5, .ref a0_6, .ref a0_7, .int a0_8, .ref a0_9, .ref a0_10, .ref a0_11, .ref a0_12, .ref a0_13])), (a0_6, .inl (a0_6_c, 24, .inl a0_6_f)), (a0_7, .inl (a0_7_c, 24, .inl a0_7_f)), (a0_9, .inl (a0_9_c, 12, .inl a0_9_f)), (a0_10, .inl (a0_10_c, 12, .inl a0_10_f))] s.heap := hP
  have hl := lv_entry ([.ref a0, .int a1, .int a2]) (n := 4) (Nat.le_of_ble_eq_true rfl)
  rw [lg_entry_eq]
  generalize (lg_sl ([.ref a0, .int a1, .int a2]) ++ List.replicate (4 - (lg_sl ([.ref a0, .int a1, .int a2])).length) Slot.unset).toArray = ls at hl ⊢
  have hl : lv_has ls 4 [(0, .ref a0), (1, .int a1), (2, .int a2)] := hl
  have b_a1 := i32b a1
  have b_a2 := i32b a2
  refine lv_aload_n hx hb dX1_isTarget_0 rfl (lv_at hl 0 rfl) ?_
  refine va_get (D := (dC, dI)) (ci := 0) (v := .ref a0_10) (C := RX1) (T := TX1) (N := 14) hx hb hts inlX1 hown hK hP 0 rgL5_a6879b9 rfl 10 (by decide) (hts (.fieldLink RX1 30 "ClosedUntil$Holdings" "subject" "[I") qw_30) (fun _ h9 => h9) rfl dX1_isTarget_1 ?_
  refine lv_iload_n hx hb dX1_isTarget_4 rfl (lv_at hl 1 rfl) ?_
  refine va_iald hx hb hK hP 4 3 rgL5_c0b45fd rgT4_a0d579d (vinI (by omega) (by omega)) dX1_isTarget_5 ?_
  refine lv_topi (fun x1 e_x1 => ?_)
  have b_x1 := i32b x1
  refine lv_istore_n (lv' := [(3, .int x1), (0, .ref a0), (1, .int a1), (2, .int a2)]) hx hb dX1_isTarget_6 rfl hl (by decide) rfl (fun ls hl => ?_)
  refine lv_aload_n hx hb dX1_isTarget_7 rfl (lv_at hl 1 rfl) ?_
  refine va_get (D := (dC, dI)) (ci := 0) (v := .ref a0_9) (C := RX1) (T := TX1) (N := 14) hx hb hts inlX1 hown hK hP 0 rgL5_a6879b9 rfl 9 (by decide) (hts (.fieldLink RX1 27 "ClosedUntil$Holdings" "sort" "[I") qw_31) (fun _ h9 => h9) rfl dX1_isTarget_8 ?_
  refine lv_iload_n hx hb dX1_isTarget_11 rfl (lv_at hl 2 rfl) ?_
  refine va_iald hx hb hK hP 3 2 rgL5_b55ecbc rgT4_df3fd44 (vinI (by omega) (by omega)) dX1_isTarget_12 ?_
  refine lv_topi (fun x2 e_x2 => ?_)
  have b_x2 := i32b x2
  rcases (show x2.toInt = 1 ∨ x2.toInt = 2 ∨ (x2.toInt ≠ 1 ∧ x2.toInt ≠ 2) by omega) with hq3 | hq3 | hq3
  · refine lv_lookup (off := 27) (tgt := 40) hx hb dX1_isTarget_13 (by decide) (by rw [hq3]; rfl) (by decide) ?_
    refine lv_aload_n hx hb dX1_isTarget_40 rfl (lv_at hl 1 rfl) ?_
    refine va_get (D := (dC, dI)) (ci := 0) (v := .ref a0_6) (C := RX1) (T := TX1) (N := 14) hx hb hts inlX1 hown hK hP 0 rgL5_a6879b9 rfl 6 (by decide) (hts (.fieldLink RX1 21 "ClosedUntil$Holdings" "peopleOf" "[I") qw_26) (fun _ h9 => h9) rfl dX1_isTarget_41 ?_
    refine lv_iload_n hx hb dX1_isTarget_44 rfl (lv_at hl 3 rfl) ?_
    refine va_iald hx hb hK hP 1 0 rgL5_8fa4d66 rgT4_b662ba5 (vinI (by omega) (by omega)) dX1_isTarget_45 ?_
    refine lv_topi (fun x4 e_x4 => ?_)
    have b_x4 := i32b x4
    refine lv_iload_n hx hb dX1_isTarget_46 rfl (lv_at hl 0 rfl) ?_
    have hPc := (rgP5_7f34564 hP)
    have hKc := (rgK4_6738937 hK)
    refine vp_callSi ((va_runSN (As := [.int x4, .int x1]) (rest := []) ⟨hx, hb, hml, hown, hts⟩ (k_X8_hasBit l dC dI g (x4) (x1) ) ⟨va_cnB 2 hts (gwC qw_27) rfl rfl rfl (nm_28 hN) (hts (.initialized RX8) qw_28) (by decide +kernel) ⟨Nat.le_of_ble_eq_true rfl, Nat.le_of_ble_eq_true rfl⟩, (hts (.static yX8_hasBit) qw_29), trivial⟩ ⟨fun a U g9 mk q => ⟨q.1, q.2.1, va_K.moved (u := U) (U := U.calling g9 mk a) (Vm.Alike.refl U.vm) q.2.2.1, Ev.bl q.2.2.2⟩, fun U hU hW => ⟨rfl, atB hU hPc, va_K.moved hW.alike hKc, hE.go hS (fun _ h => h.elim) hU hW⟩⟩ rfl rfl hl.1 rfl (lv_room (Nat.le_of_ble_eq_true rfl)) dX1_isTarget_47 ⟨Nat.le_of_ble_eq_true rfl, Nat.le_of_ble_eq_true rfl⟩)).run (fun r5 h_r5 => ?_)
    have h_r5 : (r5 = 0 ∨ r5 = 1) := h_r5
    have b_r5 := z01 (show r5 = 0 ∨ r5 = 1 from h_r5)
    have hz_r5 : r5 = 0 ∨ r5 = 1 := by first | assumption | exact h_r5.1 | (rcases (show r5.toInt = 0 ∨ r5.toInt = 1 by omega) with q | q; exact Or.inl (Int32.toInt_inj.mp q); exact Or.inr (Int32.toInt_inj.mp q))
    exact W.zret (v := r5) hx hb hr (narB (by assumption)) (fun t ht hW => ⟨r5, rfl, hz_r5, ht⟩) (fun _ h => absurd h List.not_mem_nil) dX1_isTarget_50
  · refine lv_lookup (off := 38) (tgt := 51) hx hb dX1_isTarget_13 (by decide) (by rw [hq3]; rfl) (by decide) ?_
    refine lv_aload_n hx hb dX1_isTarget_51 rfl (lv_at hl 1 rfl) ?_
    refine va_get (D := (dC, dI)) (ci := 0) (v := .ref a0_7) (C := RX1) (T := TX1) (N := 14) hx hb hts inlX1 hown hK hP 0 rgL5_a6879b9 rfl 7 (by decide) (hts (.fieldLink RX1 24 "ClosedUntil$Holdings" "depositOf" "[I") qw_32) (fun _ h9 => h9) rfl dX1_isTarget_52 ?_
    refine lv_iload_n hx hb dX1_isTarget_55 rfl (lv_at hl 3 rfl) ?_
    refine va_iald hx hb hK hP 2 1 rgL5_4d93d4e rgT4_b124325 (vinI (by omega) (by omega)) dX1_isTarget_56 ?_
    refine lv_topi (fun x6 e_x6 => ?_)
    have b_x6 := i32b x6
    refine lv_iload_n hx hb dX1_isTarget_57 rfl (lv_at hl 0 rfl) ?_
    refine lv_icmp_ne (tgt := 65) hx hb dX1_isTarget_58 (by decide) (fun c58_7 => ?_) (fun c58_7 => ?_)
    · have c58_7 : ¬ (x6.toInt = x1.toInt) := mt (cv_eq rfl rfl).mpr c58_7
      refine lv_iconst (v := 0) hx hb dX1_isTarget_65 (by decide) ?_
      exact W.zret (v := 0) hx hb hr rfl (fun t ht hW => ⟨0, rfl, (by decide), ht⟩) (fun _ h => absurd h List.not_mem_nil) dX1_isTarget_66
    · have c58_7 : x6.toInt = x1.toInt := (cv_eq rfl rfl).mp c58_7
      refine lv_iconst (v := 1) hx hb dX1_isTarget_61 (by decide) ?_
      refine lv_goto (tgt := 66) hx hb dX1_isTarget_62 (by decide) ?_
      exact W.zret (v := 1) hx hb hr rfl (fun t ht hW => ⟨1, rfl, (by decide), ht⟩) (fun _ h => absurd h List.not_mem_nil) dX1_isTarget_66
  · refine lv_lookup (off := 54) (tgt := 67) hx hb dX1_isTarget_13 (by decide) (by refine (Op.lookupswitch.offset_cons _ _ _ _ _).trans ((if_neg (fun q => by omega)).trans ?_); refine (Op.lookupswitch.offset_cons _ _ _ _ _).trans ((if_neg (fun q => by omega)).trans ?_); rfl) (by decide) ?_
    refine lv_iload_n hx hb dX1_isTarget_67 rfl (lv_at hl 3 rfl) ?_
    refine lv_iload_n hx hb dX1_isTarget_68 rfl (lv_at hl 0 rfl) ?_
    refine lv_icmp_ne (tgt := 76) hx hb dX1_isTarget_69 (by decide) (fun c69_8 => ?_) (fun c69_8 => ?_)
    · have c69_8 : ¬ (a2.toInt = x1.toInt) := mt (cv_eq rfl rfl).mpr c69_8
      refine lv_iconst (v := 0) hx hb dX1_isTarget_76 (by decide) ?_
      exact W.zret (v := 0) hx hb hr rfl (fun t ht hW => ⟨0, rfl, (by decide), ht⟩) (fun _ h => absurd h List.not_mem_nil) dX1_isTarget_77
    · have c69_8 : a2.toInt = x1.toInt := (cv_eq rfl rfl).mp c69_8
      refine lv_iconst (v := 1) hx hb dX1_isTarget_72 (by decide) ?_
      refine lv_goto (tgt := 77) hx hb dX1_isTarget_73 (by decide) ?_
      exact W.zret (v := 1) hx hb hr rfl (fun t ht hW => ⟨1, rfl, (by decide), ht⟩) (fun _ h => absurd h List.not_mem_nil) dX1_isTarget_77
set_option maxHeartbeats 4000000 in
set_option maxRecDepth 100000 in
theorem k_X1_holdingFor (l : Launch) (dC : Nat → ClassId) (dI : Nat → Nat → Nat) (g : Gv) (a0 : Nat) (a1 : Int32) (a0_0 : Int32) (a0_1 : Nat) (a0_2 : Int32) (a0_3 : Nat) (a0_4 : Int32) (a0_5 : Nat) (a0_6 : Nat) (a0_7 : Nat) (a0_8 : Int32) (a0_9 : Nat) (a0_10 : Nat) (a0_11 : Nat) (a0_12 : Nat) (a0_13 : Nat) (a0_9_c : ClassId) (a0_9_f : Nat → Int32) (h_a0_0 : 0 ≤ a0_0.toInt ∧ a0_0.toInt ≤ 8) (h_a0_2 : 0 ≤ a0_2.toInt ∧ a0_2.toInt ≤ 4) (h_a0_4 : 0 ≤ a0_4.toInt ∧ a0_4.toInt ≤ 24) (h_a0_8 : 0 ≤ a0_8.toInt ∧ a0_8.toInt ≤ 12) : Met l yX1_holdingFor (.code yX1_holdingFor cX1_holdingFor 4 (some .int) :: TBL) ({ frames := 1, cells := 0, slots := 0, locals := 21 }) (va_Pc [.ref a0, .int a1] (fun U => va_P (dC, dI) vwCl [(a0, .inr (0, [.int a0_0, .ref a0_1, .int a0_2, .ref a0_3, .int a0_4, .ref a0_5, .ref a0_6, .ref a0_7, .int a0_8, .ref a0_9, .ref a0_10, .ref a0_11, .ref a0_12, .ref a0_13])), (a0_9, .inl (a0_9_c, 12, .inl a0_9_f))] U.heap ∧ va_K (dC, dI) vwCl [(a0_9_c, .int)] U ∧ Ev g (fun _ => False) U)) (vp_Si (fun (r : Int32) => True)) 0 0 (fun _ => False) := by
  refine Met.ofW (cc := cX1_holdingFor) (maxL := 4) (ret := (some .int)) (by decide) rfl ?_
  intro p e s m args below meth c s₁ B hml hv
  obtain ⟨rfl, hP, hK, hE⟩ := hv
  have hx := B.exec
  have hb := B.bytes
  have hr := B.returns
  have hts0 := atoms_spec (ws := (.code yX1_holdingFor cX1_holdingFor 4 (some .int) :: TBL)) B.pre
  have hts := fun (w : Cond) (h : w ∈ TBL) => hts0 w (List.mem_cons_of_mem _ h)
  have hown : s.vm.findClass RX1 = some m.cls := findClass_of_methodNamed B.named
  have hlocks := B.notSynchronized
  have hN := hE.1
  have hS : va_S (fun _ => False) s.heap s.heap [] := va_S.rf
  replace hP : va_P (dC, dI) vwCl [(a0, .inr (0, [.int a0_0, .ref a0_1, .int a0_2, .ref a0_3, .int a0_4, .ref a0_5, .ref a0_6, .ref a0_7, .int a0_8, .ref a0_9, .ref a0_10, .ref a0_11, .ref a0_12, .ref a0_13])), (a0_9, .inl (a0_9_c, 12, .inl a0_9_f))] s.heap := hP
  have hl := lv_entry ([.ref a0, .int a1]) (n := 4) (Nat.le_of_ble_eq_true rfl)
  rw [lg_entry_eq]
  generalize (lg_sl ([.ref a0, .int a1]) ++ List.replicate (4 - (lg_sl ([.ref a0, .int a1])).length) Slot.unset).toArray = ls at hl ⊢
  have hl : lv_has ls 4 [(0, .ref a0), (1, .int a1)] := hl
  have b_a1 := i32b a1
  refine lv_iconst (v := 0) hx hb dX1_holdingFor_0 (by decide) ?_
  refine lv_istore_n (lv' := [(2, .int 0), (0, .ref a0), (1, .int a1)]) hx hb dX1_holdingFor_1 rfl hl (by decide) rfl (fun ls hl => ?_)
  refine lv_iconst (v := 0) hx hb dX1_holdingFor_2 (by decide) ?_
  refine lv_istore_n (lv' := [(3, .int 0), (2, .int 0), (0, .ref a0), (1, .int a1)]) hx hb dX1_holdingFor_3 rfl hl (by decide) rfl (fun ls hl => ?_)
  have qc0 : (0 : Int32).toInt = 0 := by decide
  refine wloop (fun n H locs ls => ∃ (l4_3 : Int32) (l4_2 : Int32), n = (2147483647 - l4_3.toInt).toNat ∧ (0 ≤ l4_3.toInt) ∧ lv_has ls 4 [(3, .int l4_3), (2, .int l4_2), (0, .ref a0), (1, .int a1)] ∧ H = s.heap ∧ locs = []) ?_ ((2147483647 - (0 : Int32).toInt).toNat) _ _ _ ⟨0, 0, rfl, (by omega), lv_sub hl [0, 1, 2, 3] rfl, rfl, rfl⟩
  intro n4 H locs ls hI ih4
  obtain ⟨l4_3, l4_2, hn4, g_l4_3, hl, rfl, rfl⟩ := hI
  have b_l4_3 := i32b l4_3
  have b_l4_2 := i32b l4_2
  refine lv_iload_n hx hb dX1_holdingFor_4 rfl (lv_at hl 0 rfl) ?_
  refine lv_aload_n hx hb dX1_holdingFor_5 rfl (lv_at hl 2 rfl) ?_
  refine va_get (D := (dC, dI)) (ci := 0) (v := .int a0_8) (C := RX1) (T := TX1) (N := 14) hx hb hts inlX1 hown hK hP 0 rgL2_5ac5f51 rfl 8 (by decide) (hts (.fieldLink RX1 55 "ClosedUntil$Holdings" "closures" "I") qw_25) (fun _ h9 => h9) rfl dX1_holdingFor_6 ?_
  refine lv_icmp_ge (tgt := 37) hx hb dX1_holdingFor_9 (by decide) (fun c9_1 => ?_) (fun c9_1 => ?_)
  · have c9_1 : a0_8.toInt ≤ l4_3.toInt := (cv_le rfl rfl).mp c9_1
    refine lv_iload_n hx hb dX1_holdingFor_37 rfl (lv_at hl 1 rfl) ?_
    exact W.iret (v := l4_2) hx hb hr (fun t ht hW => ⟨l4_2, rfl, trivial, ht⟩) (fun _ h => absurd h List.not_mem_nil) dX1_holdingFor_38
  · have c9_1 : ¬ (a0_8.toInt ≤ l4_3.toInt) := mt (cv_le rfl rfl).mpr c9_1
    refine lv_iload_n hx hb dX1_holdingFor_12 rfl (lv_at hl 3 rfl) ?_
    refine lv_aload_n hx hb dX1_holdingFor_13 rfl (lv_at hl 2 rfl) ?_
    refine va_get (D := (dC, dI)) (ci := 0) (v := .ref a0_9) (C := RX1) (T := TX1) (N := 14) hx hb hts inlX1 hown hK hP 0 rgL2_5ac5f51 rfl 9 (by decide) (hts (.fieldLink RX1 27 "ClosedUntil$Holdings" "sort" "[I") qw_31) (fun _ h9 => h9) rfl dX1_holdingFor_14 ?_
    refine lv_iload_n hx hb dX1_holdingFor_17 rfl (lv_at hl 0 rfl) ?_
    refine va_iald hx hb hK hP 1 0 rgL2_906ef0f rgT1_bb00d73 (vinI (by omega) (by omega)) dX1_holdingFor_18 ?_
    refine lv_topi (fun x2 e_x2 => ?_)
    have b_x2 := i32b x2
    have hPc := (rgP2_6c9046d hP)
    have hKc := (rgK1_f3b3254 hK)
    refine vp_callSi ((va_runSN (As := [.int a1, .int x2]) (rest := []) ⟨hx, hb, hml, hown, hts⟩ (k_X8_hasBit l dC dI g (a1) (x2) ) ⟨va_cnB 2 hts (gwC qw_27) rfl rfl rfl (nm_28 hN) (hts (.initialized RX8) qw_28) (by decide +kernel) ⟨Nat.le_of_ble_eq_true rfl, Nat.le_of_ble_eq_true rfl⟩, (hts (.static yX8_hasBit) qw_29), trivial⟩ ⟨fun a U g9 mk q => ⟨q.1, q.2.1, va_K.moved (u := U) (U := U.calling g9 mk a) (Vm.Alike.refl U.vm) q.2.2.1, Ev.bl q.2.2.2⟩, fun U hU hW => ⟨rfl, atB hU hPc, va_K.moved hW.alike hKc, hE.go hS (fun _ h => h.elim) hU hW⟩⟩ rfl rfl hl.1 rfl (lv_room (Nat.le_of_ble_eq_true rfl)) dX1_holdingFor_19 ⟨Nat.le_of_ble_eq_true rfl, Nat.le_of_ble_eq_true rfl⟩)).run (fun r3 h_r3 => ?_)
    have h_r3 : (r3 = 0 ∨ r3 = 1) := h_r3
    have b_r3 := z01 (show r3 = 0 ∨ r3 = 1 from h_r3)
    refine lv_if_ne (tgt := 31) hx hb dX1_holdingFor_22 (by decide) (fun c22_4 => ?_) (fun c22_4 => ?_)
    · have c22_4 : ¬ (r3.toInt = 0) := mt (cv_eq rfl (by decide)).mpr c22_4
      obtain ⟨x5, e_x5⟩ : ∃ y : Int32, y = l4_3 + 1 := ⟨_, rfl⟩
      refine lv_iinc (v := x5) (lv' := [(3, .int x5), (2, .int l4_2), (0, .ref a0), (1, .int a1)]) hx hb dX1_holdingFor_31 hl (k := 0) rfl (by rw [e_x5]; rfl) (by decide) rfl (fun ls hl => ?_)
      try have e_x5 := ti_add e_x5 rfl (show (1 : Int32).toInt = 1 by decide) (by omega)
      refine lv_goto (tgt := 4) hx hb dX1_holdingFor_34 (by decide) ?_
      exact ih4 ((2147483647 - x5.toInt).toNat) _ _ _ (by omega) ⟨x5, l4_2, rfl, (by omega), lv_sub hl [0, 1, 2, 3] rfl, rfl, rfl⟩
    · have c22_4 : r3.toInt = 0 := (cv_eq rfl (by decide)).mp c22_4
      refine lv_iload_n hx hb dX1_holdingFor_25 rfl (lv_at hl 1 rfl) ?_
      refine lv_iconst (v := 1) hx hb dX1_holdingFor_26 (by decide) ?_
      refine lv_iload_n hx hb dX1_holdingFor_27 rfl (lv_at hl 0 rfl) ?_
      refine lv_ishl hx hb dX1_holdingFor_28 ?_
      refine lv_topi (fun x6 e_x6 => ?_)
      refine lv_ior hx hb dX1_holdingFor_29 ?_
      refine lv_topi (fun x7 e_x7 => ?_)
      refine lv_istore_n (lv' := [(2, .int x7), (3, .int l4_3), (0, .ref a0), (1, .int a1)]) hx hb dX1_holdingFor_30 rfl hl (by decide) rfl (fun ls hl => ?_)
      obtain ⟨x8, e_x8⟩ : ∃ y : Int32, y = l4_3 + 1 := ⟨_, rfl⟩
      refine lv_iinc (v := x8) (lv' := [(3, .int x8), (2, .int x7), (0, .ref a0), (1, .int a1)]) hx hb dX1_holdingFor_31 hl (k := 1) rfl (by rw [e_x8]; rfl) (by decide) rfl (fun ls hl => ?_)
      try have e_x8 := ti_add e_x8 rfl (show (1 : Int32).toInt = 1 by decide) (by omega)
      refine lv_goto (tgt := 4) hx hb dX1_holdingFor_34 (by decide) ?_
      exact ih4 ((2147483647 - x8.toInt).toNat) _ _ _ (by omega) ⟨x8, x7, rfl, (by omega), lv_sub hl [0, 1, 2, 3] rfl, rfl, rfl⟩
set_option maxHeartbeats 4000000 in
set_option maxRecDepth 100000 in
theorem k_X2_forgetAll (l : Launch) (dC : Nat → ClassId) (dI : Nat → Nat → Nat) (g : Gv) (sz : Nat) (a0 : Nat) (a0_0 : Nat) (a0_1 : Nat) (a0_2 : Nat) (a0_3 : Int32) (h_a0_3 : 0 ≤ a0_3.toInt ∧ a0_3.toInt ≤ 12) : Met l yX2_forgetAll (.code yX2_forgetAll cX2_forgetAll 1 none :: TBL) ({ frames := 0, cells := 0, slots := 0, locals := 0 }) (va_Pc [.ref a0] (fun U => U.heap.size = sz ∧ va_P (dC, dI) vwCl [(a0, .inr (1, [.ref a0_0, .ref a0_1, .ref a0_2, .int a0_3]))] U.heap ∧ va_K (dC, dI) vwCl [] U ∧ va_D (fun _ => True) [(a0, .inr (1, [.ref a0_0, .ref a0_1, .ref a0_2, .int a0_3]))] ∧ Ev g (va_A [(a0, .inr (1, [.ref a0_0, .ref a0_1, .ref a0_2, .int a0_3]))] sz) U)) (va_Qv (fun (_ : Unit) => True) (fun (_ : Unit) (t : State) => ∃ (za0_3 : Int32), (0 ≤ za0_3.toInt ∧ za0_3.toInt ≤ 12) ∧ (za0_3.toInt = 0) ∧ va_P (dC, dI) vwCl [(a0, .inr (1, [.ref a0_0, .ref a0_1, .ref a0_2, .int za0_3]))] t.heap ∧ va_K (dC, dI) vwCl [] t ∧ va_D (va_A [(a0, .inr (1, [.ref a0_0, .ref a0_1, .ref a0_2, .int a0_3]))] sz) [(a0, .inr (1, [.ref a0_0, .ref a0_1, .ref a0_2, .int za0_3]))]) (va_A [(a0, .inr (1, [.ref a0_0, .ref a0_1, .ref a0_2, .int a0_3]))] sz)) 0 0 (va_A [(a0, .inr (1, [.ref a0_0, .ref a0_1, .ref a0_2, .int a0_3]))] sz) := by
  refine Met.ofW (cc := cX2_forgetAll) (maxL := 1) (ret := none) (by decide) rfl ?_
  intro p e s m args below meth c s₁ B hml hv
  obtain ⟨rfl, hsz, hP, hK, hD0, hE⟩ := hv
  have hx := B.exec
  have hb := B.bytes
  have hr := B.returns
  have hts0 := atoms_spec (ws := (.code yX2_forgetAll cX2_forgetAll 1 none :: TBL)) B.pre
  have hts := fun (w : Cond) (h : w ∈ TBL) => hts0 w (List.mem_cons_of_mem _ h)
  have hown : s.vm.findClass RX2 = some m.cls := findClass_of_methodNamed B.named
  have hlocks := B.notSynchronized
  have hN := hE.1
  subst hsz
  have hD := hD0.self (sz := s.heap.size)
  generalize hAe : va_A [(a0, .inr (1, [.ref a0_0, .ref a0_1, .ref a0_2, .int a0_3]))] s.heap.size = A at hD hE ⊢
  have hA : ∀ q : Nat, s.heap.size ≤ q → A q := fun q h => by rw [← hAe]; exact Or.inr h
  have hS : va_S A s.heap s.heap [] := va_S.rf
  replace hP : va_P (dC, dI) vwCl [(a0, .inr (1, [.ref a0_0, .ref a0_1, .ref a0_2, .int a0_3]))] s.heap := hP
  have hl := lv_entry ([.ref a0]) (n := 1) (Nat.le_of_ble_eq_true rfl)
  rw [lg_entry_eq]
  generalize (lg_sl ([.ref a0]) ++ List.replicate (1 - (lg_sl ([.ref a0])).length) Slot.unset).toArray = ls at hl ⊢
  have hl : lv_has ls 1 [(0, .ref a0)] := hl
  refine lv_aload_n hx hb dX2_forgetAll_0 rfl (lv_at hl 0 rfl) ?_
  refine lv_iconst (v := 0) hx hb dX2_forgetAll_1 (by decide) ?_
  refine va_put (D := (dC, dI)) (ci := 1) (v := .int 0) (ty := .int) (C := RX2) (T := TX2) (N := 4) hx hb hts inlX2 tyX2 tyX2_ok nmX2 hown hK hP hD hS 0 rgL1_f9e15c6 rfl 3 (by decide) (hts (.fieldLink RX2 21 "ClosedUntil$Journal" "size" "I") qw_33) (fun _ h9 => h9) rfl (by decide +kernel) rfl rfl (Nat.le_of_ble_eq_true rfl) dX2_forgetAll_2 (fun H locs hP9 hD9 hS9 => ?_)
  clear hP hD hS
  obtain ⟨hP, hD⟩ := rgS1_4a8b427 (e := (a0, .inr (1, [.ref a0_0, .ref a0_1, .ref a0_2, .int 0]))) hP9 hD9 rfl
  have hS := hS9; clear hP9 hD9 hS9
  have qc0 : (0 : Int32).toInt = 0 := by decide
  refine W.widen (k := 0) (n := 0) (Nat.le_of_ble_eq_true rfl) (Nat.le_of_ble_eq_true rfl) ?_
  have hP9 := hP
  have hD9 := hD
  have hK9 := hK
  have hf9_0 : (0 ≤ (0 : Int32).toInt ∧ (0 : Int32).toInt ≤ 12) := by omega
  have hf9_1 : ((0 : Int32).toInt = 0) := by omega
  exact W.vret hx hb hr (fun t ht hW => ⟨⟨(), rfl, trivial, 0, hf9_0, hf9_1, atB ht hP9, va_K.moved hW.alike hK9, hD9⟩, hS.F ht⟩) hS.2.2 dX2_forgetAll_5
set_option maxHeartbeats 4000000 in
set_option maxRecDepth 100000 in
theorem k_X2_forgetOldest (l : Launch) (dC : Nat → ClassId) (dI : Nat → Nat → Nat) (g : Gv) (sz : Nat) (a0 : Nat) (a0_0 : Nat) (a0_1 : Nat) (a0_2 : Nat) (a0_3 : Int32) (a0_0_c : ClassId) (a0_0_f : Nat → Int32) (a0_1_c : ClassId) (a0_1_f : Nat → Int32) (a0_2_c : ClassId) (a0_2_f : Nat → Int32) (h_a0_3 : 0 ≤ a0_3.toInt ∧ a0_3.toInt ≤ 12) (hsz1 : 1 ≤ a0_3.toInt) : Met l yX2_forgetOldest (.code yX2_forgetOldest cX2_forgetOldest 1 none :: TBL) ({ frames := 1, cells := 0, slots := 0, locals := 50 }) (va_Pc [.ref a0] (fun U => U.heap.size = sz ∧ va_P (dC, dI) vwCl [(a0, .inr (1, [.ref a0_0, .ref a0_1, .ref a0_2, .int a0_3])), (a0_0, .inl (a0_0_c, 12, .inl a0_0_f)), (a0_1, .inl (a0_1_c, 12, .inl a0_1_f)), (a0_2, .inl (a0_2_c, 12, .inl a0_2_f))] U.heap ∧ va_K (dC, dI) vwCl [(a0_0_c, .int), (a0_1_c, .int), (a0_2_c, .int)] U ∧ va_D (fun _ => True) [(a0, .inr (1, [.ref a0_0, .ref a0_1, .ref a0_2, .int a0_3])), (a0_0, .inl (a0_0_c, 12, .inl a0_0_f)), (a0_1, .inl (a0_1_c, 12, .inl a0_1_f)), (a0_2, .inl (a0_2_c, 12, .inl a0_2_f))] ∧ Ev g (va_A [(a0, .inr (1, [.ref a0_0, .ref a0_1, .ref a0_2, .int a0_3])), (a0_0, .inl (a0_0_c, 12, .inl a0_0_f)), (a0_1, .inl (a0_1_c, 12, .inl a0_1_f)), (a0_2, .inl (a0_2_c, 12, .inl a0_2_f))] sz) U)) (va_Qv (fun (_ : Unit) => True) (fun (_ : Unit) (t : State) => ∃ (za0_3 : Int32) (za0_0_f : Nat → Int32) (za0_1_f : Nat → Int32) (za0_2_f : Nat → Int32), (0 ≤ za0_3.toInt ∧ za0_3.toInt ≤ 12) ∧ (SH a0_0_f za0_0_f a0_3) ∧ (SH a0_1_f za0_1_f a0_3) ∧ (SH a0_2_f za0_2_f a0_3) ∧ (za0_3.toInt = a0_3.toInt - 1) ∧ va_P (dC, dI) vwCl [(a0, .inr (1, [.ref a0_0, .ref a0_1, .ref a0_2, .int za0_3])), (a0_0, .inl (a0_0_c, 12, .inl za0_0_f)), (a0_1, .inl (a0_1_c, 12, .inl za0_1_f)), (a0_2, .inl (a0_2_c, 12, .inl za0_2_f))] t.heap ∧ va_K (dC, dI) vwCl [] t ∧ va_D (va_A [(a0, .inr (1, [.ref a0_0, .ref a0_1, .ref a0_2, .int a0_3])), (a0_0, .inl (a0_0_c, 12, .inl a0_0_f)), (a0_1, .inl (a0_1_c, 12, .inl a0_1_f)), (a0_2, .inl (a0_2_c, 12, .inl a0_2_f))] sz) [(a0, .inr (1, [.ref a0_0, .ref a0_1, .ref a0_2, .int za0_3])), (a0_0, .inl (a0_0_c, 12, .inl za0_0_f)), (a0_1, .inl (a0_1_c, 12, .inl za0_1_f)), (a0_2, .inl (a0_2_c, 12, .inl za0_2_f))]) (va_A [(a0, .inr (1, [.ref a0_0, .ref a0_1, .ref a0_2, .int a0_3])), (a0_0, .inl (a0_0_c, 12, .inl a0_0_f)), (a0_1, .inl (a0_1_c, 12, .inl a0_1_f)), (a0_2, .inl (a0_2_c, 12, .inl a0_2_f))] sz)) 0 0 (va_A [(a0, .inr (1, [.ref a0_0, .ref a0_1, .ref a0_2, .int a0_3])), (a0_0, .inl (a0_0_c, 12, .inl a0_0_f)), (a0_1, .inl (a0_1_c, 12, .inl a0_1_f)), (a0_2, .inl (a0_2_c, 12, .inl a0_2_f))] sz) := by
  refine Met.ofW (cc := cX2_forgetOldest) (maxL := 1) (ret := none) (by decide) rfl ?_
  intro p e s m args below meth c s₁ B hml hv
  obtain ⟨rfl, hsz, hP, hK, hD0, hE⟩ := hv
  have hx := B.exec
  have hb := B.bytes
  have hr := B.returns
  have hts0 := atoms_spec (ws := (.code yX2_forgetOldest cX2_forgetOldest 1 none :: TBL)) B.pre
  have hts := fun (w : Cond) (h : w ∈ TBL) => hts0 w (List.mem_cons_of_mem _ h)
  have hown : s.vm.findClass RX2 = some m.cls := findClass_of_methodNamed B.named
  have hlocks := B.notSynchronized
  have hN := hE.1
  subst hsz
  have hD := hD0.self (sz := s.heap.size)
  generalize hAe : va_A [(a0, .inr (1, [.ref a0_0, .ref a0_1, .ref a0_2, .int a0_3])), (a0_0, .inl (a0_0_c, 12, .inl a0_0_f)), (a0_1, .inl (a0_1_c, 12, .inl a0_1_f)), (a0_2, .inl (a0_2_c, 12, .inl a0_2_f))] s.heap.size = A at hD hE ⊢
  have hA : ∀ q : Nat, s.heap.size ≤ q → A q := fun q h => by rw [← hAe]; exact Or.inr h
  have hS : va_S A s.heap s.heap [] := va_S.rf
  replace hP : va_P (dC, dI) vwCl [(a0, .inr (1, [.ref a0_0, .ref a0_1, .ref a0_2, .int a0_3])), (a0_0, .inl (a0_0_c, 12, .inl a0_0_f)), (a0_1, .inl (a0_1_c, 12, .inl a0_1_f)), (a0_2, .inl (a0_2_c, 12, .inl a0_2_f))] s.heap := hP
  have hl := lv_entry ([.ref a0]) (n := 1) (Nat.le_of_ble_eq_true rfl)
  rw [lg_entry_eq]
  generalize (lg_sl ([.ref a0]) ++ List.replicate (1 - (lg_sl ([.ref a0])).length) Slot.unset).toArray = ls at hl ⊢
  have hl : lv_has ls 1 [(0, .ref a0)] := hl
  refine lv_aload_n hx hb dX2_forgetOldest_0 rfl (lv_at hl 0 rfl) ?_
  refine lv_dup hx hb dX2_forgetOldest_1 rfl ?_
  refine va_get (D := (dC, dI)) (ci := 1) (v := .int a0_3) (C := RX2) (T := TX2) (N := 4) hx hb hts inlX2 hown hK hP 0 rgL4_25bb07f rfl 3 (by decide) (hts (.fieldLink RX2 21 "ClosedUntil$Journal" "size" "I") qw_33) (fun _ h9 => h9) rfl dX2_forgetOldest_2 ?_
  refine lv_iconst (v := 1) hx hb dX2_forgetOldest_5 (by decide) ?_
  refine lv_isub hx hb dX2_forgetOldest_6 ?_
  refine lv_topi (fun x1 e_x1 => ?_)
  try have e_x1 := ti_sub e_x1 rfl (show (1 : Int32).toInt = 1 by decide) (by omega)
  refine va_put (D := (dC, dI)) (ci := 1) (v := .int x1) (ty := .int) (C := RX2) (T := TX2) (N := 4) hx hb hts inlX2 tyX2 tyX2_ok nmX2 hown hK hP hD hS 0 rgL4_25bb07f rfl 3 (by decide) (hts (.fieldLink RX2 21 "ClosedUntil$Journal" "size" "I") qw_33) (fun _ h9 => h9) rfl (by decide +kernel) rfl rfl (Nat.le_of_ble_eq_true rfl) dX2_forgetOldest_7 (fun H locs hP9 hD9 hS9 => ?_)
  clear hP hD hS
  obtain ⟨hP, hD⟩ := rgS4_3ebc7b6 (e := (a0, .inr (1, [.ref a0_0, .ref a0_1, .ref a0_2, .int x1]))) hP9 hD9 rfl
  have hS := hS9; clear hP9 hD9 hS9
  refine lv_aload_n hx hb dX2_forgetOldest_10 rfl (lv_at hl 0 rfl) ?_
  refine va_get (D := (dC, dI)) (ci := 1) (v := .ref a0_0) (C := RX2) (T := TX2) (N := 4) hx hb hts inlX2 hown hK hP 0 rgL4_25bb07f rfl 0 (by decide) (hts (.fieldLink RX2 9 "ClosedUntil$Journal" "acts" "[I") qw_34) (fun _ h9 => h9) rfl dX2_forgetOldest_11 ?_
  refine lv_iconst (v := 1) hx hb dX2_forgetOldest_14 (by decide) ?_
  refine lv_aload_n hx hb dX2_forgetOldest_15 rfl (lv_at hl 0 rfl) ?_
  refine va_get (D := (dC, dI)) (ci := 1) (v := .ref a0_0) (C := RX2) (T := TX2) (N := 4) hx hb hts inlX2 hown hK hP 0 rgL4_25bb07f rfl 0 (by decide) (hts (.fieldLink RX2 9 "ClosedUntil$Journal" "acts" "[I") qw_34) (fun _ h9 => h9) rfl dX2_forgetOldest_16 ?_
  refine lv_iconst (v := 0) hx hb dX2_forgetOldest_19 (by decide) ?_
  refine lv_aload_n hx hb dX2_forgetOldest_20 rfl (lv_at hl 0 rfl) ?_
  refine va_get (D := (dC, dI)) (ci := 1) (v := .int x1) (C := RX2) (T := TX2) (N := 4) hx hb hts inlX2 hown hK hP 0 rgL4_25bb07f rfl 3 (by decide) (hts (.fieldLink RX2 21 "ClosedUntil$Journal" "size" "I") qw_33) (fun _ h9 => h9) rfl dX2_forgetOldest_21 ?_
  refine va_copyi hx hb (by rw [hml]; exact hl.1.symm) hown (hts (.methodLink RX2 28 arraycopyName) qw_37) (hts (.native arraycopyName) qw_38) (hts (.static arraycopyName) qw_39) (hts (.initialized "java/lang/System") qw_40) hK hP hD hS 1 1 0 0 rgL4_60d974a rgL4_60d974a rfl rfl rfl (by decide) (by decide) (ngI (by omega)) (cpB (show (1 : Int32).toInt = 1 by decide) rfl (by omega) (by omega) (by omega)) (cpB (show (0 : Int32).toInt = 0 by decide) rfl (by omega) (by omega) (by omega)) (fun _ _ => rfl) (Nat.le_of_ble_eq_true rfl) (Nat.le_of_ble_eq_true rfl) dX2_forgetOldest_24 (fun H locs hP9 hD9 hS9 => ?_)
  obtain ⟨y2, e_y2⟩ : ∃ y, (va_cpy a0_0_f a0_0_f (1 : Int32).toNatClampNeg (0 : Int32).toNatClampNeg x1.toNatClampNeg) = y := ⟨_, rfl⟩
  clear hP hD hS
  obtain ⟨hP, hD⟩ := rgS4_7eaf579 (e := (a0_0, .inl (a0_0_c, 12, .inl y2))) hP9 hD9 (congrArg (fun z9 => (((a0_0, .inl (a0_0_c, 12, .inl z9)) : Nat × va_E))) e_y2)
  have hS := hS9; clear hP9 hD9 hS9
  refine lv_aload_n hx hb dX2_forgetOldest_27 rfl (lv_at hl 0 rfl) ?_
  refine va_get (D := (dC, dI)) (ci := 1) (v := .ref a0_1) (C := RX2) (T := TX2) (N := 4) hx hb hts inlX2 hown hK hP 0 rgL4_25bb07f rfl 1 (by decide) (hts (.fieldLink RX2 15 "ClosedUntil$Journal" "whose" "[I") qw_35) (fun _ h9 => h9) rfl dX2_forgetOldest_28 ?_
  refine lv_iconst (v := 1) hx hb dX2_forgetOldest_31 (by decide) ?_
  refine lv_aload_n hx hb dX2_forgetOldest_32 rfl (lv_at hl 0 rfl) ?_
  refine va_get (D := (dC, dI)) (ci := 1) (v := .ref a0_1) (C := RX2) (T := TX2) (N := 4) hx hb hts inlX2 hown hK hP 0 rgL4_25bb07f rfl 1 (by decide) (hts (.fieldLink RX2 15 "ClosedUntil$Journal" "whose" "[I") qw_35) (fun _ h9 => h9) rfl dX2_forgetOldest_33 ?_
  refine lv_iconst (v := 0) hx hb dX2_forgetOldest_36 (by decide) ?_
  refine lv_aload_n hx hb dX2_forgetOldest_37 rfl (lv_at hl 0 rfl) ?_
  refine va_get (D := (dC, dI)) (ci := 1) (v := .int x1) (C := RX2) (T := TX2) (N := 4) hx hb hts inlX2 hown hK hP 0 rgL4_25bb07f rfl 3 (by decide) (hts (.fieldLink RX2 21 "ClosedUntil$Journal" "size" "I") qw_33) (fun _ h9 => h9) rfl dX2_forgetOldest_38 ?_
  refine va_copyi hx hb (by rw [hml]; exact hl.1.symm) hown (hts (.methodLink RX2 28 arraycopyName) qw_37) (hts (.native arraycopyName) qw_38) (hts (.static arraycopyName) qw_39) (hts (.initialized "java/lang/System") qw_40) hK hP hD hS 2 2 1 1 rgL4_682b397 rgL4_682b397 rfl rfl rfl (by decide) (by decide) (ngI (by omega)) (cpB (show (1 : Int32).toInt = 1 by decide) rfl (by omega) (by omega) (by omega)) (cpB (show (0 : Int32).toInt = 0 by decide) rfl (by omega) (by omega) (by omega)) (fun _ _ => rfl) (Nat.le_of_ble_eq_true rfl) (Nat.le_of_ble_eq_true rfl) dX2_forgetOldest_41 (fun H locs hP9 hD9 hS9 => ?_)
  obtain ⟨y3, e_y3⟩ : ∃ y, (va_cpy a0_1_f a0_1_f (1 : Int32).toNatClampNeg (0 : Int32).toNatClampNeg x1.toNatClampNeg) = y := ⟨_, rfl⟩
  clear hP hD hS
  obtain ⟨hP, hD⟩ := rgS4_558cc52 (e := (a0_1, .inl (a0_1_c, 12, .inl y3))) hP9 hD9 (congrArg (fun z9 => (((a0_1, .inl (a0_1_c, 12, .inl z9)) : Nat × va_E))) e_y3)
  have hS := hS9; clear hP9 hD9 hS9
  refine lv_aload_n hx hb dX2_forgetOldest_44 rfl (lv_at hl 0 rfl) ?_
  refine va_get (D := (dC, dI)) (ci := 1) (v := .ref a0_2) (C := RX2) (T := TX2) (N := 4) hx hb hts inlX2 hown hK hP 0 rgL4_25bb07f rfl 2 (by decide) (hts (.fieldLink RX2 18 "ClosedUntil$Journal" "before" "[I") qw_36) (fun _ h9 => h9) rfl dX2_forgetOldest_45 ?_
  refine lv_iconst (v := 1) hx hb dX2_forgetOldest_48 (by decide) ?_
  refine lv_aload_n hx hb dX2_forgetOldest_49 rfl (lv_at hl 0 rfl) ?_
  refine va_get (D := (dC, dI)) (ci := 1) (v := .ref a0_2) (C := RX2) (T := TX2) (N := 4) hx hb hts inlX2 hown hK hP 0 rgL4_25bb07f rfl 2 (by decide) (hts (.fieldLink RX2 18 "ClosedUntil$Journal" "before" "[I") qw_36) (fun _ h9 => h9) rfl dX2_forgetOldest_50 ?_
  refine lv_iconst (v := 0) hx hb dX2_forgetOldest_53 (by decide) ?_
  refine lv_aload_n hx hb dX2_forgetOldest_54 rfl (lv_at hl 0 rfl) ?_
  refine va_get (D := (dC, dI)) (ci := 1) (v := .int x1) (C := RX2) (T := TX2) (N := 4) hx hb hts inlX2 hown hK hP 0 rgL4_25bb07f rfl 3 (by decide) (hts (.fieldLink RX2 21 "ClosedUntil$Journal" "size" "I") qw_33) (fun _ h9 => h9) rfl dX2_forgetOldest_55 ?_
  refine va_copyi hx hb (by rw [hml]; exact hl.1.symm) hown (hts (.methodLink RX2 28 arraycopyName) qw_37) (hts (.native arraycopyName) qw_38) (hts (.static arraycopyName) qw_39) (hts (.initialized "java/lang/System") qw_40) hK hP hD hS 3 3 2 2 rgL4_582d62e rgL4_582d62e rfl rfl rfl (by decide) (by decide) (ngI (by omega)) (cpB (show (1 : Int32).toInt = 1 by decide) rfl (by omega) (by omega) (by omega)) (cpB (show (0 : Int32).toInt = 0 by decide) rfl (by omega) (by omega) (by omega)) (fun _ _ => rfl) (Nat.le_of_ble_eq_true rfl) (Nat.le_of_ble_eq_true rfl) dX2_forgetOldest_58 (fun H locs hP9 hD9 hS9 => ?_)
  obtain ⟨y4, e_y4⟩ : ∃ y, (va_cpy a0_2_f a0_2_f (1 : Int32).toNatClampNeg (0 : Int32).toNatClampNeg x1.toNatClampNeg) = y := ⟨_, rfl⟩
  clear hP hD hS
  obtain ⟨hP, hD⟩ := rgS4_c467359 (e := (a0_2, .inl (a0_2_c, 12, .inl y4))) hP9 hD9 (congrArg (fun z9 => (((a0_2, .inl (a0_2_c, 12, .inl z9)) : Nat × va_E))) e_y4)
  have hS := hS9; clear hP9 hD9 hS9
  refine W.widen (k := 0) (n := 0) (Nat.le_of_ble_eq_true rfl) (Nat.le_of_ble_eq_true rfl) ?_
  have hP9 := hP
  have hD9 := hD
  have hK9 := (rgK3_e7c053f hK)
  have hf9_0 : (0 ≤ x1.toInt ∧ x1.toInt ≤ 12) := by omega
  have hf9_1 : (SH a0_0_f y2 a0_3) := SH.of e_y2 (by omega)
  have hf9_2 : (SH a0_1_f y3 a0_3) := SH.of e_y3 (by omega)
  have hf9_3 : (SH a0_2_f y4 a0_3) := SH.of e_y4 (by omega)
  have hf9_4 : (x1.toInt = a0_3.toInt - 1) := by omega
  exact W.vret hx hb hr (fun t ht hW => ⟨⟨(), rfl, trivial, x1, y2, y3, y4, hf9_0, hf9_1, hf9_2, hf9_3, hf9_4, atB ht hP9, va_K.moved hW.alike hK9, hD9⟩, hS.F ht⟩) hS.2.2 dX2_forgetOldest_61
set_option maxHeartbeats 4000000 in
set_option maxRecDepth 100000 in
theorem k_X2_add (l : Launch) (dC : Nat → ClassId) (dI : Nat → Nat → Nat) (g : Gv) (sz : Nat) (a0 : Nat) (a1 : Int32) (a2 : Int32) (a3 : Int32) (a0_0 : Nat) (a0_1 : Nat) (a0_2 : Nat) (a0_3 : Int32) (a0_0_c : ClassId) (a0_0_f : Nat → Int32) (a0_1_c : ClassId) (a0_1_f : Nat → Int32) (a0_2_c : ClassId) (a0_2_f : Nat → Int32) (h_a0_3 : 0 ≤ a0_3.toInt ∧ a0_3.toInt ≤ 12) (hja : JA a0_0_f a0_1_f a0_2_f a0_3) (hje : JE a1 a2 a3) : Met l yX2_add (.code yX2_add cX2_add 4 none :: TBL) ({ frames := 2, cells := 0, slots := 0, locals := 70 }) (va_Pc [.ref a0, .int a1, .int a2, .int a3] (fun U => U.heap.size = sz ∧ va_P (dC, dI) vwCl [(a0, .inr (1, [.ref a0_0, .ref a0_1, .ref a0_2, .int a0_3])), (a0_0, .inl (a0_0_c, 12, .inl a0_0_f)), (a0_1, .inl (a0_1_c, 12, .inl a0_1_f)), (a0_2, .inl (a0_2_c, 12, .inl a0_2_f))] U.heap ∧ va_K (dC, dI) vwCl [(a0_0_c, .int), (a0_1_c, .int), (a0_2_c, .int)] U ∧ va_D (fun _ => True) [(a0, .inr (1, [.ref a0_0, .ref a0_1, .ref a0_2, .int a0_3])), (a0_0, .inl (a0_0_c, 12, .inl a0_0_f)), (a0_1, .inl (a0_1_c, 12, .inl a0_1_f)), (a0_2, .inl (a0_2_c, 12, .inl a0_2_f))] ∧ Ev g (va_A [(a0, .inr (1, [.ref a0_0, .ref a0_1, .ref a0_2, .int a0_3])), (a0_0, .inl (a0_0_c, 12, .inl a0_0_f)), (a0_1, .inl (a0_1_c, 12, .inl a0_1_f)), (a0_2, .inl (a0_2_c, 12, .inl a0_2_f))] sz) U)) (va_Qv (fun (_ : Unit) => True) (fun (_ : Unit) (t : State) => ∃ (za0_3 : Int32) (za0_0_f : Nat → Int32) (za0_1_f : Nat → Int32) (za0_2_f : Nat → Int32), (0 ≤ za0_3.toInt ∧ za0_3.toInt ≤ 12) ∧ (JA za0_0_f za0_1_f za0_2_f za0_3) ∧ (J1 a0_0_f a0_1_f za0_0_f za0_1_f a0_3 za0_3 a1 a2) ∧ va_P (dC, dI) vwCl [(a0, .inr (1, [.ref a0_0, .ref a0_1, .ref a0_2, .int za0_3])), (a0_0, .inl (a0_0_c, 12, .inl za0_0_f)), (a0_1, .inl (a0_1_c, 12, .inl za0_1_f)), (a0_2, .inl (a0_2_c, 12, .inl za0_2_f))] t.heap ∧ va_K (dC, dI) vwCl [] t ∧ va_D (va_A [(a0, .inr (1, [.ref a0_0, .ref a0_1, .ref a0_2, .int a0_3])), (a0_0, .inl (a0_0_c, 12, .inl a0_0_f)), (a0_1, .inl (a0_1_c, 12, .inl a0_1_f)), (a0_2, .inl (a0_2_c, 12, .inl a0_2_f))] sz) [(a0, .inr (1, [.ref a0_0, .ref a0_1, .ref a0_2, .int za0_3])), (a0_0, .inl (a0_0_c, 12, .inl za0_0_f)), (a0_1, .inl (a0_1_c, 12, .inl za0_1_f)), (a0_2, .inl (a0_2_c, 12, .inl za0_2_f))]) (va_A [(a0, .inr (1, [.ref a0_0, .ref a0_1, .ref a0_2, .int a0_3])), (a0_0, .inl (a0_0_c, 12, .inl a0_0_f)), (a0_1, .inl (a0_1_c, 12, .inl a0_1_f)), (a0_2, .inl (a0_2_c, 12, .inl a0_2_f))] sz)) 0 0 (va_A [(a0, .inr (1, [.ref a0_0, .ref a0_1, .ref a0_2, .int a0_3])), (a0_0, .inl (a0_0_c, 12, .inl a0_0_f)), (a0_1, .inl (a0_1_c, 12, .inl a0_1_f)), (a0_2, .inl (a0_2_c, 12, .inl a0_2_f))] sz) := by
  refine Met.ofW (cc := cX2_add) (maxL := 4) (ret := none) (by decide) rfl ?_
  intro p e s m args below meth c s₁ B hml hv
  obtain ⟨rfl, hsz, hP, hK, hD0, hE⟩ := hv
  have hx := B.exec
  have hb := B.bytes
  have hr := B.returns
  have hts0 := atoms_spec (ws := (.code yX2_add cX2_add 4 none :: TBL)) B.pre
  have hts := fun (w : Cond) (h : w ∈ TBL) => hts0 w (List.mem_cons_of_mem _ h)
  have hown : s.vm.findClass RX2 = some m.cls := findClass_of_methodNamed B.named
  have hlocks := B.notSynchronized
  have hN := hE.1
  subst hsz
  have hD := hD0.self (sz := s.heap.size)
  generalize hAe : va_A [(a0, .inr (1, [.ref a0_0, .ref a0_1, .ref a0_2, .int a0_3])), (a0_0, .inl (a0_0_c, 12, .inl a0_0_f)), (a0_1, .inl (a0_1_c, 12, .inl a0_1_f)), (a0_2, .inl (a0_2_c, 12, .inl a0_2_f))] s.heap.size = A at hD hE ⊢
  have hA : ∀ q : Nat, s.heap.size ≤ q → A q := fun q h => by rw [← hAe]; exact Or.inr h
  have hS : va_S A s.heap s.heap [] := va_S.rf
  replace hP : va_P (dC, dI) vwCl [(a0, .inr (1, [.ref a0_0, .ref a0_1, .ref a0_2, .int a0_3])), (a0_0, .inl (a0_0_c, 12, .inl a0_0_f)), (a0_1, .inl (a0_1_c, 12, .inl a0_1_f)), (a0_2, .inl (a0_2_c, 12, .inl a0_2_f))] s.heap := hP
  have hl := lv_entry ([.ref a0, .int a1, .int a2, .int a3]) (n := 4) (Nat.le_of_ble_eq_true rfl)
  rw [lg_entry_eq]
  generalize (lg_sl ([.ref a0, .int a1, .int a2, .int a3]) ++ List.replicate (4 - (lg_sl ([.ref a0, .int a1, .int a2, .int a3])).length) Slot.unset).toArray = ls at hl ⊢
  have hl : lv_has ls 4 [(0, .ref a0), (1, .int a1), (2, .int a2), (3, .int a3)] := hl
  have b_a1 := i32b a1
  have b_a2 := i32b a2
  have b_a3 := i32b a3
  refine lv_aload_n hx hb dX2_add_0 rfl (lv_at hl 0 rfl) ?_
  refine va_get (D := (dC, dI)) (ci := 1) (v := .int a0_3) (C := RX2) (T := TX2) (N := 4) hx hb hts inlX2 hown hK hP 0 rgL4_25bb07f rfl 3 (by decide) (hts (.fieldLink RX2 21 "ClosedUntil$Journal" "size" "I") qw_33) (fun _ h9 => h9) rfl dX2_add_1 ?_
  refine lv_bipush (v := 12) hx hb dX2_add_4 (by decide) ?_
  refine lv_icmp_ne (tgt := 13) hx hb dX2_add_6 (by decide) (fun c6_1 => ?_) (fun c6_1 => ?_)
  · have c6_1 : ¬ (a0_3.toInt = 12) := mt (cv_eq rfl (by decide)).mpr c6_1
    have hja2 := hja
    refine lv_aload_n hx hb dX2_add_13 rfl (lv_at hl 0 rfl) ?_
    refine va_get (D := (dC, dI)) (ci := 1) (v := .ref a0_0) (C := RX2) (T := TX2) (N := 4) hx hb hts inlX2 hown hK hP 0 rgL4_25bb07f rfl 0 (by decide) (hts (.fieldLink RX2 9 "ClosedUntil$Journal" "acts" "[I") qw_34) (fun _ h9 => h9) rfl dX2_add_14 ?_
    refine lv_aload_n hx hb dX2_add_17 rfl (lv_at hl 0 rfl) ?_
    refine va_get (D := (dC, dI)) (ci := 1) (v := .int a0_3) (C := RX2) (T := TX2) (N := 4) hx hb hts inlX2 hown hK hP 0 rgL4_25bb07f rfl 3 (by decide) (hts (.fieldLink RX2 21 "ClosedUntil$Journal" "size" "I") qw_33) (fun _ h9 => h9) rfl dX2_add_18 ?_
    refine lv_iload_n hx hb dX2_add_21 rfl (lv_at hl 1 rfl) ?_
    refine va_iast hx hb hK hP hD hS 1 0 rgL4_60d974a rgT3_b86a1dc (vinI (by omega) (by omega)) dX2_add_22 (fun H locs hP9 hD9 hS9 => ?_)
    obtain ⟨y2, e_y2⟩ : ∃ y, (upd a0_0_f a0_3.toNatClampNeg a1) = y := ⟨_, rfl⟩
    clear hP hD hS
    obtain ⟨hP, hD⟩ := rgS4_7eaf579 (e := (a0_0, .inl (a0_0_c, 12, .inl y2))) hP9 hD9 (congrArg (fun z9 => (((a0_0, .inl (a0_0_c, 12, .inl z9)) : Nat × va_E))) e_y2)
    have hS := hS9; clear hP9 hD9 hS9
    refine lv_aload_n hx hb dX2_add_23 rfl (lv_at hl 0 rfl) ?_
    refine va_get (D := (dC, dI)) (ci := 1) (v := .ref a0_1) (C := RX2) (T := TX2) (N := 4) hx hb hts inlX2 hown hK hP 0 rgL4_25bb07f rfl 1 (by decide) (hts (.fieldLink RX2 15 "ClosedUntil$Journal" "whose" "[I") qw_35) (fun _ h9 => h9) rfl dX2_add_24 ?_
    refine lv_aload_n hx hb dX2_add_27 rfl (lv_at hl 0 rfl) ?_
    refine va_get (D := (dC, dI)) (ci := 1) (v := .int a0_3) (C := RX2) (T := TX2) (N := 4) hx hb hts inlX2 hown hK hP 0 rgL4_25bb07f rfl 3 (by decide) (hts (.fieldLink RX2 21 "ClosedUntil$Journal" "size" "I") qw_33) (fun _ h9 => h9) rfl dX2_add_28 ?_
    refine lv_iload_n hx hb dX2_add_31 rfl (lv_at hl 2 rfl) ?_
    refine va_iast hx hb hK hP hD hS 2 1 rgL4_682b397 rgT3_9bdde83 (vinI (by omega) (by omega)) dX2_add_32 (fun H locs hP9 hD9 hS9 => ?_)
    obtain ⟨y3, e_y3⟩ : ∃ y, (upd a0_1_f a0_3.toNatClampNeg a2) = y := ⟨_, rfl⟩
    clear hP hD hS
    obtain ⟨hP, hD⟩ := rgS4_558cc52 (e := (a0_1, .inl (a0_1_c, 12, .inl y3))) hP9 hD9 (congrArg (fun z9 => (((a0_1, .inl (a0_1_c, 12, .inl z9)) : Nat × va_E))) e_y3)
    have hS := hS9; clear hP9 hD9 hS9
    refine lv_aload_n hx hb dX2_add_33 rfl (lv_at hl 0 rfl) ?_
    refine va_get (D := (dC, dI)) (ci := 1) (v := .ref a0_2) (C := RX2) (T := TX2) (N := 4) hx hb hts inlX2 hown hK hP 0 rgL4_25bb07f rfl 2 (by decide) (hts (.fieldLink RX2 18 "ClosedUntil$Journal" "before" "[I") qw_36) (fun _ h9 => h9) rfl dX2_add_34 ?_
    refine lv_aload_n hx hb dX2_add_37 rfl (lv_at hl 0 rfl) ?_
    refine va_get (D := (dC, dI)) (ci := 1) (v := .int a0_3) (C := RX2) (T := TX2) (N := 4) hx hb hts inlX2 hown hK hP 0 rgL4_25bb07f rfl 3 (by decide) (hts (.fieldLink RX2 21 "ClosedUntil$Journal" "size" "I") qw_33) (fun _ h9 => h9) rfl dX2_add_38 ?_
    refine lv_iload_n hx hb dX2_add_41 rfl (lv_at hl 3 rfl) ?_
    refine va_iast hx hb hK hP hD hS 3 2 rgL4_582d62e rgT3_173f9f1 (vinI (by omega) (by omega)) dX2_add_42 (fun H locs hP9 hD9 hS9 => ?_)
    obtain ⟨y4, e_y4⟩ : ∃ y, (upd a0_2_f a0_3.toNatClampNeg a3) = y := ⟨_, rfl⟩
    clear hP hD hS
    obtain ⟨hP, hD⟩ := rgS4_c467359 (e := (a0_2, .inl (a0_2_c, 12, .inl y4))) hP9 hD9 (congrArg (fun z9 => (((a0_2, .inl (a0_2_c, 12, .inl z9)) : Nat × va_E))) e_y4)
    have hS := hS9; clear hP9 hD9 hS9
    refine lv_aload_n hx hb dX2_add_43 rfl (lv_at hl 0 rfl) ?_
    refine lv_dup hx hb dX2_add_44 rfl ?_
    refine va_get (D := (dC, dI)) (ci := 1) (v := .int a0_3) (C := RX2) (T := TX2) (N := 4) hx hb hts inlX2 hown hK hP 0 rgL4_25bb07f rfl 3 (by decide) (hts (.fieldLink RX2 21 "ClosedUntil$Journal" "size" "I") qw_33) (fun _ h9 => h9) rfl dX2_add_45 ?_
    refine lv_iconst (v := 1) hx hb dX2_add_48 (by decide) ?_
    refine lv_iadd hx hb dX2_add_49 ?_
    refine lv_topi (fun x5 e_x5 => ?_)
    try have e_x5 := ti_add e_x5 rfl (show (1 : Int32).toInt = 1 by decide) (by omega)
    refine va_put (D := (dC, dI)) (ci := 1) (v := .int x5) (ty := .int) (C := RX2) (T := TX2) (N := 4) hx hb hts inlX2 tyX2 tyX2_ok nmX2 hown hK hP hD hS 0 rgL4_25bb07f rfl 3 (by decide) (hts (.fieldLink RX2 21 "ClosedUntil$Journal" "size" "I") qw_33) (fun _ h9 => h9) rfl (by decide +kernel) rfl rfl (Nat.le_of_ble_eq_true rfl) dX2_add_50 (fun H locs hP9 hD9 hS9 => ?_)
    clear hP hD hS
    obtain ⟨hP, hD⟩ := rgS4_3ebc7b6 (e := (a0, .inr (1, [.ref a0_0, .ref a0_1, .ref a0_2, .int x5]))) hP9 hD9 rfl
    have hS := hS9; clear hP9 hD9 hS9
    refine W.widen (k := 0) (n := 0) (Nat.le_of_ble_eq_true rfl) (Nat.le_of_ble_eq_true rfl) ?_
    have hP9 := hP
    have hD9 := hD
    have hK9 := (rgK3_e7c053f hK)
    have hf9_0 : (0 ≤ x5.toInt ∧ x5.toInt ≤ 12) := by omega
    have hf9_1 : (JA y2 y3 y4 x5) := JA.grow hja2 e_y2 e_y3 e_y4 rfl (by omega) (by omega) hje
    have hf9_2 : (J1 a0_0_f a0_1_f y2 y3 a0_3 x5 a1 a2) := J1.grow (n := a0_3) e_y2 e_y3 rfl (by omega) (by omega)
    exact W.vret hx hb hr (fun t ht hW => ⟨⟨(), rfl, trivial, x5, y2, y3, y4, hf9_0, hf9_1, hf9_2, atB ht hP9, va_K.moved hW.alike hK9, hD9⟩, hS.F ht⟩) hS.2.2 dX2_add_53
  · have c6_1 : a0_3.toInt = 12 := (cv_eq rfl (by decide)).mp c6_1
    refine lv_aload_n hx hb dX2_add_9 rfl (lv_at hl 0 rfl) ?_
    have hPc := hP
    have hKc := hK
    have hDc := hD
    have hFc := freeW hDc hS hA
    refine va_callv (va_runV (As := []) (rest := []) ⟨hx, hb, hml, hown, hts⟩ (k_X2_forgetOldest l dC dI g s.heap.size (a0) (a0_0) (a0_1) (a0_2) (a0_3) (a0_0_c) (a0_0_f) (a0_1_c) (a0_1_f) (a0_2_c) (a0_2_f) (by omega) (by omega)) (cwV 0 hts (gwV qw_43 qw_44 qw_45 qw_42 qw_41) rfl rfl rfl (by decide +kernel) ⟨Nat.le_of_ble_eq_true rfl, Nat.le_of_ble_eq_true rfl⟩) ⟨fun a U g9 mk q => ⟨q.1, q.2.1, q.2.2.1, va_K.moved (u := U) (U := U.calling g9 mk a) (Vm.Alike.refl U.vm) q.2.2.2.1, q.2.2.2.2.1, Ev.bl q.2.2.2.2.2⟩, va_recv hK hP (ci := 1) (q0 := 0) rfl rgL4_25bb07f, fun U hU hW => ⟨rfl, by rw [hU], atB hU hPc, va_K.moved hW.alike hKc, hDc.weaken (fun _ _ _ _ => trivial), hE.go hS hFc hU hW⟩⟩ rfl rfl hl.1 rfl (lv_room (Nat.le_of_ble_eq_true rfl)) dX2_add_10 ⟨Nat.le_of_ble_eq_true rfl, Nat.le_of_ble_eq_true rfl⟩) hS (fun q _ h => hFc q h) hFc (fun u6 t H1 locs ht hvm h_u6 hB hz1 hk1 hS => ?_)
    obtain ⟨za0_3_8, za0_0_f_9, za0_1_f_10, za0_2_f_11, hF12, hF13, hF14, hF15, hF16, hP1, hK1, hD1⟩ := hB
    have hK1 := va_K.moved hvm.symm hK1
    have hJ9 := rgJ4_df87ba1 hP hD hk1 hFc (atH ht hP1) hD1
    clear hP hD hPc hKc hDc hFc hP1 hD1 hk1 hz1
    obtain ⟨hP, hD⟩ := hJ9
    clear hK1
    generalize H1 = H at hP hS ⊢
    refine W.widen (k := 0) (n := 0) (Nat.le_of_ble_eq_true rfl) (Nat.le_of_ble_eq_true rfl) ?_
    have hja2 := JA.shift hja hF13 hF14 hF15 hF16
    have hsh1 := hF13
    have hsh2 := hF14
    have hsh4 := hF16
    refine lv_aload_n hx hb dX2_add_13 rfl (lv_at hl 0 rfl) ?_
    refine va_get (D := (dC, dI)) (ci := 1) (v := .ref a0_0) (C := RX2) (T := TX2) (N := 4) hx hb hts inlX2 hown hK hP 0 rgL4_25bb07f rfl 0 (by decide) (hts (.fieldLink RX2 9 "ClosedUntil$Journal" "acts" "[I") qw_34) (fun _ h9 => h9) rfl dX2_add_14 ?_
    refine lv_aload_n hx hb dX2_add_17 rfl (lv_at hl 0 rfl) ?_
    refine va_get (D := (dC, dI)) (ci := 1) (v := .int za0_3_8) (C := RX2) (T := TX2) (N := 4) hx hb hts inlX2 hown hK hP 0 rgL4_25bb07f rfl 3 (by decide) (hts (.fieldLink RX2 21 "ClosedUntil$Journal" "size" "I") qw_33) (fun _ h9 => h9) rfl dX2_add_18 ?_
    refine lv_iload_n hx hb dX2_add_21 rfl (lv_at hl 1 rfl) ?_
    refine va_iast hx hb hK hP hD hS 1 0 rgL4_60d974a rgT3_b86a1dc (vinI (by omega) (by omega)) dX2_add_22 (fun H locs hP9 hD9 hS9 => ?_)
    obtain ⟨y17, e_y17⟩ : ∃ y, (upd za0_0_f_9 za0_3_8.toNatClampNeg a1) = y := ⟨_, rfl⟩
    clear hP hD hS
    obtain ⟨hP, hD⟩ := rgS4_7eaf579 (e := (a0_0, .inl (a0_0_c, 12, .inl y17))) hP9 hD9 (congrArg (fun z9 => (((a0_0, .inl (a0_0_c, 12, .inl z9)) : Nat × va_E))) e_y17)
    have hS := hS9; clear hP9 hD9 hS9
    refine lv_aload_n hx hb dX2_add_23 rfl (lv_at hl 0 rfl) ?_
    refine va_get (D := (dC, dI)) (ci := 1) (v := .ref a0_1) (C := RX2) (T := TX2) (N := 4) hx hb hts inlX2 hown hK hP 0 rgL4_25bb07f rfl 1 (by decide) (hts (.fieldLink RX2 15 "ClosedUntil$Journal" "whose" "[I") qw_35) (fun _ h9 => h9) rfl dX2_add_24 ?_
    refine lv_aload_n hx hb dX2_add_27 rfl (lv_at hl 0 rfl) ?_
    refine va_get (D := (dC, dI)) (ci := 1) (v := .int za0_3_8) (C := RX2) (T := TX2) (N := 4) hx hb hts inlX2 hown hK hP 0 rgL4_25bb07f rfl 3 (by decide) (hts (.fieldLink RX2 21 "ClosedUntil$Journal" "size" "I") qw_33) (fun _ h9 => h9) rfl dX2_add_28 ?_
    refine lv_iload_n hx hb dX2_add_31 rfl (lv_at hl 2 rfl) ?_
    refine va_iast hx hb hK hP hD hS 2 1 rgL4_682b397 rgT3_9bdde83 (vinI (by omega) (by omega)) dX2_add_32 (fun H locs hP9 hD9 hS9 => ?_)
    obtain ⟨y18, e_y18⟩ : ∃ y, (upd za0_1_f_10 za0_3_8.toNatClampNeg a2) = y := ⟨_, rfl⟩
    clear hP hD hS
    obtain ⟨hP, hD⟩ := rgS4_558cc52 (e := (a0_1, .inl (a0_1_c, 12, .inl y18))) hP9 hD9 (congrArg (fun z9 => (((a0_1, .inl (a0_1_c, 12, .inl z9)) : Nat × va_E))) e_y18)
    have hS := hS9; clear hP9 hD9 hS9
    refine lv_aload_n hx hb dX2_add_33 rfl (lv_at hl 0 rfl) ?_
    refine va_get (D := (dC, dI)) (ci := 1) (v := .ref a0_2) (C := RX2) (T := TX2) (N := 4) hx hb hts inlX2 hown hK hP 0 rgL4_25bb07f rfl 2 (by decide) (hts (.fieldLink RX2 18 "ClosedUntil$Journal" "before" "[I") qw_36) (fun _ h9 => h9) rfl dX2_add_34 ?_
    refine lv_aload_n hx hb dX2_add_37 rfl (lv_at hl 0 rfl) ?_
    refine va_get (D := (dC, dI)) (ci := 1) (v := .int za0_3_8) (C := RX2) (T := TX2) (N := 4) hx hb hts inlX2 hown hK hP 0 rgL4_25bb07f rfl 3 (by decide) (hts (.fieldLink RX2 21 "ClosedUntil$Journal" "size" "I") qw_33) (fun _ h9 => h9) rfl dX2_add_38 ?_
    refine lv_iload_n hx hb dX2_add_41 rfl (lv_at hl 3 rfl) ?_
    refine va_iast hx hb hK hP hD hS 3 2 rgL4_582d62e rgT3_173f9f1 (vinI (by omega) (by omega)) dX2_add_42 (fun H locs hP9 hD9 hS9 => ?_)
    obtain ⟨y19, e_y19⟩ : ∃ y, (upd za0_2_f_11 za0_3_8.toNatClampNeg a3) = y := ⟨_, rfl⟩
    clear hP hD hS
    obtain ⟨hP, hD⟩ := rgS4_c467359 (e := (a0_2, .inl (a0_2_c, 12, .inl y19))) hP9 hD9 (congrArg (fun z9 => (((a0_2, .inl (a0_2_c, 12, .inl z9)) : Nat × va_E))) e_y19)
    have hS := hS9; clear hP9 hD9 hS9
    refine lv_aload_n hx hb dX2_add_43 rfl (lv_at hl 0 rfl) ?_
    refine lv_dup hx hb dX2_add_44 rfl ?_
    refine va_get (D := (dC, dI)) (ci := 1) (v := .int za0_3_8) (C := RX2) (T := TX2) (N := 4) hx hb hts inlX2 hown hK hP 0 rgL4_25bb07f rfl 3 (by decide) (hts (.fieldLink RX2 21 "ClosedUntil$Journal" "size" "I") qw_33) (fun _ h9 => h9) rfl dX2_add_45 ?_
    refine lv_iconst (v := 1) hx hb dX2_add_48 (by decide) ?_
    refine lv_iadd hx hb dX2_add_49 ?_
    refine lv_topi (fun x20 e_x20 => ?_)
    try have e_x20 := ti_add e_x20 rfl (show (1 : Int32).toInt = 1 by decide) (by omega)
    refine va_put (D := (dC, dI)) (ci := 1) (v := .int x20) (ty := .int) (C := RX2) (T := TX2) (N := 4) hx hb hts inlX2 tyX2 tyX2_ok nmX2 hown hK hP hD hS 0 rgL4_25bb07f rfl 3 (by decide) (hts (.fieldLink RX2 21 "ClosedUntil$Journal" "size" "I") qw_33) (fun _ h9 => h9) rfl (by decide +kernel) rfl rfl (Nat.le_of_ble_eq_true rfl) dX2_add_50 (fun H locs hP9 hD9 hS9 => ?_)
    clear hP hD hS
    obtain ⟨hP, hD⟩ := rgS4_3ebc7b6 (e := (a0, .inr (1, [.ref a0_0, .ref a0_1, .ref a0_2, .int x20]))) hP9 hD9 rfl
    have hS := hS9; clear hP9 hD9 hS9
    refine W.widen (k := 0) (n := 0) (Nat.le_of_ble_eq_true rfl) (Nat.le_of_ble_eq_true rfl) ?_
    have hP9 := hP
    have hD9 := hD
    have hK9 := (rgK3_e7c053f hK)
    have hf9_0 : (0 ≤ x20.toInt ∧ x20.toInt ≤ 12) := by omega
    have hf9_1 : (JA y17 y18 y19 x20) := JA.grow hja2 e_y17 e_y18 e_y19 rfl (by omega) (by omega) hje
    have hf9_2 : (J1 a0_0_f a0_1_f y17 y18 a0_3 x20 a1 a2) := J1.pre hsh1 hsh2 hsh4 (by omega) (J1.grow (n := za0_3_8) e_y17 e_y18 rfl (by omega) (by omega))
    exact W.vret hx hb hr (fun t ht hW => ⟨⟨(), rfl, trivial, x20, y17, y18, y19, hf9_0, hf9_1, hf9_2, atB ht hP9, va_K.moved hW.alike hK9, hD9⟩, hS.F ht⟩) hS.2.2 dX2_add_53
set_option maxHeartbeats 4000000 in
set_option maxRecDepth 100000 in
theorem k_X3_clear (l : Launch) (dC : Nat → ClassId) (dI : Nat → Nat → Nat) (g : Gv) (sz : Nat) (a0 : Nat) (a0_0 : Nat) (a0_1 : Nat) (a0_2 : Nat) (a0_3 : Nat) (a0_4 : Nat) (a0_5 : Nat) (a0_0_c : ClassId) (a0_0_f : Nat → Int32) (a0_1_c : ClassId) (a0_1_f : Nat → Int32) (a0_2_c : ClassId) (a0_2_f : Nat → Int32) (a0_3_c : ClassId) (a0_3_f : Nat → Int32) (h_a0_3_f : vr 0 5 a0_3_f) : Met l yX3_clear (.code yX3_clear cX3_clear 2 none :: TBL) ({ frames := 0, cells := 0, slots := 0, locals := 0 }) (va_Pc [.ref a0] (fun U => U.heap.size = sz ∧ va_P (dC, dI) vwCl [(a0, .inr (2, [.ref a0_0, .ref a0_1, .ref a0_2, .ref a0_3, .ref a0_4, .ref a0_5])), (a0_0, .inl (a0_0_c, 24, .inl a0_0_f)), (a0_1, .inl (a0_1_c, 8, .inl a0_1_f)), (a0_2, .inl (a0_2_c, 12, .inl a0_2_f)), (a0_3, .inl (a0_3_c, 12, .inl a0_3_f))] U.heap ∧ va_K (dC, dI) vwCl [(a0_0_c, .int), (a0_1_c, .int), (a0_2_c, .int), (a0_3_c, .int)] U ∧ va_D (fun _ => True) [(a0, .inr (2, [.ref a0_0, .ref a0_1, .ref a0_2, .ref a0_3, .ref a0_4, .ref a0_5])), (a0_0, .inl (a0_0_c, 24, .inl a0_0_f)), (a0_1, .inl (a0_1_c, 8, .inl a0_1_f)), (a0_2, .inl (a0_2_c, 12, .inl a0_2_f)), (a0_3, .inl (a0_3_c, 12, .inl a0_3_f))] ∧ Ev g (va_A [(a0, .inr (2, [.ref a0_0, .ref a0_1, .ref a0_2, .ref a0_3, .ref a0_4, .ref a0_5])), (a0_0, .inl (a0_0_c, 24, .inl a0_0_f)), (a0_1, .inl (a0_1_c, 8, .inl a0_1_f)), (a0_2, .inl (a0_2_c, 12, .inl a0_2_f)), (a0_3, .inl (a0_3_c, 12, .inl a0_3_f))] sz) U)) (va_Qv (fun (_ : Unit) => True) (fun (_ : Unit) (t : State) => ∃ (za0_0_f : Nat → Int32) (za0_1_f : Nat → Int32) (za0_2_f : Nat → Int32) (za0_3_f : Nat → Int32), vr 0 5 za0_3_f ∧ va_P (dC, dI) vwCl [(a0, .inr (2, [.ref a0_0, .ref a0_1, .ref a0_2, .ref a0_3, .ref a0_4, .ref a0_5])), (a0_0, .inl (a0_0_c, 24, .inl za0_0_f)), (a0_1, .inl (a0_1_c, 8, .inl za0_1_f)), (a0_2, .inl (a0_2_c, 12, .inl za0_2_f)), (a0_3, .inl (a0_3_c, 12, .inl za0_3_f))] t.heap ∧ va_K (dC, dI) vwCl [] t ∧ va_D (va_A [(a0, .inr (2, [.ref a0_0, .ref a0_1, .ref a0_2, .ref a0_3, .ref a0_4, .ref a0_5])), (a0_0, .inl (a0_0_c, 24, .inl a0_0_f)), (a0_1, .inl (a0_1_c, 8, .inl a0_1_f)), (a0_2, .inl (a0_2_c, 12, .inl a0_2_f)), (a0_3, .inl (a0_3_c, 12, .inl a0_3_f))] sz) [(a0, .inr (2, [.ref a0_0, .ref a0_1, .ref a0_2, .ref a0_3, .ref a0_4, .ref a0_5])), (a0_0, .inl (a0_0_c, 24, .inl za0_0_f)), (a0_1, .inl (a0_1_c, 8, .inl za0_1_f)), (a0_2, .inl (a0_2_c, 12, .inl za0_2_f)), (a0_3, .inl (a0_3_c, 12, .inl za0_3_f))]) (va_A [(a0, .inr (2, [.ref a0_0, .ref a0_1, .ref a0_2, .ref a0_3, .ref a0_4, .ref a0_5])), (a0_0, .inl (a0_0_c, 24, .inl a0_0_f)), (a0_1, .inl (a0_1_c, 8, .inl a0_1_f)), (a0_2, .inl (a0_2_c, 12, .inl a0_2_f)), (a0_3, .inl (a0_3_c, 12, .inl a0_3_f))] sz)) 0 0 (va_A [(a0, .inr (2, [.ref a0_0, .ref a0_1, .ref a0_2, .ref a0_3, .ref a0_4, .ref a0_5])), (a0_0, .inl (a0_0_c, 24, .inl a0_0_f)), (a0_1, .inl (a0_1_c, 8, .inl a0_1_f)), (a0_2, .inl (a0_2_c, 12, .inl a0_2_f)), (a0_3, .inl (a0_3_c, 12, .inl a0_3_f))] sz) := by
  refine Met.ofW (cc := cX3_clear) (maxL := 2) (ret := none) (by decide) rfl ?_
  intro p e s m args below meth c s₁ B hml hv
  obtain ⟨rfl, hsz, hP, hK, hD0, hE⟩ := hv
  have hx := B.exec
  have hb := B.bytes
  have hr := B.returns
  have hts0 := atoms_spec (ws := (.code yX3_clear cX3_clear 2 none :: TBL)) B.pre
  have hts := fun (w : Cond) (h : w ∈ TBL) => hts0 w (List.mem_cons_of_mem _ h)
  have hown : s.vm.findClass RX3 = some m.cls := findClass_of_methodNamed B.named
  have hlocks := B.notSynchronized
  have hN := hE.1
  subst hsz
  have hD := hD0.self (sz := s.heap.size)
  generalize hAe : va_A [(a0, .inr (2, [.ref a0_0, .ref a0_1, .ref a0_2, .ref a0_3, .ref a0_4, .ref a0_5])), (a0_0, .inl (a0_0_c, 24, .inl a0_0_f)), (a0_1, .inl (a0_1_c, 8, .inl a0_1_f)), (a0_2, .inl (a0_2_c, 12, .inl a0_2_f)), (a0_3, .inl (a0_3_c, 12, .inl a0_3_f))] s.heap.size = A at hD hE ⊢
  have hA : ∀ q : Nat, s.heap.size ≤ q → A q := fun q h => by rw [← hAe]; exact Or.inr h
  have hS : va_S A s.heap s.heap [] := va_S.rf
  replace hP : va_P (dC, dI) vwCl [(a0, .inr (2, [.ref a0_0, .ref a0_1, .ref a0_2, .ref a0_3, .ref a0_4, .ref a0_5])), (a0_0, .inl (a0_0_c, 24, .inl a0_0_f)), (a0_1, .inl (a0_1_c, 8, .inl a0_1_f)), (a0_2, .inl (a0_2_c, 12, .inl a0_2_f)), (a0_3, .inl (a0_3_c, 12, .inl a0_3_f))] s.heap := hP
  have hl := lv_entry ([.ref a0]) (n := 2) (Nat.le_of_ble_eq_true rfl)
  rw [lg_entry_eq]
  generalize (lg_sl ([.ref a0]) ++ List.replicate (2 - (lg_sl ([.ref a0])).length) Slot.unset).toArray = ls at hl ⊢
  have hl : lv_has ls 2 [(0, .ref a0)] := hl
  refine lv_iconst (v := 0) hx hb dX3_clear_0 (by decide) ?_
  refine lv_istore_n (lv' := [(1, .int 0), (0, .ref a0)]) hx hb dX3_clear_1 rfl hl (by decide) rfl (fun ls hl => ?_)
  have qc0 : (0 : Int32).toInt = 0 := by decide
  refine wloop (fun n H locs ls => ∃ (l2_1 : Int32) (w2_1 : Nat → Int32), n = (2147483647 - l2_1.toInt).toNat ∧ (0 ≤ l2_1.toInt) ∧ lv_has ls 2 [(1, .int l2_1), (0, .ref a0)] ∧ va_P (dC, dI) vwCl [(a0, .inr (2, [.ref a0_0, .ref a0_1, .ref a0_2, .ref a0_3, .ref a0_4, .ref a0_5])), (a0_0, .inl (a0_0_c, 24, .inl w2_1)), (a0_1, .inl (a0_1_c, 8, .inl a0_1_f)), (a0_2, .inl (a0_2_c, 12, .inl a0_2_f)), (a0_3, .inl (a0_3_c, 12, .inl a0_3_f))] H ∧ va_D A [(a0, .inr (2, [.ref a0_0, .ref a0_1, .ref a0_2, .ref a0_3, .ref a0_4, .ref a0_5])), (a0_0, .inl (a0_0_c, 24, .inl w2_1)), (a0_1, .inl (a0_1_c, 8, .inl a0_1_f)), (a0_2, .inl (a0_2_c, 12, .inl a0_2_f)), (a0_3, .inl (a0_3_c, 12, .inl a0_3_f))] ∧ va_S A s.heap H locs) ?_ ((2147483647 - (0 : Int32).toInt).toNat) _ _ _ ⟨0, a0_0_f, rfl, (by omega), lv_sub hl [0, 1] rfl, hP, hD, hS⟩
  intro n2 H locs ls hI ih2
  obtain ⟨l2_1, w2_1, hn2, g_l2_1, hl, hP, hD, hS⟩ := hI
  have b_l2_1 := i32b l2_1
  refine lv_iload_n hx hb dX3_clear_2 rfl (lv_at hl 0 rfl) ?_
  refine lv_bipush (v := 24) hx hb dX3_clear_3 (by decide) ?_
  refine lv_icmp_ge (tgt := 21) hx hb dX3_clear_5 (by decide) (fun c5_1 => ?_) (fun c5_1 => ?_)
  · have c5_1 : 24 ≤ l2_1.toInt := (cv_le (by decide) rfl).mp c5_1
    refine lv_iconst (v := 0) hx hb dX3_clear_21 (by decide) ?_
    refine lv_istore_n (lv' := [(1, .int 0), (0, .ref a0)]) hx hb dX3_clear_22 rfl hl (by decide) rfl (fun ls hl => ?_)
    have qc0 : (0 : Int32).toInt = 0 := by decide
    refine wloop (fun n H locs ls => ∃ (l23_1 : Int32) (w23_2 : Nat → Int32), n = (2147483647 - l23_1.toInt).toNat ∧ (0 ≤ l23_1.toInt) ∧ lv_has ls 2 [(1, .int l23_1), (0, .ref a0)] ∧ va_P (dC, dI) vwCl [(a0, .inr (2, [.ref a0_0, .ref a0_1, .ref a0_2, .ref a0_3, .ref a0_4, .ref a0_5])), (a0_0, .inl (a0_0_c, 24, .inl w2_1)), (a0_1, .inl (a0_1_c, 8, .inl w23_2)), (a0_2, .inl (a0_2_c, 12, .inl a0_2_f)), (a0_3, .inl (a0_3_c, 12, .inl a0_3_f))] H ∧ va_D A [(a0, .inr (2, [.ref a0_0, .ref a0_1, .ref a0_2, .ref a0_3, .ref a0_4, .ref a0_5])), (a0_0, .inl (a0_0_c, 24, .inl w2_1)), (a0_1, .inl (a0_1_c, 8, .inl w23_2)), (a0_2, .inl (a0_2_c, 12, .inl a0_2_f)), (a0_3, .inl (a0_3_c, 12, .inl a0_3_f))] ∧ va_S A s.heap H locs) ?_ ((2147483647 - (0 : Int32).toInt).toNat) _ _ _ ⟨0, a0_1_f, rfl, (by omega), lv_sub hl [0, 1] rfl, hP, hD, hS⟩
    intro n23 H locs ls hI ih23
    obtain ⟨l23_1, w23_2, hn23, g_l23_1, hl, hP, hD, hS⟩ := hI
    have b_l23_1 := i32b l23_1
    refine lv_iload_n hx hb dX3_clear_23 rfl (lv_at hl 0 rfl) ?_
    refine lv_bipush (v := 8) hx hb dX3_clear_24 (by decide) ?_
    refine lv_icmp_ge (tgt := 42) hx hb dX3_clear_26 (by decide) (fun c26_2 => ?_) (fun c26_2 => ?_)
    · have c26_2 : 8 ≤ l23_1.toInt := (cv_le (by decide) rfl).mp c26_2
      refine lv_iconst (v := 0) hx hb dX3_clear_42 (by decide) ?_
      refine lv_istore_n (lv' := [(1, .int 0), (0, .ref a0)]) hx hb dX3_clear_43 rfl hl (by decide) rfl (fun ls hl => ?_)
      have qc0 : (0 : Int32).toInt = 0 := by decide
      refine wloop (fun n H locs ls => ∃ (l44_1 : Int32) (w44_3 : Nat → Int32) (w44_4 : Nat → Int32), n = (2147483647 - l44_1.toInt).toNat ∧ (vr 0 5 w44_4) ∧ (0 ≤ l44_1.toInt) ∧ lv_has ls 2 [(1, .int l44_1), (0, .ref a0)] ∧ va_P (dC, dI) vwCl [(a0, .inr (2, [.ref a0_0, .ref a0_1, .ref a0_2, .ref a0_3, .ref a0_4, .ref a0_5])), (a0_0, .inl (a0_0_c, 24, .inl w2_1)), (a0_1, .inl (a0_1_c, 8, .inl w23_2)), (a0_2, .inl (a0_2_c, 12, .inl w44_3)), (a0_3, .inl (a0_3_c, 12, .inl w44_4))] H ∧ va_D A [(a0, .inr (2, [.ref a0_0, .ref a0_1, .ref a0_2, .ref a0_3, .ref a0_4, .ref a0_5])), (a0_0, .inl (a0_0_c, 24, .inl w2_1)), (a0_1, .inl (a0_1_c, 8, .inl w23_2)), (a0_2, .inl (a0_2_c, 12, .inl w44_3)), (a0_3, .inl (a0_3_c, 12, .inl w44_4))] ∧ va_S A s.heap H locs) ?_ ((2147483647 - (0 : Int32).toInt).toNat) _ _ _ ⟨0, a0_2_f, a0_3_f, rfl, h_a0_3_f, (by omega), lv_sub hl [0, 1] rfl, hP, hD, hS⟩
      intro n44 H locs ls hI ih44
      obtain ⟨l44_1, w44_3, w44_4, hn44, g_w44_4, g_l44_1, hl, hP, hD, hS⟩ := hI
      have b_l44_1 := i32b l44_1
      refine lv_iload_n hx hb dX3_clear_44 rfl (lv_at hl 0 rfl) ?_
      refine lv_bipush (v := 12) hx hb dX3_clear_45 (by decide) ?_
      refine lv_icmp_ge (tgt := 70) hx hb dX3_clear_47 (by decide) (fun c47_3 => ?_) (fun c47_3 => ?_)
      · have c47_3 : 12 ≤ l44_1.toInt := (cv_le (by decide) rfl).mp c47_3
        refine W.widen (k := 0) (n := 0) (Nat.le_of_ble_eq_true rfl) (Nat.le_of_ble_eq_true rfl) ?_
        have hP9 := hP
        have hD9 := hD
        have hK9 := (rgK4_6738937 hK)
        have hf9_0 : vr 0 5 w44_4 := g_w44_4
        exact W.vret hx hb hr (fun t ht hW => ⟨⟨(), rfl, trivial, w2_1, w23_2, w44_3, w44_4, hf9_0, atB ht hP9, va_K.moved hW.alike hK9, hD9⟩, hS.F ht⟩) hS.2.2 dX3_clear_70
      · have c47_3 : ¬ (12 ≤ l44_1.toInt) := mt (cv_le (by decide) rfl).mpr c47_3
        refine lv_aload_n hx hb dX3_clear_50 rfl (lv_at hl 1 rfl) ?_
        refine va_get (D := (dC, dI)) (ci := 2) (v := .ref a0_2) (C := RX3) (T := TX3) (N := 6) hx hb hts inlX3 hown hK hP 0 rgL5_a6879b9 rfl 2 (by decide) (hts (.fieldLink RX3 18 "ClosedUntil$State" "lifted" "[I") qw_48) (fun _ h9 => h9) rfl dX3_clear_51 ?_
        refine lv_iload_n hx hb dX3_clear_54 rfl (lv_at hl 0 rfl) ?_
        refine lv_iconst (v := (-1)) hx hb dX3_clear_55 (by decide) ?_
        refine va_iast hx hb hK hP hD hS 3 2 rgL5_b55ecbc rgT4_df3fd44 (vinI (by omega) (by omega)) dX3_clear_56 (fun H locs hP9 hD9 hS9 => ?_)
        obtain ⟨y4, e_y4⟩ : ∃ y, (upd w44_3 l44_1.toNatClampNeg ((-1))) = y := ⟨_, rfl⟩
        clear hP hD hS
        obtain ⟨hP, hD⟩ := rgS5_283009a (e := (a0_2, .inl (a0_2_c, 12, .inl y4))) hP9 hD9 (congrArg (fun z9 => (((a0_2, .inl (a0_2_c, 12, .inl z9)) : Nat × va_E))) e_y4)
        have hS := hS9; clear hP9 hD9 hS9
        refine lv_aload_n hx hb dX3_clear_57 rfl (lv_at hl 1 rfl) ?_
        refine va_get (D := (dC, dI)) (ci := 2) (v := .ref a0_3) (C := RX3) (T := TX3) (N := 6) hx hb hts inlX3 hown hK hP 0 rgL5_a6879b9 rfl 3 (by decide) (hts (.fieldLink RX3 21 "ClosedUntil$State" "reviews" "[I") qw_49) (fun _ h9 => h9) rfl dX3_clear_58 ?_
        refine lv_iload_n hx hb dX3_clear_61 rfl (lv_at hl 0 rfl) ?_
        refine lv_iconst (v := 0) hx hb dX3_clear_62 (by decide) ?_
        refine va_iast hx hb hK hP hD hS 4 3 rgL5_c0b45fd rgT4_a0d579d (vinI (by omega) (by omega)) dX3_clear_63 (fun H locs hP9 hD9 hS9 => ?_)
        obtain ⟨y5, e_y5⟩ : ∃ y, (upd w44_4 l44_1.toNatClampNeg (0)) = y := ⟨_, rfl⟩
        clear hP hD hS
        obtain ⟨hP, hD⟩ := rgS5_abb24c5 (e := (a0_3, .inl (a0_3_c, 12, .inl y5))) hP9 hD9 (congrArg (fun z9 => (((a0_3, .inl (a0_3_c, 12, .inl z9)) : Nat × va_E))) e_y5)
        have hS := hS9; clear hP9 hD9 hS9
        have b_y5 : vr 0 5 y5 := vr_upd e_y5 g_w44_4 (by decide)
        obtain ⟨x6, e_x6⟩ : ∃ y : Int32, y = l44_1 + 1 := ⟨_, rfl⟩
        refine lv_iinc (v := x6) (lv' := [(1, .int x6), (0, .ref a0)]) hx hb dX3_clear_64 hl (k := 0) rfl (by rw [e_x6]; rfl) (by decide) rfl (fun ls hl => ?_)
        try have e_x6 := ti_add e_x6 rfl (show (1 : Int32).toInt = 1 by decide) (by omega)
        refine lv_goto (tgt := 44) hx hb dX3_clear_67 (by decide) ?_
        exact ih44 ((2147483647 - x6.toInt).toNat) _ _ _ (by omega) ⟨x6, y4, y5, rfl, b_y5, (by omega), lv_sub hl [0, 1] rfl, hP, hD, hS⟩
    · have c26_2 : ¬ (8 ≤ l23_1.toInt) := mt (cv_le (by decide) rfl).mpr c26_2
      refine lv_aload_n hx hb dX3_clear_29 rfl (lv_at hl 1 rfl) ?_
      refine va_get (D := (dC, dI)) (ci := 2) (v := .ref a0_1) (C := RX3) (T := TX3) (N := 6) hx hb hts inlX3 hown hK hP 0 rgL5_a6879b9 rfl 1 (by decide) (hts (.fieldLink RX3 15 "ClosedUntil$State" "death" "[I") qw_47) (fun _ h9 => h9) rfl dX3_clear_30 ?_
      refine lv_iload_n hx hb dX3_clear_33 rfl (lv_at hl 0 rfl) ?_
      refine lv_iconst (v := (-1)) hx hb dX3_clear_34 (by decide) ?_
      refine va_iast hx hb hK hP hD hS 2 1 rgL5_4d93d4e rgT4_b124325 (vinI (by omega) (by omega)) dX3_clear_35 (fun H locs hP9 hD9 hS9 => ?_)
      obtain ⟨y7, e_y7⟩ : ∃ y, (upd w23_2 l23_1.toNatClampNeg ((-1))) = y := ⟨_, rfl⟩
      clear hP hD hS
      obtain ⟨hP, hD⟩ := rgS5_55fc036 (e := (a0_1, .inl (a0_1_c, 8, .inl y7))) hP9 hD9 (congrArg (fun z9 => (((a0_1, .inl (a0_1_c, 8, .inl z9)) : Nat × va_E))) e_y7)
      have hS := hS9; clear hP9 hD9 hS9
      obtain ⟨x8, e_x8⟩ : ∃ y : Int32, y = l23_1 + 1 := ⟨_, rfl⟩
      refine lv_iinc (v := x8) (lv' := [(1, .int x8), (0, .ref a0)]) hx hb dX3_clear_36 hl (k := 0) rfl (by rw [e_x8]; rfl) (by decide) rfl (fun ls hl => ?_)
      try have e_x8 := ti_add e_x8 rfl (show (1 : Int32).toInt = 1 by decide) (by omega)
      refine lv_goto (tgt := 23) hx hb dX3_clear_39 (by decide) ?_
      exact ih23 ((2147483647 - x8.toInt).toNat) _ _ _ (by omega) ⟨x8, y7, rfl, (by omega), lv_sub hl [0, 1] rfl, hP, hD, hS⟩
  · have c5_1 : ¬ (24 ≤ l2_1.toInt) := mt (cv_le (by decide) rfl).mpr c5_1
    refine lv_aload_n hx hb dX3_clear_8 rfl (lv_at hl 1 rfl) ?_
    refine va_get (D := (dC, dI)) (ci := 2) (v := .ref a0_0) (C := RX3) (T := TX3) (N := 6) hx hb hts inlX3 hown hK hP 0 rgL5_a6879b9 rfl 0 (by decide) (hts (.fieldLink RX3 9 "ClosedUntil$State" "parent" "[I") qw_46) (fun _ h9 => h9) rfl dX3_clear_9 ?_
    refine lv_iload_n hx hb dX3_clear_12 rfl (lv_at hl 0 rfl) ?_
    refine lv_iconst (v := (-1)) hx hb dX3_clear_13 (by decide) ?_
    refine va_iast hx hb hK hP hD hS 1 0 rgL5_8fa4d66 rgT4_b662ba5 (vinI (by omega) (by omega)) dX3_clear_14 (fun H locs hP9 hD9 hS9 => ?_)
    obtain ⟨y9, e_y9⟩ : ∃ y, (upd w2_1 l2_1.toNatClampNeg ((-1))) = y := ⟨_, rfl⟩
    clear hP hD hS
    obtain ⟨hP, hD⟩ := rgS5_08baf9a (e := (a0_0, .inl (a0_0_c, 24, .inl y9))) hP9 hD9 (congrArg (fun z9 => (((a0_0, .inl (a0_0_c, 24, .inl z9)) : Nat × va_E))) e_y9)
    have hS := hS9; clear hP9 hD9 hS9
    obtain ⟨x10, e_x10⟩ : ∃ y : Int32, y = l2_1 + 1 := ⟨_, rfl⟩
    refine lv_iinc (v := x10) (lv' := [(1, .int x10), (0, .ref a0)]) hx hb dX3_clear_15 hl (k := 0) rfl (by rw [e_x10]; rfl) (by decide) rfl (fun ls hl => ?_)
    try have e_x10 := ti_add e_x10 rfl (show (1 : Int32).toInt = 1 by decide) (by omega)
    refine lv_goto (tgt := 2) hx hb dX3_clear_18 (by decide) ?_
    exact ih2 ((2147483647 - x10.toInt).toNat) _ _ _ (by omega) ⟨x10, y9, rfl, (by omega), lv_sub hl [0, 1] rfl, hP, hD, hS⟩
set_option maxHeartbeats 4000000 in
set_option maxRecDepth 100000 in
theorem k_X3_allReviews (l : Launch) (dC : Nat → ClassId) (dI : Nat → Nat → Nat) (g : Gv) (a0 : Nat) (a0_0 : Nat) (a0_1 : Nat) (a0_2 : Nat) (a0_3 : Nat) (a0_4 : Nat) (a0_5 : Nat) (a0_3_c : ClassId) (a0_3_f : Nat → Int32) (h_a0_3_f : vr 0 5 a0_3_f) : Met l yX3_allReviews (.code yX3_allReviews cX3_allReviews 3 (some .int) :: TBL) ({ frames := 0, cells := 0, slots := 0, locals := 0 }) (va_Pc [.ref a0] (fun U => va_P (dC, dI) vwCl [(a0, .inr (2, [.ref a0_0, .ref a0_1, .ref a0_2, .ref a0_3, .ref a0_4, .ref a0_5])), (a0_3, .inl (a0_3_c, 12, .inl a0_3_f))] U.heap ∧ va_K (dC, dI) vwCl [(a0_3_c, .int)] U ∧ Ev g (fun _ => False) U)) (vp_Si (fun (r : Int32) => True)) 0 0 (fun _ => False) := by
  refine Met.ofW (cc := cX3_allReviews) (maxL := 3) (ret := (some .int)) (by decide) rfl ?_
  intro p e s m args below meth c s₁ B hml hv
  obtain ⟨rfl, hP, hK, hE⟩ := hv
  have hx := B.exec
  have hb := B.bytes
  have hr := B.returns
  have hts0 := atoms_spec (ws := (.code yX3_allReviews cX3_allReviews 3 (some .int) :: TBL)) B.pre
  have hts := fun (w : Cond) (h : w ∈ TBL) => hts0 w (List.mem_cons_of_mem _ h)
  have hown : s.vm.findClass RX3 = some m.cls := findClass_of_methodNamed B.named
  have hlocks := B.notSynchronized
  have hN := hE.1
  have hS : va_S (fun _ => False) s.heap s.heap [] := va_S.rf
  replace hP : va_P (dC, dI) vwCl [(a0, .inr (2, [.ref a0_0, .ref a0_1, .ref a0_2, .ref a0_3, .ref a0_4, .ref a0_5])), (a0_3, .inl (a0_3_c, 12, .inl a0_3_f))] s.heap := hP
  have hl := lv_entry ([.ref a0]) (n := 3) (Nat.le_of_ble_eq_true rfl)
  rw [lg_entry_eq]
  generalize (lg_sl ([.ref a0]) ++ List.replicate (3 - (lg_sl ([.ref a0])).length) Slot.unset).toArray = ls at hl ⊢
  have hl : lv_has ls 3 [(0, .ref a0)] := hl
  refine lv_iconst (v := 0) hx hb dX3_allReviews_0 (by decide) ?_
  refine lv_istore_n (lv' := [(1, .int 0), (0, .ref a0)]) hx hb dX3_allReviews_1 rfl hl (by decide) rfl (fun ls hl => ?_)
  refine lv_iconst (v := 0) hx hb dX3_allReviews_2 (by decide) ?_
  refine lv_istore_n (lv' := [(2, .int 0), (1, .int 0), (0, .ref a0)]) hx hb dX3_allReviews_3 rfl hl (by decide) rfl (fun ls hl => ?_)
  have qc0 : (0 : Int32).toInt = 0 := by decide
  refine wloop (fun n H locs ls => ∃ (l4_2 : Int32) (l4_1 : Int32), n = (2147483647 - l4_2.toInt).toNat ∧ (0 ≤ l4_2.toInt) ∧ lv_has ls 3 [(2, .int l4_2), (1, .int l4_1), (0, .ref a0)] ∧ H = s.heap ∧ locs = []) ?_ ((2147483647 - (0 : Int32).toInt).toNat) _ _ _ ⟨0, 0, rfl, (by omega), lv_sub hl [0, 1, 2] rfl, rfl, rfl⟩
  intro n4 H locs ls hI ih4
  obtain ⟨l4_2, l4_1, hn4, g_l4_2, hl, rfl, rfl⟩ := hI
  have b_l4_2 := i32b l4_2
  have b_l4_1 := i32b l4_1
  refine lv_iload_n hx hb dX3_allReviews_4 rfl (lv_at hl 0 rfl) ?_
  refine lv_bipush (v := 12) hx hb dX3_allReviews_5 (by decide) ?_
  refine lv_icmp_ge (tgt := 25) hx hb dX3_allReviews_7 (by decide) (fun c7_1 => ?_) (fun c7_1 => ?_)
  · have c7_1 : 12 ≤ l4_2.toInt := (cv_le (by decide) rfl).mp c7_1
    refine lv_iload_n hx hb dX3_allReviews_25 rfl (lv_at hl 1 rfl) ?_
    exact W.iret (v := l4_1) hx hb hr (fun t ht hW => ⟨l4_1, rfl, trivial, ht⟩) (fun _ h => absurd h List.not_mem_nil) dX3_allReviews_26
  · have c7_1 : ¬ (12 ≤ l4_2.toInt) := mt (cv_le (by decide) rfl).mpr c7_1
    refine lv_iload_n hx hb dX3_allReviews_10 rfl (lv_at hl 1 rfl) ?_
    refine lv_aload_n hx hb dX3_allReviews_11 rfl (lv_at hl 2 rfl) ?_
    refine va_get (D := (dC, dI)) (ci := 2) (v := .ref a0_3) (C := RX3) (T := TX3) (N := 6) hx hb hts inlX3 hown hK hP 0 rgL2_5ac5f51 rfl 3 (by decide) (hts (.fieldLink RX3 21 "ClosedUntil$State" "reviews" "[I") qw_49) (fun _ h9 => h9) rfl dX3_allReviews_12 ?_
    refine lv_iload_n hx hb dX3_allReviews_15 rfl (lv_at hl 0 rfl) ?_
    refine va_iald hx hb hK hP 1 0 rgL2_906ef0f rgT1_bb00d73 (vinI (by omega) (by omega)) dX3_allReviews_16 ?_
    refine lv_topi (fun x2 e_x2 => ?_)
    have b_x2 : 0 ≤ x2.toInt ∧ x2.toInt ≤ 5 := vr_at (lo := 0) (hi := 5) (f := a0_3_f) h_a0_3_f e_x2
    refine lv_iadd hx hb dX3_allReviews_17 ?_
    refine lv_topi (fun x3 e_x3 => ?_)
    try have e_x3 := ti_add e_x3 rfl rfl (by omega)
    refine lv_istore_n (lv' := [(1, .int x3), (2, .int l4_2), (0, .ref a0)]) hx hb dX3_allReviews_18 rfl hl (by decide) rfl (fun ls hl => ?_)
    obtain ⟨x4, e_x4⟩ : ∃ y : Int32, y = l4_2 + 1 := ⟨_, rfl⟩
    refine lv_iinc (v := x4) (lv' := [(2, .int x4), (1, .int x3), (0, .ref a0)]) hx hb dX3_allReviews_19 hl (k := 1) rfl (by rw [e_x4]; rfl) (by decide) rfl (fun ls hl => ?_)
    try have e_x4 := ti_add e_x4 rfl (show (1 : Int32).toInt = 1 by decide) (by omega)
    refine lv_goto (tgt := 4) hx hb dX3_allReviews_22 (by decide) ?_
    exact ih4 ((2147483647 - x4.toInt).toNat) _ _ _ (by omega) ⟨x4, x3, rfl, (by omega), lv_sub hl [0, 1, 2] rfl, rfl, rfl⟩
set_option maxHeartbeats 4000000 in
set_option maxRecDepth 100000 in
theorem k_X3_allLifted (l : Launch) (dC : Nat → ClassId) (dI : Nat → Nat → Nat) (g : Gv) (a0 : Nat) (a0_0 : Nat) (a0_1 : Nat) (a0_2 : Nat) (a0_3 : Nat) (a0_4 : Nat) (a0_5 : Nat) (a0_2_c : ClassId) (a0_2_f : Nat → Int32)  : Met l yX3_allLifted (.code yX3_allLifted cX3_allLifted 3 (some .int) :: TBL) ({ frames := 0, cells := 0, slots := 0, locals := 0 }) (va_Pc [.ref a0] (fun U => va_P (dC, dI) vwCl [(a0, .inr (2, [.ref a0_0, .ref a0_1, .ref a0_2, .ref a0_3, .ref a0_4, .ref a0_5])), (a0_2, .inl (a0_2_c, 12, .inl a0_2_f))] U.heap ∧ va_K (dC, dI) vwCl [(a0_2_c, .int)] U ∧ Ev g (fun _ => False) U)) (vp_Si (fun (r : Int32) => True)) 0 0 (fun _ => False) := by
  refine Met.ofW (cc := cX3_allLifted) (maxL := 3) (ret := (some .int)) (by decide) rfl ?_
  intro p e s m args below meth c s₁ B hml hv
  obtain ⟨rfl, hP, hK, hE⟩ := hv
  have hx := B.exec
  have hb := B.bytes
  have hr := B.returns
  have hts0 := atoms_spec (ws := (.code yX3_allLifted cX3_allLifted 3 (some .int) :: TBL)) B.pre
  have hts := fun (w : Cond) (h : w ∈ TBL) => hts0 w (List.mem_cons_of_mem _ h)
  have hown : s.vm.findClass RX3 = some m.cls := findClass_of_methodNamed B.named
  have hlocks := B.notSynchronized
  have hN := hE.1
  have hS : va_S (fun _ => False) s.heap s.heap [] := va_S.rf
  replace hP : va_P (dC, dI) vwCl [(a0, .inr (2, [.ref a0_0, .ref a0_1, .ref a0_2, .ref a0_3, .ref a0_4, .ref a0_5])), (a0_2, .inl (a0_2_c, 12, .inl a0_2_f))] s.heap := hP
  have hl := lv_entry ([.ref a0]) (n := 3) (Nat.le_of_ble_eq_true rfl)
  rw [lg_entry_eq]
  generalize (lg_sl ([.ref a0]) ++ List.replicate (3 - (lg_sl ([.ref a0])).length) Slot.unset).toArray = ls at hl ⊢
  have hl : lv_has ls 3 [(0, .ref a0)] := hl
  refine lv_iconst (v := 0) hx hb dX3_allLifted_0 (by decide) ?_
  refine lv_istore_n (lv' := [(1, .int 0), (0, .ref a0)]) hx hb dX3_allLifted_1 rfl hl (by decide) rfl (fun ls hl => ?_)
  refine lv_iconst (v := 0) hx hb dX3_allLifted_2 (by decide) ?_
  refine lv_istore_n (lv' := [(2, .int 0), (1, .int 0), (0, .ref a0)]) hx hb dX3_allLifted_3 rfl hl (by decide) rfl (fun ls hl => ?_)
  have qc0 : (0 : Int32).toInt = 0 := by decide
  refine wloop (fun n H locs ls => ∃ (l4_2 : Int32) (l4_1 : Int32), n = (2147483647 - l4_2.toInt).toNat ∧ (0 ≤ l4_2.toInt) ∧ lv_has ls 3 [(2, .int l4_2), (1, .int l4_1), (0, .ref a0)] ∧ H = s.heap ∧ locs = []) ?_ ((2147483647 - (0 : Int32).toInt).toNat) _ _ _ ⟨0, 0, rfl, (by omega), lv_sub hl [0, 1, 2] rfl, rfl, rfl⟩
  intro n4 H locs ls hI ih4
  obtain ⟨l4_2, l4_1, hn4, g_l4_2, hl, rfl, rfl⟩ := hI
  have b_l4_2 := i32b l4_2
  have b_l4_1 := i32b l4_1
  refine lv_iload_n hx hb dX3_allLifted_4 rfl (lv_at hl 0 rfl) ?_
  refine lv_bipush (v := 12) hx hb dX3_allLifted_5 (by decide) ?_
  refine lv_icmp_ge (tgt := 32) hx hb dX3_allLifted_7 (by decide) (fun c7_1 => ?_) (fun c7_1 => ?_)
  · have c7_1 : 12 ≤ l4_2.toInt := (cv_le (by decide) rfl).mp c7_1
    refine lv_iload_n hx hb dX3_allLifted_32 rfl (lv_at hl 1 rfl) ?_
    exact W.iret (v := l4_1) hx hb hr (fun t ht hW => ⟨l4_1, rfl, trivial, ht⟩) (fun _ h => absurd h List.not_mem_nil) dX3_allLifted_33
  · have c7_1 : ¬ (12 ≤ l4_2.toInt) := mt (cv_le (by decide) rfl).mpr c7_1
    refine lv_aload_n hx hb dX3_allLifted_10 rfl (lv_at hl 2 rfl) ?_
    refine va_get (D := (dC, dI)) (ci := 2) (v := .ref a0_2) (C := RX3) (T := TX3) (N := 6) hx hb hts inlX3 hown hK hP 0 rgL2_5ac5f51 rfl 2 (by decide) (hts (.fieldLink RX3 18 "ClosedUntil$State" "lifted" "[I") qw_48) (fun _ h9 => h9) rfl dX3_allLifted_11 ?_
    refine lv_iload_n hx hb dX3_allLifted_14 rfl (lv_at hl 0 rfl) ?_
    refine va_iald hx hb hK hP 1 0 rgL2_906ef0f rgT1_bb00d73 (vinI (by omega) (by omega)) dX3_allLifted_15 ?_
    refine lv_topi (fun x2 e_x2 => ?_)
    have b_x2 := i32b x2
    refine lv_iconst (v := (-1)) hx hb dX3_allLifted_16 (by decide) ?_
    refine lv_icmp_eq (tgt := 26) hx hb dX3_allLifted_17 (by decide) (fun c17_3 => ?_) (fun c17_3 => ?_)
    · have c17_3 : x2.toInt = (-1) := (cv_eq rfl (by decide)).mp c17_3
      obtain ⟨x4, e_x4⟩ : ∃ y : Int32, y = l4_2 + 1 := ⟨_, rfl⟩
      refine lv_iinc (v := x4) (lv' := [(2, .int x4), (1, .int l4_1), (0, .ref a0)]) hx hb dX3_allLifted_26 hl (k := 0) rfl (by rw [e_x4]; rfl) (by decide) rfl (fun ls hl => ?_)
      try have e_x4 := ti_add e_x4 rfl (show (1 : Int32).toInt = 1 by decide) (by omega)
      refine lv_goto (tgt := 4) hx hb dX3_allLifted_29 (by decide) ?_
      exact ih4 ((2147483647 - x4.toInt).toNat) _ _ _ (by omega) ⟨x4, l4_1, rfl, (by omega), lv_sub hl [0, 1, 2] rfl, rfl, rfl⟩
    · have c17_3 : ¬ (x2.toInt = (-1)) := mt (cv_eq rfl (by decide)).mpr c17_3
      refine lv_iload_n hx hb dX3_allLifted_20 rfl (lv_at hl 1 rfl) ?_
      refine lv_iconst (v := 1) hx hb dX3_allLifted_21 (by decide) ?_
      refine lv_iload_n hx hb dX3_allLifted_22 rfl (lv_at hl 0 rfl) ?_
      refine lv_ishl hx hb dX3_allLifted_23 ?_
      refine lv_topi (fun x5 e_x5 => ?_)
      refine lv_ior hx hb dX3_allLifted_24 ?_
      refine lv_topi (fun x6 e_x6 => ?_)
      refine lv_istore_n (lv' := [(1, .int x6), (2, .int l4_2), (0, .ref a0)]) hx hb dX3_allLifted_25 rfl hl (by decide) rfl (fun ls hl => ?_)
      obtain ⟨x7, e_x7⟩ : ∃ y : Int32, y = l4_2 + 1 := ⟨_, rfl⟩
      refine lv_iinc (v := x7) (lv' := [(2, .int x7), (1, .int x6), (0, .ref a0)]) hx hb dX3_allLifted_26 hl (k := 1) rfl (by rw [e_x7]; rfl) (by decide) rfl (fun ls hl => ?_)
      try have e_x7 := ti_add e_x7 rfl (show (1 : Int32).toInt = 1 by decide) (by omega)
      refine lv_goto (tgt := 4) hx hb dX3_allLifted_29 (by decide) ?_
      exact ih4 ((2147483647 - x7.toInt).toNat) _ _ _ (by omega) ⟨x7, x6, rfl, (by omega), lv_sub hl [0, 1, 2] rfl, rfl, rfl⟩
set_option maxHeartbeats 4000000 in
set_option maxRecDepth 100000 in
theorem k_X4_hasRoom (l : Launch) (dC : Nat → ClassId) (dI : Nat → Nat → Nat) (g : Gv) (a0 : Nat) (a0_0 : Nat) (a0_1 : Int32) (a0_0_c : ClassId) (a0_0_f : Nat → Int32) (h_a0_1 : 0 ≤ a0_1.toInt ∧ a0_1.toInt ≤ 1000) : Met l yX4_hasRoom (.code yX4_hasRoom cX4_hasRoom 1 (some .boolean) :: TBL) ({ frames := 0, cells := 0, slots := 0, locals := 0 }) (va_Pc [.ref a0] (fun U => va_P (dC, dI) vwCl [(a0, .inr (3, [.ref a0_0, .int a0_1])), (a0_0, .inl (a0_0_c, 1000, .inl a0_0_f))] U.heap ∧ va_K (dC, dI) vwCl [(a0_0_c, .byte)] U ∧ Ev g (fun _ => False) U)) (vp_Si (fun (r : Int32) => (r = 0 ∨ r = 1) ∧ ((r.toInt = 1 → a0_1.toInt ≤ 980) ∧ (r.toInt = 0 → 980 < a0_1.toInt)))) 0 0 (fun _ => False) := by
  refine Met.ofW (cc := cX4_hasRoom) (maxL := 1) (ret := (some .boolean)) (by decide) rfl ?_
  intro p e s m args below meth c s₁ B hml hv
  obtain ⟨rfl, hP, hK, hE⟩ := hv
  have hx := B.exec
  have hb := B.bytes
  have hr := B.returns
  have hts0 := atoms_spec (ws := (.code yX4_hasRoom cX4_hasRoom 1 (some .boolean) :: TBL)) B.pre
  have hts := fun (w : Cond) (h : w ∈ TBL) => hts0 w (List.mem_cons_of_mem _ h)
  have hown : s.vm.findClass RX4 = some m.cls := findClass_of_methodNamed B.named
  have hlocks := B.notSynchronized
  have hN := hE.1
  have hS : va_S (fun _ => False) s.heap s.heap [] := va_S.rf
  replace hP : va_P (dC, dI) vwCl [(a0, .inr (3, [.ref a0_0, .int a0_1])), (a0_0, .inl (a0_0_c, 1000, .inl a0_0_f))] s.heap := hP
  have hl := lv_entry ([.ref a0]) (n := 1) (Nat.le_of_ble_eq_true rfl)
  rw [lg_entry_eq]
  generalize (lg_sl ([.ref a0]) ++ List.replicate (1 - (lg_sl ([.ref a0])).length) Slot.unset).toArray = ls at hl ⊢
  have hl : lv_has ls 1 [(0, .ref a0)] := hl
  refine lv_aload_n hx hb dX4_hasRoom_0 rfl (lv_at hl 0 rfl) ?_
  refine va_get (D := (dC, dI)) (ci := 3) (v := .int a0_1) (C := RX4) (T := TX4) (N := 2) hx hb hts inlX4 hown hK hP 0 rgL2_5ac5f51 rfl 1 (by decide) (hts (.fieldLink RX4 15 "ClosedUntil$Tape" "length" "I") qw_50) (fun _ h9 => h9) rfl dX4_hasRoom_1 ?_
  refine lv_bipush (v := 20) hx hb dX4_hasRoom_4 (by decide) ?_
  refine lv_iadd hx hb dX4_hasRoom_6 ?_
  refine lv_topi (fun x1 e_x1 => ?_)
  try have e_x1 := ti_add e_x1 rfl (show (20 : Int32).toInt = 20 by decide) (by omega)
  refine lv_aload_n hx hb dX4_hasRoom_7 rfl (lv_at hl 0 rfl) ?_
  refine va_get (D := (dC, dI)) (ci := 3) (v := .ref a0_0) (C := RX4) (T := TX4) (N := 2) hx hb hts inlX4 hown hK hP 0 rgL2_5ac5f51 rfl 0 (by decide) (hts (.fieldLink RX4 9 "ClosedUntil$Tape" "bytes" "[B") qw_51) (fun _ h9 => h9) rfl dX4_hasRoom_8 ?_
  refine va_alen hx hb hK hP 1 0 rgL2_906ef0f rgT1_bb00d73 (v := 1000) (show Int32.ofNat 1000 = 1000 from by decide) dX4_hasRoom_11 ?_
  refine lv_icmp_gt (tgt := 19) hx hb dX4_hasRoom_12 (by decide) (fun c12_2 => ?_) (fun c12_2 => ?_)
  · have c12_2 : 1000 < x1.toInt := (cv_lt (by decide) rfl).mp c12_2
    refine lv_iconst (v := 0) hx hb dX4_hasRoom_19 (by decide) ?_
    exact W.zret (v := 0) hx hb hr rfl (fun t ht hW => ⟨0, rfl, ⟨(by decide), (by have q := (show (0 : Int32).toInt = 0 by decide); omega)⟩, ht⟩) (fun _ h => absurd h List.not_mem_nil) dX4_hasRoom_20
  · have c12_2 : ¬ (1000 < x1.toInt) := mt (cv_lt (by decide) rfl).mpr c12_2
    refine lv_iconst (v := 1) hx hb dX4_hasRoom_15 (by decide) ?_
    refine lv_goto (tgt := 20) hx hb dX4_hasRoom_16 (by decide) ?_
    exact W.zret (v := 1) hx hb hr rfl (fun t ht hW => ⟨1, rfl, ⟨(by decide), (by have q := (show (1 : Int32).toInt = 1 by decide); omega)⟩, ht⟩) (fun _ h => absurd h List.not_mem_nil) dX4_hasRoom_20
set_option maxHeartbeats 4000000 in
set_option maxRecDepth 100000 in
theorem k_X4_append (l : Launch) (dC : Nat → ClassId) (dI : Nat → Nat → Nat) (g : Gv) (sz : Nat) (a0 : Nat) (a1 : Int32) (a0_0 : Nat) (a0_1 : Int32) (a0_0_c : ClassId) (a0_0_f : Nat → Int32) (h_a0_1 : 0 ≤ a0_1.toInt ∧ a0_1.toInt ≤ 1000) : Met l yX4_append (.code yX4_append cX4_append 3 none :: TBL) ({ frames := 0, cells := 0, slots := 0, locals := 0 }) (va_Pc [.ref a0, .int a1] (fun U => U.heap.size = sz ∧ va_P (dC, dI) vwCl [(a0, .inr (3, [.ref a0_0, .int a0_1])), (a0_0, .inl (a0_0_c, 1000, .inl a0_0_f))] U.heap ∧ va_K (dC, dI) vwCl [(a0_0_c, .byte)] U ∧ va_D (fun _ => True) [(a0, .inr (3, [.ref a0_0, .int a0_1])), (a0_0, .inl (a0_0_c, 1000, .inl a0_0_f))] ∧ Ev g (va_A [(a0, .inr (3, [.ref a0_0, .int a0_1])), (a0_0, .inl (a0_0_c, 1000, .inl a0_0_f))] sz) U)) (va_Qv (fun (_ : Unit) => True) (fun (_ : Unit) (t : State) => ∃ (za0_1 : Int32) (za0_0_f : Nat → Int32), (0 ≤ za0_1.toInt ∧ za0_1.toInt ≤ 1000) ∧ (a0_1.toInt ≤ 996 → za0_1.toInt = a0_1.toInt + 4) ∧ va_P (dC, dI) vwCl [(a0, .inr (3, [.ref a0_0, .int za0_1])), (a0_0, .inl (a0_0_c, 1000, .inl za0_0_f))] t.heap ∧ va_K (dC, dI) vwCl [] t ∧ va_D (va_A [(a0, .inr (3, [.ref a0_0, .int a0_1])), (a0_0, .inl (a0_0_c, 1000, .inl a0_0_f))] sz) [(a0, .inr (3, [.ref a0_0, .int za0_1])), (a0_0, .inl (a0_0_c, 1000, .inl za0_0_f))]) (va_A [(a0, .inr (3, [.ref a0_0, .int a0_1])), (a0_0, .inl (a0_0_c, 1000, .inl a0_0_f))] sz)) 0 0 (va_A [(a0, .inr (3, [.ref a0_0, .int a0_1])), (a0_0, .inl (a0_0_c, 1000, .inl a0_0_f))] sz) := by
  refine Met.ofW (cc := cX4_append) (maxL := 3) (ret := none) (by decide) rfl ?_
  intro p e s m args below meth c s₁ B hml hv
  obtain ⟨rfl, hsz, hP, hK, hD0, hE⟩ := hv
  have hx := B.exec
  have hb := B.bytes
  have hr := B.returns
  have hts0 := atoms_spec (ws := (.code yX4_append cX4_append 3 none :: TBL)) B.pre
  have hts := fun (w : Cond) (h : w ∈ TBL) => hts0 w (List.mem_cons_of_mem _ h)
  have hown : s.vm.findClass RX4 = some m.cls := findClass_of_methodNamed B.named
  have hlocks := B.notSynchronized
  have hN := hE.1
  subst hsz
  have hD := hD0.self (sz := s.heap.size)
  generalize hAe : va_A [(a0, .inr (3, [.ref a0_0, .int a0_1])), (a0_0, .inl (a0_0_c, 1000, .inl a0_0_f))] s.heap.size = A at hD hE ⊢
  have hA : ∀ q : Nat, s.heap.size ≤ q → A q := fun q h => by rw [← hAe]; exact Or.inr h
  have hS : va_S A s.heap s.heap [] := va_S.rf
  replace hP : va_P (dC, dI) vwCl [(a0, .inr (3, [.ref a0_0, .int a0_1])), (a0_0, .inl (a0_0_c, 1000, .inl a0_0_f))] s.heap := hP
  have hl := lv_entry ([.ref a0, .int a1]) (n := 3) (Nat.le_of_ble_eq_true rfl)
  rw [lg_entry_eq]
  generalize (lg_sl ([.ref a0, .int a1]) ++ List.replicate (3 - (lg_sl ([.ref a0, .int a1])).length) Slot.unset).toArray = ls at hl ⊢
  have hl : lv_has ls 3 [(0, .ref a0), (1, .int a1)] := hl
  have b_a1 := i32b a1
  refine lv_bipush (v := 24) hx hb dX4_append_0 (by decide) ?_
  refine lv_istore_n (lv' := [(2, .int 24), (0, .ref a0), (1, .int a1)]) hx hb dX4_append_2 rfl hl (by decide) rfl (fun ls hl => ?_)
  have qc24 : (24 : Int32).toInt = 24 := by decide
  refine wloop (fun n H locs ls => ∃ (l3_2 : Int32) (f3_0_1 : Int32) (w3_1 : Nat → Int32), n = (l3_2.toInt + 2147483648).toNat ∧ ((0 ≤ f3_0_1.toInt ∧ f3_0_1.toInt ≤ 1000)) ∧ (l3_2.toInt ≤ 24) ∧ (a0_1.toInt ≤ 996 → (8 * (f3_0_1.toInt - a0_1.toInt) = 24 - l3_2.toInt ∧ -8 ≤ l3_2.toInt)) ∧ lv_has ls 3 [(2, .int l3_2), (0, .ref a0), (1, .int a1)] ∧ va_P (dC, dI) vwCl [(a0, .inr (3, [.ref a0_0, .int f3_0_1])), (a0_0, .inl (a0_0_c, 1000, .inl w3_1))] H ∧ va_D A [(a0, .inr (3, [.ref a0_0, .int f3_0_1])), (a0_0, .inl (a0_0_c, 1000, .inl w3_1))] ∧ va_S A s.heap H locs) ?_ (((24 : Int32).toInt + 2147483648).toNat) _ _ _ ⟨24, a0_1, a0_0_f, rfl, (by omega), (by omega), (by omega), lv_sub hl [0, 1, 2] rfl, hP, hD, hS⟩
  intro n3 H locs ls hI ih3
  obtain ⟨l3_2, f3_0_1, w3_1, hn3, g_f3_0_1, g_l3_2, gx3_0, hl, hP, hD, hS⟩ := hI
  have b_l3_2 := i32b l3_2
  have b_f3_0_1 := i32b f3_0_1
  refine lv_iload_n hx hb dX4_append_3 rfl (lv_at hl 0 rfl) ?_
  refine lv_if_lt (tgt := 48) hx hb dX4_append_4 (by decide) (fun c4_1 => ?_) (fun c4_1 => ?_)
  · have c4_1 : l3_2.toInt < 0 := (cv_lt rfl (by decide)).mp c4_1
    refine W.widen (k := 0) (n := 0) (Nat.le_of_ble_eq_true rfl) (Nat.le_of_ble_eq_true rfl) ?_
    have hP9 := hP
    have hD9 := hD
    have hK9 := (rgK1_f3b3254 hK)
    have hf9_0 : (0 ≤ f3_0_1.toInt ∧ f3_0_1.toInt ≤ 1000) := by omega
    have hf9_1 : (a0_1.toInt ≤ 996 → f3_0_1.toInt = a0_1.toInt + 4) := by omega
    exact W.vret hx hb hr (fun t ht hW => ⟨⟨(), rfl, trivial, f3_0_1, w3_1, hf9_0, hf9_1, atB ht hP9, va_K.moved hW.alike hK9, hD9⟩, hS.F ht⟩) hS.2.2 dX4_append_48
  · have c4_1 : ¬ (l3_2.toInt < 0) := mt (cv_lt rfl (by decide)).mpr c4_1
    refine lv_aload_n hx hb dX4_append_7 rfl (lv_at hl 1 rfl) ?_
    refine va_get (D := (dC, dI)) (ci := 3) (v := .int f3_0_1) (C := RX4) (T := TX4) (N := 2) hx hb hts inlX4 hown hK hP 0 rgL2_5ac5f51 rfl 1 (by decide) (hts (.fieldLink RX4 15 "ClosedUntil$Tape" "length" "I") qw_50) (fun _ h9 => h9) rfl dX4_append_8 ?_
    refine lv_aload_n hx hb dX4_append_11 rfl (lv_at hl 1 rfl) ?_
    refine va_get (D := (dC, dI)) (ci := 3) (v := .ref a0_0) (C := RX4) (T := TX4) (N := 2) hx hb hts inlX4 hown hK hP 0 rgL2_5ac5f51 rfl 0 (by decide) (hts (.fieldLink RX4 9 "ClosedUntil$Tape" "bytes" "[B") qw_51) (fun _ h9 => h9) rfl dX4_append_12 ?_
    refine va_alen hx hb hK hP 1 0 rgL2_906ef0f rgT1_bb00d73 (v := 1000) (show Int32.ofNat 1000 = 1000 from by decide) dX4_append_15 ?_
    refine lv_icmp_ge (tgt := 48) hx hb dX4_append_16 (by decide) (fun c16_2 => ?_) (fun c16_2 => ?_)
    · have c16_2 : 1000 ≤ f3_0_1.toInt := (cv_le (by decide) rfl).mp c16_2
      refine W.widen (k := 0) (n := 0) (Nat.le_of_ble_eq_true rfl) (Nat.le_of_ble_eq_true rfl) ?_
      have hP9 := hP
      have hD9 := hD
      have hK9 := (rgK1_f3b3254 hK)
      have hf9_0 : (0 ≤ f3_0_1.toInt ∧ f3_0_1.toInt ≤ 1000) := by omega
      have hf9_1 : (a0_1.toInt ≤ 996 → f3_0_1.toInt = a0_1.toInt + 4) := by omega
      exact W.vret hx hb hr (fun t ht hW => ⟨⟨(), rfl, trivial, f3_0_1, w3_1, hf9_0, hf9_1, atB ht hP9, va_K.moved hW.alike hK9, hD9⟩, hS.F ht⟩) hS.2.2 dX4_append_48
    · have c16_2 : ¬ (1000 ≤ f3_0_1.toInt) := mt (cv_le (by decide) rfl).mpr c16_2
      refine lv_aload_n hx hb dX4_append_19 rfl (lv_at hl 1 rfl) ?_
      refine va_get (D := (dC, dI)) (ci := 3) (v := .ref a0_0) (C := RX4) (T := TX4) (N := 2) hx hb hts inlX4 hown hK hP 0 rgL2_5ac5f51 rfl 0 (by decide) (hts (.fieldLink RX4 9 "ClosedUntil$Tape" "bytes" "[B") qw_51) (fun _ h9 => h9) rfl dX4_append_20 ?_
      refine lv_aload_n hx hb dX4_append_23 rfl (lv_at hl 1 rfl) ?_
      refine va_get (D := (dC, dI)) (ci := 3) (v := .int f3_0_1) (C := RX4) (T := TX4) (N := 2) hx hb hts inlX4 hown hK hP 0 rgL2_5ac5f51 rfl 1 (by decide) (hts (.fieldLink RX4 15 "ClosedUntil$Tape" "length" "I") qw_50) (fun _ h9 => h9) rfl dX4_append_24 ?_
      refine lv_iload_n hx hb dX4_append_27 rfl (lv_at hl 2 rfl) ?_
      refine lv_iload_n hx hb dX4_append_28 rfl (lv_at hl 0 rfl) ?_
      refine lv_iushr hx hb dX4_append_29 rfl ?_
      refine lv_topi (fun x3 e_x3 => ?_)
      refine lv_i2b hx hb dX4_append_30 rfl ?_
      refine lv_topi (fun x4 e_x4 => ?_)
      refine va_bast hx hb hK hP hD hS 1 0 rgL2_906ef0f rgT1_bb00d73 (vinI (by omega) (by omega)) dX4_append_31 (fun H locs hP9 hD9 hS9 => ?_)
      obtain ⟨y5, e_y5⟩ : ∃ y, (upd w3_1 f3_0_1.toNatClampNeg (vp_nar .byte x4)) = y := ⟨_, rfl⟩
      clear hP hD hS
      obtain ⟨hP, hD⟩ := rgS2_56f84fb (e := (a0_0, .inl (a0_0_c, 1000, .inl y5))) hP9 hD9 (congrArg (fun z9 => (((a0_0, .inl (a0_0_c, 1000, .inl z9)) : Nat × va_E))) e_y5)
      have hS := hS9; clear hP9 hD9 hS9
      refine lv_aload_n hx hb dX4_append_32 rfl (lv_at hl 1 rfl) ?_
      refine lv_dup hx hb dX4_append_33 rfl ?_
      refine va_get (D := (dC, dI)) (ci := 3) (v := .int f3_0_1) (C := RX4) (T := TX4) (N := 2) hx hb hts inlX4 hown hK hP 0 rgL2_5ac5f51 rfl 1 (by decide) (hts (.fieldLink RX4 15 "ClosedUntil$Tape" "length" "I") qw_50) (fun _ h9 => h9) rfl dX4_append_34 ?_
      refine lv_iconst (v := 1) hx hb dX4_append_37 (by decide) ?_
      refine lv_iadd hx hb dX4_append_38 ?_
      refine lv_topi (fun x6 e_x6 => ?_)
      try have e_x6 := ti_add e_x6 rfl (show (1 : Int32).toInt = 1 by decide) (by omega)
      refine va_put (D := (dC, dI)) (ci := 3) (v := .int x6) (ty := .int) (C := RX4) (T := TX4) (N := 2) hx hb hts inlX4 tyX4 tyX4_ok nmX4 hown hK hP hD hS 0 rgL2_5ac5f51 rfl 1 (by decide) (hts (.fieldLink RX4 15 "ClosedUntil$Tape" "length" "I") qw_50) (fun _ h9 => h9) rfl (by decide +kernel) rfl rfl (Nat.le_of_ble_eq_true rfl) dX4_append_39 (fun H locs hP9 hD9 hS9 => ?_)
      clear hP hD hS
      obtain ⟨hP, hD⟩ := rgS2_40109d0 (e := (a0, .inr (3, [.ref a0_0, .int x6]))) hP9 hD9 rfl
      have hS := hS9; clear hP9 hD9 hS9
      obtain ⟨x7, e_x7⟩ : ∃ y : Int32, y = l3_2 + (-8) := ⟨_, rfl⟩
      refine lv_iinc (v := x7) (lv' := [(2, .int x7), (0, .ref a0), (1, .int a1)]) hx hb dX4_append_42 hl (k := 0) rfl (by rw [e_x7]; rfl) (by decide) rfl (fun ls hl => ?_)
      try have e_x7 := ti_add e_x7 rfl (show ((-8) : Int32).toInt = (-8) by decide) (by omega)
      refine lv_goto (tgt := 3) hx hb dX4_append_45 (by decide) ?_
      exact ih3 ((x7.toInt + 2147483648).toNat) _ _ _ (by omega) ⟨x7, x6, y5, rfl, (by omega), (by omega), (by omega), lv_sub hl [0, 1, 2] rfl, hP, hD, hS⟩
