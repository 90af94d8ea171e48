theorem dX9_isPiece_0 : decode cX9_isPiece 0 = .ok (.iload_n 1, 1) := by decide +kernel
theorem dX9_isPiece_1 : decode cX9_isPiece 1 = .ok (.i2l, 1) := by decide +kernel
theorem dX9_isPiece_2 : decode cX9_isPiece 2 = .ok (.lconst 0, 1) := by decide +kernel
theorem dX9_isPiece_3 : decode cX9_isPiece 3 = .ok (.aload_n 0, 1) := by decide +kernel
theorem dX9_isPiece_4 : decode cX9_isPiece 4 = .ok (.getfield 20, 3) := by decide +kernel
theorem dX9_isPiece_7 : decode cX9_isPiece 7 = .ok (.iconst 0, 1) := by decide +kernel
theorem dX9_isPiece_8 : decode cX9_isPiece 8 = .ok (.iaload, 1) := by decide +kernel
theorem dX9_isPiece_9 : decode cX9_isPiece 9 = .ok (.iconst 1, 1) := by decide +kernel
theorem dX9_isPiece_10 : decode cX9_isPiece 10 = .ok (.isub, 1) := by decide +kernel
theorem dX9_isPiece_11 : decode cX9_isPiece 11 = .ok (.i2l, 1) := by decide +kernel
theorem dX9_isPiece_12 : decode cX9_isPiece 12 = .ok (.invokestatic 123, 3) := by decide +kernel
theorem dX9_isPiece_15 : decode cX9_isPiece 15 = .ok (.ireturn, 1) := by decide +kernel
theorem dX9_isClosure_0 : decode cX9_isClosure 0 = .ok (.iload_n 1, 1) := by decide +kernel
theorem dX9_isClosure_1 : decode cX9_isClosure 1 = .ok (.i2l, 1) := by decide +kernel
theorem dX9_isClosure_2 : decode cX9_isClosure 2 = .ok (.lconst 0, 1) := by decide +kernel
theorem dX9_isClosure_3 : decode cX9_isClosure 3 = .ok (.aload_n 0, 1) := by decide +kernel
theorem dX9_isClosure_4 : decode cX9_isClosure 4 = .ok (.getfield 23, 3) := by decide +kernel
theorem dX9_isClosure_7 : decode cX9_isClosure 7 = .ok (.iconst 0, 1) := by decide +kernel
theorem dX9_isClosure_8 : decode cX9_isClosure 8 = .ok (.iaload, 1) := by decide +kernel
theorem dX9_isClosure_9 : decode cX9_isClosure 9 = .ok (.iconst 1, 1) := by decide +kernel
theorem dX9_isClosure_10 : decode cX9_isClosure 10 = .ok (.isub, 1) := by decide +kernel
theorem dX9_isClosure_11 : decode cX9_isClosure 11 = .ok (.i2l, 1) := by decide +kernel
theorem dX9_isClosure_12 : decode cX9_isClosure 12 = .ok (.invokestatic 123, 3) := by decide +kernel
theorem dX9_isClosure_15 : decode cX9_isClosure 15 = .ok (.ireturn, 1) := by decide +kernel
theorem dX9_isPerson_0 : decode cX9_isPerson 0 = .ok (.iload_n 1, 1) := by decide +kernel
theorem dX9_isPerson_1 : decode cX9_isPerson 1 = .ok (.i2l, 1) := by decide +kernel
theorem dX9_isPerson_2 : decode cX9_isPerson 2 = .ok (.lconst 0, 1) := by decide +kernel
theorem dX9_isPerson_3 : decode cX9_isPerson 3 = .ok (.aload_n 0, 1) := by decide +kernel
theorem dX9_isPerson_4 : decode cX9_isPerson 4 = .ok (.getfield 13, 3) := by decide +kernel
theorem dX9_isPerson_7 : decode cX9_isPerson 7 = .ok (.iconst 0, 1) := by decide +kernel
theorem dX9_isPerson_8 : decode cX9_isPerson 8 = .ok (.iaload, 1) := by decide +kernel
theorem dX9_isPerson_9 : decode cX9_isPerson 9 = .ok (.iconst 1, 1) := by decide +kernel
theorem dX9_isPerson_10 : decode cX9_isPerson 10 = .ok (.isub, 1) := by decide +kernel
theorem dX9_isPerson_11 : decode cX9_isPerson 11 = .ok (.i2l, 1) := by decide +kernel
theorem dX9_isPerson_12 : decode cX9_isPerson 12 = .ok (.invokestatic 123, 3) := by decide +kernel
theorem dX9_isPerson_15 : decode cX9_isPerson 15 = .ok (.ireturn, 1) := by decide +kernel
theorem dX9_isUnder_0 : decode cX9_isUnder 0 = .ok (.iload_n 1, 1) := by decide +kernel
theorem dX9_isUnder_1 : decode cX9_isUnder 1 = .ok (.istore_n 3, 1) := by decide +kernel
theorem dX9_isUnder_2 : decode cX9_isUnder 2 = .ok (.iload_n 3, 1) := by decide +kernel
theorem dX9_isUnder_3 : decode cX9_isUnder 3 = .ok (.iconst (-1), 1) := by decide +kernel
theorem dX9_isUnder_4 : decode cX9_isUnder 4 = .ok (.if_icmp .eq 18, 3) := by decide +kernel
theorem dX9_isUnder_7 : decode cX9_isUnder 7 = .ok (.iload_n 3, 1) := by decide +kernel
theorem dX9_isUnder_8 : decode cX9_isUnder 8 = .ok (.iload_n 2, 1) := by decide +kernel
theorem dX9_isUnder_9 : decode cX9_isUnder 9 = .ok (.if_icmp .eq 13, 3) := by decide +kernel
theorem dX9_isUnder_12 : decode cX9_isUnder 12 = .ok (.aload_n 0, 1) := by decide +kernel
theorem dX9_isUnder_13 : decode cX9_isUnder 13 = .ok (.getfield 70, 3) := by decide +kernel
theorem dX9_isUnder_16 : decode cX9_isUnder 16 = .ok (.iload_n 3, 1) := by decide +kernel
theorem dX9_isUnder_17 : decode cX9_isUnder 17 = .ok (.iaload, 1) := by decide +kernel
theorem dX9_isUnder_18 : decode cX9_isUnder 18 = .ok (.istore_n 3, 1) := by decide +kernel
theorem dX9_isUnder_19 : decode cX9_isUnder 19 = .ok (.goto (-17), 3) := by decide +kernel
theorem dX9_isUnder_22 : decode cX9_isUnder 22 = .ok (.iload_n 3, 1) := by decide +kernel
theorem dX9_isUnder_23 : decode cX9_isUnder 23 = .ok (.iload_n 2, 1) := by decide +kernel
theorem dX9_isUnder_24 : decode cX9_isUnder 24 = .ok (.if_icmp .ne 7, 3) := by decide +kernel
theorem dX9_isUnder_27 : decode cX9_isUnder 27 = .ok (.iconst 1, 1) := by decide +kernel
theorem dX9_isUnder_28 : decode cX9_isUnder 28 = .ok (.goto 4, 3) := by decide +kernel
theorem dX9_isUnder_31 : decode cX9_isUnder 31 = .ok (.iconst 0, 1) := by decide +kernel
theorem dX9_isUnder_32 : decode cX9_isUnder 32 = .ok (.ireturn, 1) := by decide +kernel
theorem dX9_under_0 : decode cX9_under 0 = .ok (.iconst 0, 1) := by decide +kernel
theorem dX9_under_1 : decode cX9_under 1 = .ok (.istore_n 2, 1) := by decide +kernel
theorem dX9_under_2 : decode cX9_under 2 = .ok (.iconst 0, 1) := by decide +kernel
theorem dX9_under_3 : decode cX9_under 3 = .ok (.istore_n 3, 1) := by decide +kernel
theorem dX9_under_4 : decode cX9_under 4 = .ok (.iload_n 3, 1) := by decide +kernel
theorem dX9_under_5 : decode cX9_under 5 = .ok (.aload_n 0, 1) := by decide +kernel
theorem dX9_under_6 : decode cX9_under 6 = .ok (.getfield 20, 3) := by decide +kernel
theorem dX9_under_9 : decode cX9_under 9 = .ok (.iconst 0, 1) := by decide +kernel
theorem dX9_under_10 : decode cX9_under 10 = .ok (.iaload, 1) := by decide +kernel
theorem dX9_under_11 : decode cX9_under 11 = .ok (.if_icmp .ge 28, 3) := by decide +kernel
theorem dX9_under_14 : decode cX9_under 14 = .ok (.iload_n 2, 1) := by decide +kernel
theorem dX9_under_15 : decode cX9_under 15 = .ok (.aload_n 0, 1) := by decide +kernel
theorem dX9_under_16 : decode cX9_under 16 = .ok (.iload_n 3, 1) := by decide +kernel
theorem dX9_under_17 : decode cX9_under 17 = .ok (.iload_n 1, 1) := by decide +kernel
theorem dX9_under_18 : decode cX9_under 18 = .ok (.invokevirtual 313, 3) := by decide +kernel
theorem dX9_under_21 : decode cX9_under 21 = .ok (.ifCond .eq 9, 3) := by decide +kernel
theorem dX9_under_24 : decode cX9_under 24 = .ok (.iconst 1, 1) := by decide +kernel
theorem dX9_under_25 : decode cX9_under 25 = .ok (.iload_n 3, 1) := by decide +kernel
theorem dX9_under_26 : decode cX9_under 26 = .ok (.ishl, 1) := by decide +kernel
theorem dX9_under_27 : decode cX9_under 27 = .ok (.goto 4, 3) := by decide +kernel
theorem dX9_under_30 : decode cX9_under 30 = .ok (.iconst 0, 1) := by decide +kernel
theorem dX9_under_31 : decode cX9_under 31 = .ok (.ior, 1) := by decide +kernel
theorem dX9_under_32 : decode cX9_under 32 = .ok (.istore_n 2, 1) := by decide +kernel
theorem dX9_under_33 : decode cX9_under 33 = .ok (.iinc 3 1, 3) := by decide +kernel
theorem dX9_under_36 : decode cX9_under 36 = .ok (.goto (-32), 3) := by decide +kernel
theorem dX9_under_39 : decode cX9_under 39 = .ok (.iload_n 2, 1) := by decide +kernel
theorem dX9_under_40 : decode cX9_under 40 = .ok (.ireturn, 1) := by decide +kernel
theorem dX9_deep_0 : decode cX9_deep 0 = .ok (.iconst 0, 1) := by decide +kernel
theorem dX9_deep_1 : decode cX9_deep 1 = .ok (.istore_n 2, 1) := by decide +kernel
theorem dX9_deep_2 : decode cX9_deep 2 = .ok (.aload_n 0, 1) := by decide +kernel
theorem dX9_deep_3 : decode cX9_deep 3 = .ok (.getfield 70, 3) := by decide +kernel
theorem dX9_deep_6 : decode cX9_deep 6 = .ok (.iload_n 1, 1) := by decide +kernel
theorem dX9_deep_7 : decode cX9_deep 7 = .ok (.iaload, 1) := by decide +kernel
theorem dX9_deep_8 : decode cX9_deep 8 = .ok (.istore_n 3, 1) := by decide +kernel
theorem dX9_deep_9 : decode cX9_deep 9 = .ok (.iload_n 3, 1) := by decide +kernel
theorem dX9_deep_10 : decode cX9_deep 10 = .ok (.iconst (-1), 1) := by decide +kernel
theorem dX9_deep_11 : decode cX9_deep 11 = .ok (.if_icmp .eq 16, 3) := by decide +kernel
theorem dX9_deep_14 : decode cX9_deep 14 = .ok (.iinc 2 1, 3) := by decide +kernel
theorem dX9_deep_17 : decode cX9_deep 17 = .ok (.aload_n 0, 1) := by decide +kernel
theorem dX9_deep_18 : decode cX9_deep 18 = .ok (.getfield 70, 3) := by decide +kernel
theorem dX9_deep_21 : decode cX9_deep 21 = .ok (.iload_n 3, 1) := by decide +kernel
theorem dX9_deep_22 : decode cX9_deep 22 = .ok (.iaload, 1) := by decide +kernel
theorem dX9_deep_23 : decode cX9_deep 23 = .ok (.istore_n 3, 1) := by decide +kernel
theorem dX9_deep_24 : decode cX9_deep 24 = .ok (.goto (-15), 3) := by decide +kernel
theorem dX9_deep_27 : decode cX9_deep 27 = .ok (.iload_n 2, 1) := by decide +kernel
theorem dX9_deep_28 : decode cX9_deep 28 = .ok (.ireturn, 1) := by decide +kernel
theorem dX9_isTarget_0 : decode cX9_isTarget 0 = .ok (.aload_n 0, 1) := by decide +kernel
theorem dX9_isTarget_1 : decode cX9_isTarget 1 = .ok (.getfield 57, 3) := by decide +kernel
theorem dX9_isTarget_4 : decode cX9_isTarget 4 = .ok (.iload_n 1, 1) := by decide +kernel
theorem dX9_isTarget_5 : decode cX9_isTarget 5 = .ok (.iaload, 1) := by decide +kernel
theorem dX9_isTarget_6 : decode cX9_isTarget 6 = .ok (.iconst 1, 1) := by decide +kernel
theorem dX9_isTarget_7 : decode cX9_isTarget 7 = .ok (.if_icmp .ne 28, 3) := by decide +kernel
theorem dX9_isTarget_10 : decode cX9_isTarget 10 = .ok (.aload_n 0, 1) := by decide +kernel
theorem dX9_isTarget_11 : decode cX9_isTarget 11 = .ok (.getfield 51, 3) := by decide +kernel
theorem dX9_isTarget_14 : decode cX9_isTarget 14 = .ok (.iload_n 2, 1) := by decide +kernel
theorem dX9_isTarget_15 : decode cX9_isTarget 15 = .ok (.iaload, 1) := by decide +kernel
theorem dX9_isTarget_16 : decode cX9_isTarget 16 = .ok (.aload_n 0, 1) := by decide +kernel
theorem dX9_isTarget_17 : decode cX9_isTarget 17 = .ok (.getfield 60, 3) := by decide +kernel
theorem dX9_isTarget_20 : decode cX9_isTarget 20 = .ok (.iload_n 1, 1) := by decide +kernel
theorem dX9_isTarget_21 : decode cX9_isTarget 21 = .ok (.iaload, 1) := by decide +kernel
theorem dX9_isTarget_22 : decode cX9_isTarget 22 = .ok (.ishr, 1) := by decide +kernel
theorem dX9_isTarget_23 : decode cX9_isTarget 23 = .ok (.iconst 1, 1) := by decide +kernel
theorem dX9_isTarget_24 : decode cX9_isTarget 24 = .ok (.iand, 1) := by decide +kernel
theorem dX9_isTarget_25 : decode cX9_isTarget 25 = .ok (.iconst 1, 1) := by decide +kernel
theorem dX9_isTarget_26 : decode cX9_isTarget 26 = .ok (.if_icmp .ne 7, 3) := by decide +kernel
theorem dX9_isTarget_29 : decode cX9_isTarget 29 = .ok (.iconst 1, 1) := by decide +kernel
theorem dX9_isTarget_30 : decode cX9_isTarget 30 = .ok (.goto 4, 3) := by decide +kernel
theorem dX9_isTarget_33 : decode cX9_isTarget 33 = .ok (.iconst 0, 1) := by decide +kernel
theorem dX9_isTarget_34 : decode cX9_isTarget 34 = .ok (.ireturn, 1) := by decide +kernel
theorem dX9_isTarget_35 : decode cX9_isTarget 35 = .ok (.aload_n 0, 1) := by decide +kernel
theorem dX9_isTarget_36 : decode cX9_isTarget 36 = .ok (.getfield 57, 3) := by decide +kernel
theorem dX9_isTarget_39 : decode cX9_isTarget 39 = .ok (.iload_n 1, 1) := by decide +kernel
theorem dX9_isTarget_40 : decode cX9_isTarget 40 = .ok (.iaload, 1) := by decide +kernel
theorem dX9_isTarget_41 : decode cX9_isTarget 41 = .ok (.iconst 2, 1) := by decide +kernel
theorem dX9_isTarget_42 : decode cX9_isTarget 42 = .ok (.if_icmp .ne 26, 3) := by decide +kernel
theorem dX9_isTarget_45 : decode cX9_isTarget 45 = .ok (.aload_n 0, 1) := by decide +kernel
theorem dX9_isTarget_46 : decode cX9_isTarget 46 = .ok (.getfield 54, 3) := by decide +kernel
theorem dX9_isTarget_49 : decode cX9_isTarget 49 = .ok (.iload_n 2, 1) := by decide +kernel
theorem dX9_isTarget_50 : decode cX9_isTarget 50 = .ok (.iaload, 1) := by decide +kernel
theorem dX9_isTarget_51 : decode cX9_isTarget 51 = .ok (.aload_n 0, 1) := by decide +kernel
theorem dX9_isTarget_52 : decode cX9_isTarget 52 = .ok (.getfield 60, 3) := by decide +kernel
theorem dX9_isTarget_55 : decode cX9_isTarget 55 = .ok (.iload_n 1, 1) := by decide +kernel
theorem dX9_isTarget_56 : decode cX9_isTarget 56 = .ok (.iaload, 1) := by decide +kernel
theorem dX9_isTarget_57 : decode cX9_isTarget 57 = .ok (.if_icmp .ne 7, 3) := by decide +kernel
theorem dX9_isTarget_60 : decode cX9_isTarget 60 = .ok (.iconst 1, 1) := by decide +kernel
theorem dX9_isTarget_61 : decode cX9_isTarget 61 = .ok (.goto 22, 3) := by decide +kernel
theorem dX9_isTarget_64 : decode cX9_isTarget 64 = .ok (.iconst 0, 1) := by decide +kernel
theorem dX9_isTarget_65 : decode cX9_isTarget 65 = .ok (.goto 18, 3) := by decide +kernel
theorem dX9_isTarget_68 : decode cX9_isTarget 68 = .ok (.aload_n 0, 1) := by decide +kernel
theorem dX9_isTarget_69 : decode cX9_isTarget 69 = .ok (.getfield 60, 3) := by decide +kernel
theorem dX9_isTarget_72 : decode cX9_isTarget 72 = .ok (.iload_n 1, 1) := by decide +kernel
theorem dX9_isTarget_73 : decode cX9_isTarget 73 = .ok (.iaload, 1) := by decide +kernel
theorem dX9_isTarget_74 : decode cX9_isTarget 74 = .ok (.iload_n 2, 1) := by decide +kernel
theorem dX9_isTarget_75 : decode cX9_isTarget 75 = .ok (.if_icmp .ne 7, 3) := by decide +kernel
theorem dX9_isTarget_78 : decode cX9_isTarget 78 = .ok (.iconst 1, 1) := by decide +kernel
theorem dX9_isTarget_79 : decode cX9_isTarget 79 = .ok (.goto 4, 3) := by decide +kernel
theorem dX9_isTarget_82 : decode cX9_isTarget 82 = .ok (.iconst 0, 1) := by decide +kernel
theorem dX9_isTarget_83 : decode cX9_isTarget 83 = .ok (.ireturn, 1) := by decide +kernel
theorem dX9_targets_0 : decode cX9_targets 0 = .ok (.iconst 0, 1) := by decide +kernel
theorem dX9_targets_1 : decode cX9_targets 1 = .ok (.istore_n 2, 1) := by decide +kernel
theorem dX9_targets_2 : decode cX9_targets 2 = .ok (.iconst 0, 1) := by decide +kernel
theorem dX9_targets_3 : decode cX9_targets 3 = .ok (.istore_n 3, 1) := by decide +kernel
theorem dX9_targets_4 : decode cX9_targets 4 = .ok (.iload_n 3, 1) := by decide +kernel
theorem dX9_targets_5 : decode cX9_targets 5 = .ok (.aload_n 0, 1) := by decide +kernel
theorem dX9_targets_6 : decode cX9_targets 6 = .ok (.getfield 20, 3) := by decide +kernel
theorem dX9_targets_9 : decode cX9_targets 9 = .ok (.iconst 0, 1) := by decide +kernel
theorem dX9_targets_10 : decode cX9_targets 10 = .ok (.iaload, 1) := by decide +kernel
theorem dX9_targets_11 : decode cX9_targets 11 = .ok (.if_icmp .ge 28, 3) := by decide +kernel
theorem dX9_targets_14 : decode cX9_targets 14 = .ok (.iload_n 2, 1) := by decide +kernel
theorem dX9_targets_15 : decode cX9_targets 15 = .ok (.aload_n 0, 1) := by decide +kernel
theorem dX9_targets_16 : decode cX9_targets 16 = .ok (.iload_n 1, 1) := by decide +kernel
theorem dX9_targets_17 : decode cX9_targets 17 = .ok (.iload_n 3, 1) := by decide +kernel
theorem dX9_targets_18 : decode cX9_targets 18 = .ok (.invokevirtual 316, 3) := by decide +kernel
theorem dX9_targets_21 : decode cX9_targets 21 = .ok (.ifCond .eq 9, 3) := by decide +kernel
theorem dX9_targets_24 : decode cX9_targets 24 = .ok (.iconst 1, 1) := by decide +kernel
theorem dX9_targets_25 : decode cX9_targets 25 = .ok (.iload_n 3, 1) := by decide +kernel
theorem dX9_targets_26 : decode cX9_targets 26 = .ok (.ishl, 1) := by decide +kernel
theorem dX9_targets_27 : decode cX9_targets 27 = .ok (.goto 4, 3) := by decide +kernel
theorem dX9_targets_30 : decode cX9_targets 30 = .ok (.iconst 0, 1) := by decide +kernel
theorem dX9_targets_31 : decode cX9_targets 31 = .ok (.ior, 1) := by decide +kernel
theorem dX9_targets_32 : decode cX9_targets 32 = .ok (.istore_n 2, 1) := by decide +kernel
theorem dX9_targets_33 : decode cX9_targets 33 = .ok (.iinc 3 1, 3) := by decide +kernel
theorem dX9_targets_36 : decode cX9_targets 36 = .ok (.goto (-32), 3) := by decide +kernel
theorem dX9_targets_39 : decode cX9_targets 39 = .ok (.iload_n 2, 1) := by decide +kernel
theorem dX9_targets_40 : decode cX9_targets 40 = .ok (.ireturn, 1) := by decide +kernel
theorem dX9_closes_0 : decode cX9_closes 0 = .ok (.iconst 0, 1) := by decide +kernel
theorem dX9_closes_1 : decode cX9_closes 1 = .ok (.istore_n 2, 1) := by decide +kernel
theorem dX9_closes_2 : decode cX9_closes 2 = .ok (.iconst 0, 1) := by decide +kernel
theorem dX9_closes_3 : decode cX9_closes 3 = .ok (.istore_n 3, 1) := by decide +kernel
theorem dX9_closes_4 : decode cX9_closes 4 = .ok (.iload_n 3, 1) := by decide +kernel
theorem dX9_closes_5 : decode cX9_closes 5 = .ok (.aload_n 0, 1) := by decide +kernel
theorem dX9_closes_6 : decode cX9_closes 6 = .ok (.getfield 20, 3) := by decide +kernel
theorem dX9_closes_9 : decode cX9_closes 9 = .ok (.iconst 0, 1) := by decide +kernel
theorem dX9_closes_10 : decode cX9_closes 10 = .ok (.iaload, 1) := by decide +kernel
theorem dX9_closes_11 : decode cX9_closes 11 = .ok (.if_icmp .ge 28, 3) := by decide +kernel
theorem dX9_closes_14 : decode cX9_closes 14 = .ok (.iload_n 2, 1) := by decide +kernel
theorem dX9_closes_15 : decode cX9_closes 15 = .ok (.aload_n 0, 1) := by decide +kernel
theorem dX9_closes_16 : decode cX9_closes 16 = .ok (.iload_n 1, 1) := by decide +kernel
theorem dX9_closes_17 : decode cX9_closes 17 = .ok (.iload_n 3, 1) := by decide +kernel
theorem dX9_closes_18 : decode cX9_closes 18 = .ok (.invokevirtual 319, 3) := by decide +kernel
theorem dX9_closes_21 : decode cX9_closes 21 = .ok (.ifCond .lt 9, 3) := by decide +kernel
theorem dX9_closes_24 : decode cX9_closes 24 = .ok (.iconst 1, 1) := by decide +kernel
theorem dX9_closes_25 : decode cX9_closes 25 = .ok (.iload_n 3, 1) := by decide +kernel
theorem dX9_closes_26 : decode cX9_closes 26 = .ok (.ishl, 1) := by decide +kernel
theorem dX9_closes_27 : decode cX9_closes 27 = .ok (.goto 4, 3) := by decide +kernel
theorem dX9_closes_30 : decode cX9_closes 30 = .ok (.iconst 0, 1) := by decide +kernel
theorem dX9_closes_31 : decode cX9_closes 31 = .ok (.ior, 1) := by decide +kernel
theorem dX9_closes_32 : decode cX9_closes 32 = .ok (.istore_n 2, 1) := by decide +kernel
theorem dX9_closes_33 : decode cX9_closes 33 = .ok (.iinc 3 1, 3) := by decide +kernel
theorem dX9_closes_36 : decode cX9_closes 36 = .ok (.goto (-32), 3) := by decide +kernel
theorem dX9_closes_39 : decode cX9_closes 39 = .ok (.iload_n 2, 1) := by decide +kernel
theorem dX9_closes_40 : decode cX9_closes 40 = .ok (.ireturn, 1) := by decide +kernel
theorem dX9_havers_0 : decode cX9_havers 0 = .ok (.iconst 0, 1) := by decide +kernel
theorem dX9_havers_1 : decode cX9_havers 1 = .ok (.istore_n 2, 1) := by decide +kernel
theorem dX9_havers_2 : decode cX9_havers 2 = .ok (.iconst 0, 1) := by decide +kernel
theorem dX9_havers_3 : decode cX9_havers 3 = .ok (.istore_n 3, 1) := by decide +kernel
theorem dX9_havers_4 : decode cX9_havers 4 = .ok (.iload_n 3, 1) := by decide +kernel
theorem dX9_havers_5 : decode cX9_havers 5 = .ok (.aload_n 0, 1) := by decide +kernel
theorem dX9_havers_6 : decode cX9_havers 6 = .ok (.getfield 20, 3) := by decide +kernel
theorem dX9_havers_9 : decode cX9_havers 9 = .ok (.iconst 0, 1) := by decide +kernel
theorem dX9_havers_10 : decode cX9_havers 10 = .ok (.iaload, 1) := by decide +kernel
theorem dX9_havers_11 : decode cX9_havers 11 = .ok (.if_icmp .ge 24, 3) := by decide +kernel
theorem dX9_havers_14 : decode cX9_havers 14 = .ok (.iload_n 2, 1) := by decide +kernel
theorem dX9_havers_15 : decode cX9_havers 15 = .ok (.aload_n 0, 1) := by decide +kernel
theorem dX9_havers_16 : decode cX9_havers 16 = .ok (.getfield 51, 3) := by decide +kernel
theorem dX9_havers_19 : decode cX9_havers 19 = .ok (.iload_n 3, 1) := by decide +kernel
theorem dX9_havers_20 : decode cX9_havers 20 = .ok (.iaload, 1) := by decide +kernel
theorem dX9_havers_21 : decode cX9_havers 21 = .ok (.iload_n 1, 1) := by decide +kernel
theorem dX9_havers_22 : decode cX9_havers 22 = .ok (.ishr, 1) := by decide +kernel
theorem dX9_havers_23 : decode cX9_havers 23 = .ok (.iconst 1, 1) := by decide +kernel
theorem dX9_havers_24 : decode cX9_havers 24 = .ok (.iand, 1) := by decide +kernel
theorem dX9_havers_25 : decode cX9_havers 25 = .ok (.iload_n 3, 1) := by decide +kernel
theorem dX9_havers_26 : decode cX9_havers 26 = .ok (.ishl, 1) := by decide +kernel
theorem dX9_havers_27 : decode cX9_havers 27 = .ok (.ior, 1) := by decide +kernel
theorem dX9_havers_28 : decode cX9_havers 28 = .ok (.istore_n 2, 1) := by decide +kernel
theorem dX9_havers_29 : decode cX9_havers 29 = .ok (.iinc 3 1, 3) := by decide +kernel
theorem dX9_havers_32 : decode cX9_havers 32 = .ok (.goto (-28), 3) := by decide +kernel
theorem dX9_havers_35 : decode cX9_havers 35 = .ok (.iload_n 2, 1) := by decide +kernel
theorem dX9_havers_36 : decode cX9_havers 36 = .ok (.ireturn, 1) := by decide +kernel
theorem dX9_plainTerm_0 : decode cX9_plainTerm 0 = .ok (.aload_n 0, 1) := by decide +kernel
theorem dX9_plainTerm_1 : decode cX9_plainTerm 1 = .ok (.getfield 57, 3) := by decide +kernel
theorem dX9_plainTerm_4 : decode cX9_plainTerm 4 = .ok (.iload_n 1, 1) := by decide +kernel
theorem dX9_plainTerm_5 : decode cX9_plainTerm 5 = .ok (.iaload, 1) := by decide +kernel
theorem dX9_plainTerm_6 : decode cX9_plainTerm 6 = .ok (.iconst 3, 1) := by decide +kernel
theorem dX9_plainTerm_7 : decode cX9_plainTerm 7 = .ok (.if_icmp .ne 12, 3) := by decide +kernel
theorem dX9_plainTerm_10 : decode cX9_plainTerm 10 = .ok (.aload_n 0, 1) := by decide +kernel
theorem dX9_plainTerm_11 : decode cX9_plainTerm 11 = .ok (.getfield 63, 3) := by decide +kernel
theorem dX9_plainTerm_14 : decode cX9_plainTerm 14 = .ok (.iconst 3, 1) := by decide +kernel
theorem dX9_plainTerm_15 : decode cX9_plainTerm 15 = .ok (.iload_n 1, 1) := by decide +kernel
theorem dX9_plainTerm_16 : decode cX9_plainTerm 16 = .ok (.imul, 1) := by decide +kernel
theorem dX9_plainTerm_17 : decode cX9_plainTerm 17 = .ok (.iaload, 1) := by decide +kernel
theorem dX9_plainTerm_18 : decode cX9_plainTerm 18 = .ok (.ireturn, 1) := by decide +kernel
theorem dX9_plainTerm_19 : decode cX9_plainTerm 19 = .ok (.aload_n 0, 1) := by decide +kernel
theorem dX9_plainTerm_20 : decode cX9_plainTerm 20 = .ok (.getfield 57, 3) := by decide +kernel
theorem dX9_plainTerm_23 : decode cX9_plainTerm 23 = .ok (.iload_n 1, 1) := by decide +kernel
theorem dX9_plainTerm_24 : decode cX9_plainTerm 24 = .ok (.iaload, 1) := by decide +kernel
theorem dX9_plainTerm_25 : decode cX9_plainTerm 25 = .ok (.ifCond .ne 22, 3) := by decide +kernel
theorem dX9_plainTerm_28 : decode cX9_plainTerm 28 = .ok (.aload_n 0, 1) := by decide +kernel
theorem dX9_plainTerm_29 : decode cX9_plainTerm 29 = .ok (.aload_n 0, 1) := by decide +kernel
theorem dX9_plainTerm_30 : decode cX9_plainTerm 30 = .ok (.getfield 48, 3) := by decide +kernel
theorem dX9_plainTerm_33 : decode cX9_plainTerm 33 = .ok (.iload_n 2, 1) := by decide +kernel
theorem dX9_plainTerm_34 : decode cX9_plainTerm 34 = .ok (.iaload, 1) := by decide +kernel
theorem dX9_plainTerm_35 : decode cX9_plainTerm 35 = .ok (.aload_n 0, 1) := by decide +kernel
theorem dX9_plainTerm_36 : decode cX9_plainTerm 36 = .ok (.getfield 63, 3) := by decide +kernel
theorem dX9_plainTerm_39 : decode cX9_plainTerm 39 = .ok (.iconst 3, 1) := by decide +kernel
theorem dX9_plainTerm_40 : decode cX9_plainTerm 40 = .ok (.iload_n 1, 1) := by decide +kernel
theorem dX9_plainTerm_41 : decode cX9_plainTerm 41 = .ok (.imul, 1) := by decide +kernel
theorem dX9_plainTerm_42 : decode cX9_plainTerm 42 = .ok (.iaload, 1) := by decide +kernel
theorem dX9_plainTerm_43 : decode cX9_plainTerm 43 = .ok (.invokevirtual 139, 3) := by decide +kernel
theorem dX9_plainTerm_46 : decode cX9_plainTerm 46 = .ok (.ireturn, 1) := by decide +kernel
theorem dX9_plainTerm_47 : decode cX9_plainTerm 47 = .ok (.aload_n 0, 1) := by decide +kernel
theorem dX9_plainTerm_48 : decode cX9_plainTerm 48 = .ok (.getfield 57, 3) := by decide +kernel
theorem dX9_plainTerm_51 : decode cX9_plainTerm 51 = .ok (.iload_n 1, 1) := by decide +kernel
theorem dX9_plainTerm_52 : decode cX9_plainTerm 52 = .ok (.iaload, 1) := by decide +kernel
theorem dX9_plainTerm_53 : decode cX9_plainTerm 53 = .ok (.iconst 2, 1) := by decide +kernel
theorem dX9_plainTerm_54 : decode cX9_plainTerm 54 = .ok (.if_icmp .ne 27, 3) := by decide +kernel
theorem dX9_plainTerm_57 : decode cX9_plainTerm 57 = .ok (.aload_n 0, 1) := by decide +kernel
theorem dX9_plainTerm_58 : decode cX9_plainTerm 58 = .ok (.aload_n 0, 1) := by decide +kernel
theorem dX9_plainTerm_59 : decode cX9_plainTerm 59 = .ok (.getfield 39, 3) := by decide +kernel
theorem dX9_plainTerm_62 : decode cX9_plainTerm 62 = .ok (.aload_n 0, 1) := by decide +kernel
theorem dX9_plainTerm_63 : decode cX9_plainTerm 63 = .ok (.getfield 60, 3) := by decide +kernel
theorem dX9_plainTerm_66 : decode cX9_plainTerm 66 = .ok (.iload_n 1, 1) := by decide +kernel
theorem dX9_plainTerm_67 : decode cX9_plainTerm 67 = .ok (.iaload, 1) := by decide +kernel
theorem dX9_plainTerm_68 : decode cX9_plainTerm 68 = .ok (.iaload, 1) := by decide +kernel
theorem dX9_plainTerm_69 : decode cX9_plainTerm 69 = .ok (.aload_n 0, 1) := by decide +kernel
theorem dX9_plainTerm_70 : decode cX9_plainTerm 70 = .ok (.getfield 63, 3) := by decide +kernel
theorem dX9_plainTerm_73 : decode cX9_plainTerm 73 = .ok (.iconst 3, 1) := by decide +kernel
theorem dX9_plainTerm_74 : decode cX9_plainTerm 74 = .ok (.iload_n 1, 1) := by decide +kernel
theorem dX9_plainTerm_75 : decode cX9_plainTerm 75 = .ok (.imul, 1) := by decide +kernel
theorem dX9_plainTerm_76 : decode cX9_plainTerm 76 = .ok (.iaload, 1) := by decide +kernel
theorem dX9_plainTerm_77 : decode cX9_plainTerm 77 = .ok (.invokevirtual 139, 3) := by decide +kernel
theorem dX9_plainTerm_80 : decode cX9_plainTerm 80 = .ok (.ireturn, 1) := by decide +kernel
theorem dX9_plainTerm_81 : decode cX9_plainTerm 81 = .ok (.aload_n 0, 1) := by decide +kernel
theorem dX9_plainTerm_82 : decode cX9_plainTerm 82 = .ok (.getfield 70, 3) := by decide +kernel
theorem dX9_plainTerm_85 : decode cX9_plainTerm 85 = .ok (.bipush 24, 2) := by decide +kernel
theorem dX9_plainTerm_87 : decode cX9_plainTerm 87 = .ok (.aload_n 0, 1) := by decide +kernel
theorem dX9_plainTerm_88 : decode cX9_plainTerm 88 = .ok (.getfield 60, 3) := by decide +kernel
theorem dX9_plainTerm_91 : decode cX9_plainTerm 91 = .ok (.iload_n 1, 1) := by decide +kernel
theorem dX9_plainTerm_92 : decode cX9_plainTerm 92 = .ok (.iaload, 1) := by decide +kernel
theorem dX9_plainTerm_93 : decode cX9_plainTerm 93 = .ok (.iadd, 1) := by decide +kernel
theorem dX9_plainTerm_94 : decode cX9_plainTerm 94 = .ok (.iaload, 1) := by decide +kernel
theorem dX9_plainTerm_95 : decode cX9_plainTerm 95 = .ok (.istore_n 3, 1) := by decide +kernel
theorem dX9_plainTerm_96 : decode cX9_plainTerm 96 = .ok (.iload_n 3, 1) := by decide +kernel
theorem dX9_plainTerm_97 : decode cX9_plainTerm 97 = .ok (.ifCond .lt 17, 3) := by decide +kernel
theorem dX9_plainTerm_100 : decode cX9_plainTerm 100 = .ok (.aload_n 0, 1) := by decide +kernel
theorem dX9_plainTerm_101 : decode cX9_plainTerm 101 = .ok (.iload_n 3, 1) := by decide +kernel
theorem dX9_plainTerm_102 : decode cX9_plainTerm 102 = .ok (.aload_n 0, 1) := by decide +kernel
theorem dX9_plainTerm_103 : decode cX9_plainTerm 103 = .ok (.getfield 63, 3) := by decide +kernel
theorem dX9_plainTerm_106 : decode cX9_plainTerm 106 = .ok (.iconst 3, 1) := by decide +kernel
theorem dX9_plainTerm_107 : decode cX9_plainTerm 107 = .ok (.iload_n 1, 1) := by decide +kernel
theorem dX9_plainTerm_108 : decode cX9_plainTerm 108 = .ok (.imul, 1) := by decide +kernel
theorem dX9_plainTerm_109 : decode cX9_plainTerm 109 = .ok (.iaload, 1) := by decide +kernel
theorem dX9_plainTerm_110 : decode cX9_plainTerm 110 = .ok (.invokevirtual 139, 3) := by decide +kernel
theorem dX9_plainTerm_113 : decode cX9_plainTerm 113 = .ok (.ireturn, 1) := by decide +kernel
theorem dX9_plainTerm_114 : decode cX9_plainTerm 114 = .ok (.aload_n 0, 1) := by decide +kernel
theorem dX9_plainTerm_115 : decode cX9_plainTerm 115 = .ok (.getfield 30, 3) := by decide +kernel
theorem dX9_plainTerm_118 : decode cX9_plainTerm 118 = .ok (.aload_n 0, 1) := by decide +kernel
theorem dX9_plainTerm_119 : decode cX9_plainTerm 119 = .ok (.getfield 60, 3) := by decide +kernel
theorem dX9_plainTerm_122 : decode cX9_plainTerm 122 = .ok (.iload_n 1, 1) := by decide +kernel
theorem dX9_plainTerm_123 : decode cX9_plainTerm 123 = .ok (.iaload, 1) := by decide +kernel
theorem dX9_plainTerm_124 : decode cX9_plainTerm 124 = .ok (.iaload, 1) := by decide +kernel
theorem dX9_plainTerm_125 : decode cX9_plainTerm 125 = .ok (.ifCond .lt 29, 3) := by decide +kernel
theorem dX9_plainTerm_128 : decode cX9_plainTerm 128 = .ok (.aload_n 0, 1) := by decide +kernel
theorem dX9_plainTerm_129 : decode cX9_plainTerm 129 = .ok (.aload_n 0, 1) := by decide +kernel
theorem dX9_plainTerm_130 : decode cX9_plainTerm 130 = .ok (.getfield 30, 3) := by decide +kernel
theorem dX9_plainTerm_133 : decode cX9_plainTerm 133 = .ok (.aload_n 0, 1) := by decide +kernel
theorem dX9_plainTerm_134 : decode cX9_plainTerm 134 = .ok (.getfield 60, 3) := by decide +kernel
theorem dX9_plainTerm_137 : decode cX9_plainTerm 137 = .ok (.iload_n 1, 1) := by decide +kernel
theorem dX9_plainTerm_138 : decode cX9_plainTerm 138 = .ok (.iaload, 1) := by decide +kernel
theorem dX9_plainTerm_139 : decode cX9_plainTerm 139 = .ok (.iaload, 1) := by decide +kernel
theorem dX9_plainTerm_140 : decode cX9_plainTerm 140 = .ok (.aload_n 0, 1) := by decide +kernel
theorem dX9_plainTerm_141 : decode cX9_plainTerm 141 = .ok (.getfield 63, 3) := by decide +kernel
theorem dX9_plainTerm_144 : decode cX9_plainTerm 144 = .ok (.iconst 3, 1) := by decide +kernel
theorem dX9_plainTerm_145 : decode cX9_plainTerm 145 = .ok (.iload_n 1, 1) := by decide +kernel
theorem dX9_plainTerm_146 : decode cX9_plainTerm 146 = .ok (.imul, 1) := by decide +kernel
theorem dX9_plainTerm_147 : decode cX9_plainTerm 147 = .ok (.iconst 1, 1) := by decide +kernel
theorem dX9_plainTerm_148 : decode cX9_plainTerm 148 = .ok (.iadd, 1) := by decide +kernel
theorem dX9_plainTerm_149 : decode cX9_plainTerm 149 = .ok (.iaload, 1) := by decide +kernel
theorem dX9_plainTerm_150 : decode cX9_plainTerm 150 = .ok (.invokevirtual 139, 3) := by decide +kernel
theorem dX9_plainTerm_153 : decode cX9_plainTerm 153 = .ok (.ireturn, 1) := by decide +kernel
theorem dX9_plainTerm_154 : decode cX9_plainTerm 154 = .ok (.aload_n 0, 1) := by decide +kernel
theorem dX9_plainTerm_155 : decode cX9_plainTerm 155 = .ok (.aload_n 0, 1) := by decide +kernel
theorem dX9_plainTerm_156 : decode cX9_plainTerm 156 = .ok (.getfield 48, 3) := by decide +kernel
theorem dX9_plainTerm_159 : decode cX9_plainTerm 159 = .ok (.iload_n 2, 1) := by decide +kernel
theorem dX9_plainTerm_160 : decode cX9_plainTerm 160 = .ok (.iaload, 1) := by decide +kernel
theorem dX9_plainTerm_161 : decode cX9_plainTerm 161 = .ok (.aload_n 0, 1) := by decide +kernel
theorem dX9_plainTerm_162 : decode cX9_plainTerm 162 = .ok (.getfield 63, 3) := by decide +kernel
theorem dX9_plainTerm_165 : decode cX9_plainTerm 165 = .ok (.iconst 3, 1) := by decide +kernel
theorem dX9_plainTerm_166 : decode cX9_plainTerm 166 = .ok (.iload_n 1, 1) := by decide +kernel
theorem dX9_plainTerm_167 : decode cX9_plainTerm 167 = .ok (.imul, 1) := by decide +kernel
theorem dX9_plainTerm_168 : decode cX9_plainTerm 168 = .ok (.iconst 2, 1) := by decide +kernel
theorem dX9_plainTerm_169 : decode cX9_plainTerm 169 = .ok (.iadd, 1) := by decide +kernel
theorem dX9_plainTerm_170 : decode cX9_plainTerm 170 = .ok (.iaload, 1) := by decide +kernel
theorem dX9_plainTerm_171 : decode cX9_plainTerm 171 = .ok (.invokevirtual 139, 3) := by decide +kernel
theorem dX9_plainTerm_174 : decode cX9_plainTerm 174 = .ok (.ireturn, 1) := by decide +kernel
theorem dX9_termOf_0 : decode cX9_termOf 0 = .ok (.aload_n 0, 1) := by decide +kernel
theorem dX9_termOf_1 : decode cX9_termOf 1 = .ok (.iload_n 1, 1) := by decide +kernel
theorem dX9_termOf_2 : decode cX9_termOf 2 = .ok (.iload_n 2, 1) := by decide +kernel
theorem dX9_termOf_3 : decode cX9_termOf 3 = .ok (.invokevirtual 346, 3) := by decide +kernel
theorem dX9_termOf_6 : decode cX9_termOf 6 = .ok (.istore_n 3, 1) := by decide +kernel
theorem dX9_termOf_7 : decode cX9_termOf 7 = .ok (.aload_n 0, 1) := by decide +kernel
theorem dX9_termOf_8 : decode cX9_termOf 8 = .ok (.getfield 66, 3) := by decide +kernel
theorem dX9_termOf_11 : decode cX9_termOf 11 = .ok (.iload_n 1, 1) := by decide +kernel
theorem dX9_termOf_12 : decode cX9_termOf 12 = .ok (.baload, 1) := by decide +kernel
theorem dX9_termOf_13 : decode cX9_termOf 13 = .ok (.ifCond .eq 9, 3) := by decide +kernel
theorem dX9_termOf_16 : decode cX9_termOf 16 = .ok (.aload_n 0, 1) := by decide +kernel
theorem dX9_termOf_17 : decode cX9_termOf 17 = .ok (.iload_n 3, 1) := by decide +kernel
theorem dX9_termOf_18 : decode cX9_termOf 18 = .ok (.invokevirtual 349, 3) := by decide +kernel
theorem dX9_termOf_21 : decode cX9_termOf 21 = .ok (.istore_n 3, 1) := by decide +kernel
theorem dX9_termOf_22 : decode cX9_termOf 22 = .ok (.iconst 0, 1) := by decide +kernel
theorem dX9_termOf_23 : decode cX9_termOf 23 = .ok (.istore 4, 2) := by decide +kernel
theorem dX9_termOf_25 : decode cX9_termOf 25 = .ok (.iload 4, 2) := by decide +kernel
theorem dX9_termOf_27 : decode cX9_termOf 27 = .ok (.aload_n 0, 1) := by decide +kernel
theorem dX9_termOf_28 : decode cX9_termOf 28 = .ok (.getfield 70, 3) := by decide +kernel
theorem dX9_termOf_31 : decode cX9_termOf 31 = .ok (.bipush 44, 2) := by decide +kernel
theorem dX9_termOf_33 : decode cX9_termOf 33 = .ok (.iload_n 1, 1) := by decide +kernel
theorem dX9_termOf_34 : decode cX9_termOf 34 = .ok (.iadd, 1) := by decide +kernel
theorem dX9_termOf_35 : decode cX9_termOf 35 = .ok (.iaload, 1) := by decide +kernel
theorem dX9_termOf_36 : decode cX9_termOf 36 = .ok (.if_icmp .ge 78, 3) := by decide +kernel
theorem dX9_termOf_39 : decode cX9_termOf 39 = .ok (.aload_n 0, 1) := by decide +kernel
theorem dX9_termOf_40 : decode cX9_termOf 40 = .ok (.getfield 70, 3) := by decide +kernel
theorem dX9_termOf_43 : decode cX9_termOf 43 = .ok (.bipush 56, 2) := by decide +kernel
theorem dX9_termOf_45 : decode cX9_termOf 45 = .ok (.bipush 10, 2) := by decide +kernel
theorem dX9_termOf_47 : decode cX9_termOf 47 = .ok (.iload_n 1, 1) := by decide +kernel
theorem dX9_termOf_48 : decode cX9_termOf 48 = .ok (.imul, 1) := by decide +kernel
theorem dX9_termOf_49 : decode cX9_termOf 49 = .ok (.iadd, 1) := by decide +kernel
theorem dX9_termOf_50 : decode cX9_termOf 50 = .ok (.iconst 2, 1) := by decide +kernel
theorem dX9_termOf_51 : decode cX9_termOf 51 = .ok (.iload 4, 2) := by decide +kernel
theorem dX9_termOf_53 : decode cX9_termOf 53 = .ok (.imul, 1) := by decide +kernel
theorem dX9_termOf_54 : decode cX9_termOf 54 = .ok (.iadd, 1) := by decide +kernel
theorem dX9_termOf_55 : decode cX9_termOf 55 = .ok (.iaload, 1) := by decide +kernel
theorem dX9_termOf_56 : decode cX9_termOf 56 = .ok (.istore 5, 2) := by decide +kernel
theorem dX9_termOf_58 : decode cX9_termOf 58 = .ok (.iload_n 3, 1) := by decide +kernel
theorem dX9_termOf_59 : decode cX9_termOf 59 = .ok (.iload 5, 2) := by decide +kernel
theorem dX9_termOf_61 : decode cX9_termOf 61 = .ok (.if_icmp .gt 6, 3) := by decide +kernel
theorem dX9_termOf_64 : decode cX9_termOf 64 = .ok (.goto 44, 3) := by decide +kernel
theorem dX9_termOf_67 : decode cX9_termOf 67 = .ok (.aload_n 0, 1) := by decide +kernel
theorem dX9_termOf_68 : decode cX9_termOf 68 = .ok (.iload_n 3, 1) := by decide +kernel
theorem dX9_termOf_69 : decode cX9_termOf 69 = .ok (.aload_n 0, 1) := by decide +kernel
theorem dX9_termOf_70 : decode cX9_termOf 70 = .ok (.getfield 70, 3) := by decide +kernel
theorem dX9_termOf_73 : decode cX9_termOf 73 = .ok (.bipush 56, 2) := by decide +kernel
theorem dX9_termOf_75 : decode cX9_termOf 75 = .ok (.bipush 10, 2) := by decide +kernel
theorem dX9_termOf_77 : decode cX9_termOf 77 = .ok (.iload_n 1, 1) := by decide +kernel
theorem dX9_termOf_78 : decode cX9_termOf 78 = .ok (.imul, 1) := by decide +kernel
theorem dX9_termOf_79 : decode cX9_termOf 79 = .ok (.iadd, 1) := by decide +kernel
theorem dX9_termOf_80 : decode cX9_termOf 80 = .ok (.iconst 2, 1) := by decide +kernel
theorem dX9_termOf_81 : decode cX9_termOf 81 = .ok (.iload 4, 2) := by decide +kernel
theorem dX9_termOf_83 : decode cX9_termOf 83 = .ok (.imul, 1) := by decide +kernel
theorem dX9_termOf_84 : decode cX9_termOf 84 = .ok (.iadd, 1) := by decide +kernel
theorem dX9_termOf_85 : decode cX9_termOf 85 = .ok (.iconst 1, 1) := by decide +kernel
theorem dX9_termOf_86 : decode cX9_termOf 86 = .ok (.iadd, 1) := by decide +kernel
theorem dX9_termOf_87 : decode cX9_termOf 87 = .ok (.iaload, 1) := by decide +kernel
theorem dX9_termOf_88 : decode cX9_termOf 88 = .ok (.invokevirtual 139, 3) := by decide +kernel
theorem dX9_termOf_91 : decode cX9_termOf 91 = .ok (.istore 6, 2) := by decide +kernel
theorem dX9_termOf_93 : decode cX9_termOf 93 = .ok (.iload 6, 2) := by decide +kernel
theorem dX9_termOf_95 : decode cX9_termOf 95 = .ok (.iload 5, 2) := by decide +kernel
theorem dX9_termOf_97 : decode cX9_termOf 97 = .ok (.if_icmp .ge 8, 3) := by decide +kernel
theorem dX9_termOf_100 : decode cX9_termOf 100 = .ok (.iload 5, 2) := by decide +kernel
theorem dX9_termOf_102 : decode cX9_termOf 102 = .ok (.goto 5, 3) := by decide +kernel
theorem dX9_termOf_105 : decode cX9_termOf 105 = .ok (.iload 6, 2) := by decide +kernel
theorem dX9_termOf_107 : decode cX9_termOf 107 = .ok (.istore_n 3, 1) := by decide +kernel
theorem dX9_termOf_108 : decode cX9_termOf 108 = .ok (.iinc 4 1, 3) := by decide +kernel
theorem dX9_termOf_111 : decode cX9_termOf 111 = .ok (.goto (-86), 3) := by decide +kernel
theorem dX9_termOf_114 : decode cX9_termOf 114 = .ok (.aload_n 0, 1) := by decide +kernel
theorem dX9_termOf_115 : decode cX9_termOf 115 = .ok (.getfield 70, 3) := by decide +kernel
theorem dX9_termOf_118 : decode cX9_termOf 118 = .ok (.bipush 32, 2) := by decide +kernel
theorem dX9_termOf_120 : decode cX9_termOf 120 = .ok (.iload_n 1, 1) := by decide +kernel
theorem dX9_termOf_121 : decode cX9_termOf 121 = .ok (.iadd, 1) := by decide +kernel
theorem dX9_termOf_122 : decode cX9_termOf 122 = .ok (.iaload, 1) := by decide +kernel
theorem dX9_termOf_123 : decode cX9_termOf 123 = .ok (.istore 4, 2) := by decide +kernel
theorem dX9_termOf_125 : decode cX9_termOf 125 = .ok (.iload 4, 2) := by decide +kernel
theorem dX9_termOf_127 : decode cX9_termOf 127 = .ok (.ifCond .lt 14, 3) := by decide +kernel
theorem dX9_termOf_130 : decode cX9_termOf 130 = .ok (.iload 4, 2) := by decide +kernel
theorem dX9_termOf_132 : decode cX9_termOf 132 = .ok (.iload_n 3, 1) := by decide +kernel
theorem dX9_termOf_133 : decode cX9_termOf 133 = .ok (.if_icmp .ge 8, 3) := by decide +kernel
theorem dX9_termOf_136 : decode cX9_termOf 136 = .ok (.iload 4, 2) := by decide +kernel
theorem dX9_termOf_138 : decode cX9_termOf 138 = .ok (.goto 4, 3) := by decide +kernel
theorem dX9_termOf_141 : decode cX9_termOf 141 = .ok (.iload_n 3, 1) := by decide +kernel
theorem dX9_termOf_142 : decode cX9_termOf 142 = .ok (.ireturn, 1) := by decide +kernel
theorem dX9_endsOf_0 : decode cX9_endsOf 0 = .ok (.iconst (-1), 1) := by decide +kernel
theorem dX9_endsOf_1 : decode cX9_endsOf 1 = .ok (.istore_n 3, 1) := by decide +kernel
theorem dX9_endsOf_2 : decode cX9_endsOf 2 = .ok (.iload_n 2, 1) := by decide +kernel
theorem dX9_endsOf_3 : decode cX9_endsOf 3 = .ok (.istore 4, 2) := by decide +kernel
theorem dX9_endsOf_5 : decode cX9_endsOf 5 = .ok (.iload 4, 2) := by decide +kernel
theorem dX9_endsOf_7 : decode cX9_endsOf 7 = .ok (.iconst (-1), 1) := by decide +kernel
theorem dX9_endsOf_8 : decode cX9_endsOf 8 = .ok (.if_icmp .eq 50, 3) := by decide +kernel
theorem dX9_endsOf_11 : decode cX9_endsOf 11 = .ok (.aload_n 0, 1) := by decide +kernel
theorem dX9_endsOf_12 : decode cX9_endsOf 12 = .ok (.iload_n 1, 1) := by decide +kernel
theorem dX9_endsOf_13 : decode cX9_endsOf 13 = .ok (.iload 4, 2) := by decide +kernel
theorem dX9_endsOf_15 : decode cX9_endsOf 15 = .ok (.invokevirtual 316, 3) := by decide +kernel
theorem dX9_endsOf_18 : decode cX9_endsOf 18 = .ok (.ifCond .ne 6, 3) := by decide +kernel
theorem dX9_endsOf_21 : decode cX9_endsOf 21 = .ok (.goto 25, 3) := by decide +kernel
theorem dX9_endsOf_24 : decode cX9_endsOf 24 = .ok (.aload_n 0, 1) := by decide +kernel
theorem dX9_endsOf_25 : decode cX9_endsOf 25 = .ok (.iload_n 1, 1) := by decide +kernel
theorem dX9_endsOf_26 : decode cX9_endsOf 26 = .ok (.iload 4, 2) := by decide +kernel
theorem dX9_endsOf_28 : decode cX9_endsOf 28 = .ok (.invokevirtual 352, 3) := by decide +kernel
theorem dX9_endsOf_31 : decode cX9_endsOf 31 = .ok (.istore 5, 2) := by decide +kernel
theorem dX9_endsOf_33 : decode cX9_endsOf 33 = .ok (.iload 5, 2) := by decide +kernel
theorem dX9_endsOf_35 : decode cX9_endsOf 35 = .ok (.iload_n 3, 1) := by decide +kernel
theorem dX9_endsOf_36 : decode cX9_endsOf 36 = .ok (.if_icmp .le 8, 3) := by decide +kernel
theorem dX9_endsOf_39 : decode cX9_endsOf 39 = .ok (.iload 5, 2) := by decide +kernel
theorem dX9_endsOf_41 : decode cX9_endsOf 41 = .ok (.goto 4, 3) := by decide +kernel
theorem dX9_endsOf_44 : decode cX9_endsOf 44 = .ok (.iload_n 3, 1) := by decide +kernel
theorem dX9_endsOf_45 : decode cX9_endsOf 45 = .ok (.istore_n 3, 1) := by decide +kernel
theorem dX9_endsOf_46 : decode cX9_endsOf 46 = .ok (.aload_n 0, 1) := by decide +kernel
theorem dX9_endsOf_47 : decode cX9_endsOf 47 = .ok (.getfield 70, 3) := by decide +kernel
theorem dX9_endsOf_50 : decode cX9_endsOf 50 = .ok (.iload 4, 2) := by decide +kernel
theorem dX9_endsOf_52 : decode cX9_endsOf 52 = .ok (.iaload, 1) := by decide +kernel
theorem dX9_endsOf_53 : decode cX9_endsOf 53 = .ok (.istore 4, 2) := by decide +kernel
theorem dX9_endsOf_55 : decode cX9_endsOf 55 = .ok (.goto (-50), 3) := by decide +kernel
theorem dX9_endsOf_58 : decode cX9_endsOf 58 = .ok (.iload_n 3, 1) := by decide +kernel
theorem dX9_endsOf_59 : decode cX9_endsOf 59 = .ok (.ireturn, 1) := by decide +kernel
theorem dX9_laysEnds_0 : decode cX9_laysEnds 0 = .ok (.iconst 0, 1) := by decide +kernel
theorem dX9_laysEnds_1 : decode cX9_laysEnds 1 = .ok (.istore_n 1, 1) := by decide +kernel
theorem dX9_laysEnds_2 : decode cX9_laysEnds 2 = .ok (.iload_n 1, 1) := by decide +kernel
theorem dX9_laysEnds_3 : decode cX9_laysEnds 3 = .ok (.aload_n 0, 1) := by decide +kernel
theorem dX9_laysEnds_4 : decode cX9_laysEnds 4 = .ok (.getfield 23, 3) := by decide +kernel
theorem dX9_laysEnds_7 : decode cX9_laysEnds 7 = .ok (.iconst 0, 1) := by decide +kernel
theorem dX9_laysEnds_8 : decode cX9_laysEnds 8 = .ok (.iaload, 1) := by decide +kernel
theorem dX9_laysEnds_9 : decode cX9_laysEnds 9 = .ok (.if_icmp .ge 44, 3) := by decide +kernel
theorem dX9_laysEnds_12 : decode cX9_laysEnds 12 = .ok (.iconst 0, 1) := by decide +kernel
theorem dX9_laysEnds_13 : decode cX9_laysEnds 13 = .ok (.istore_n 2, 1) := by decide +kernel
theorem dX9_laysEnds_14 : decode cX9_laysEnds 14 = .ok (.iload_n 2, 1) := by decide +kernel
theorem dX9_laysEnds_15 : decode cX9_laysEnds 15 = .ok (.aload_n 0, 1) := by decide +kernel
theorem dX9_laysEnds_16 : decode cX9_laysEnds 16 = .ok (.getfield 20, 3) := by decide +kernel
theorem dX9_laysEnds_19 : decode cX9_laysEnds 19 = .ok (.iconst 0, 1) := by decide +kernel
theorem dX9_laysEnds_20 : decode cX9_laysEnds 20 = .ok (.iaload, 1) := by decide +kernel
theorem dX9_laysEnds_21 : decode cX9_laysEnds 21 = .ok (.if_icmp .ge 26, 3) := by decide +kernel
theorem dX9_laysEnds_24 : decode cX9_laysEnds 24 = .ok (.aload_n 0, 1) := by decide +kernel
theorem dX9_laysEnds_25 : decode cX9_laysEnds 25 = .ok (.getfield 82, 3) := by decide +kernel
theorem dX9_laysEnds_28 : decode cX9_laysEnds 28 = .ok (.bipush 24, 2) := by decide +kernel
theorem dX9_laysEnds_30 : decode cX9_laysEnds 30 = .ok (.iload_n 1, 1) := by decide +kernel
theorem dX9_laysEnds_31 : decode cX9_laysEnds 31 = .ok (.imul, 1) := by decide +kernel
theorem dX9_laysEnds_32 : decode cX9_laysEnds 32 = .ok (.iload_n 2, 1) := by decide +kernel
theorem dX9_laysEnds_33 : decode cX9_laysEnds 33 = .ok (.iadd, 1) := by decide +kernel
theorem dX9_laysEnds_34 : decode cX9_laysEnds 34 = .ok (.aload_n 0, 1) := by decide +kernel
theorem dX9_laysEnds_35 : decode cX9_laysEnds 35 = .ok (.iload_n 1, 1) := by decide +kernel
theorem dX9_laysEnds_36 : decode cX9_laysEnds 36 = .ok (.iload_n 2, 1) := by decide +kernel
theorem dX9_laysEnds_37 : decode cX9_laysEnds 37 = .ok (.invokevirtual 319, 3) := by decide +kernel
theorem dX9_laysEnds_40 : decode cX9_laysEnds 40 = .ok (.iastore, 1) := by decide +kernel
theorem dX9_laysEnds_41 : decode cX9_laysEnds 41 = .ok (.iinc 2 1, 3) := by decide +kernel
theorem dX9_laysEnds_44 : decode cX9_laysEnds 44 = .ok (.goto (-30), 3) := by decide +kernel
theorem dX9_laysEnds_47 : decode cX9_laysEnds 47 = .ok (.iinc 1 1, 3) := by decide +kernel
theorem dX9_laysEnds_50 : decode cX9_laysEnds 50 = .ok (.goto (-48), 3) := by decide +kernel
theorem dX9_laysEnds_53 : decode cX9_laysEnds 53 = .ok (.return_, 1) := by decide +kernel
theorem dX9_holds_0 : decode cX9_holds 0 = .ok (.iload_n 2, 1) := by decide +kernel
theorem dX9_holds_1 : decode cX9_holds 1 = .ok (.aload_n 0, 1) := by decide +kernel
theorem dX9_holds_2 : decode cX9_holds 2 = .ok (.getfield 57, 3) := by decide +kernel
theorem dX9_holds_5 : decode cX9_holds 5 = .ok (.iload_n 1, 1) := by decide +kernel
theorem dX9_holds_6 : decode cX9_holds 6 = .ok (.iaload, 1) := by decide +kernel
theorem dX9_holds_7 : decode cX9_holds 7 = .ok (.ishr, 1) := by decide +kernel
theorem dX9_holds_8 : decode cX9_holds 8 = .ok (.iconst 1, 1) := by decide +kernel
theorem dX9_holds_9 : decode cX9_holds 9 = .ok (.iand, 1) := by decide +kernel
theorem dX9_holds_10 : decode cX9_holds 10 = .ok (.ifCond .ne 15, 3) := by decide +kernel
theorem dX9_holds_13 : decode cX9_holds 13 = .ok (.iload_n 3, 1) := by decide +kernel
theorem dX9_holds_14 : decode cX9_holds 14 = .ok (.iload_n 1, 1) := by decide +kernel
theorem dX9_holds_15 : decode cX9_holds 15 = .ok (.ishr, 1) := by decide +kernel
theorem dX9_holds_16 : decode cX9_holds 16 = .ok (.iconst 1, 1) := by decide +kernel
theorem dX9_holds_17 : decode cX9_holds 17 = .ok (.iand, 1) := by decide +kernel
theorem dX9_holds_18 : decode cX9_holds 18 = .ok (.ifCond .ne 7, 3) := by decide +kernel
theorem dX9_holds_21 : decode cX9_holds 21 = .ok (.iconst 1, 1) := by decide +kernel
theorem dX9_holds_22 : decode cX9_holds 22 = .ok (.goto 4, 3) := by decide +kernel
theorem dX9_holds_25 : decode cX9_holds 25 = .ok (.iconst 0, 1) := by decide +kernel
theorem dX9_holds_26 : decode cX9_holds 26 = .ok (.ireturn, 1) := by decide +kernel
theorem dX9_opensOf_0 : decode cX9_opensOf 0 = .ok (.iconst 0, 1) := by decide +kernel
theorem dX9_opensOf_1 : decode cX9_opensOf 1 = .ok (.istore 4, 2) := by decide +kernel
theorem dX9_opensOf_3 : decode cX9_opensOf 3 = .ok (.iconst 0, 1) := by decide +kernel
theorem dX9_opensOf_4 : decode cX9_opensOf 4 = .ok (.istore 5, 2) := by decide +kernel
theorem dX9_opensOf_6 : decode cX9_opensOf 6 = .ok (.iload 5, 2) := by decide +kernel
theorem dX9_opensOf_8 : decode cX9_opensOf 8 = .ok (.aload_n 0, 1) := by decide +kernel
theorem dX9_opensOf_9 : decode cX9_opensOf 9 = .ok (.getfield 23, 3) := by decide +kernel
theorem dX9_opensOf_12 : decode cX9_opensOf 12 = .ok (.iconst 0, 1) := by decide +kernel
theorem dX9_opensOf_13 : decode cX9_opensOf 13 = .ok (.iaload, 1) := by decide +kernel
theorem dX9_opensOf_14 : decode cX9_opensOf 14 = .ok (.if_icmp .ge 53, 3) := by decide +kernel
theorem dX9_opensOf_17 : decode cX9_opensOf 17 = .ok (.aload_n 0, 1) := by decide +kernel
theorem dX9_opensOf_18 : decode cX9_opensOf 18 = .ok (.iload 5, 2) := by decide +kernel
theorem dX9_opensOf_20 : decode cX9_opensOf 20 = .ok (.iload_n 2, 1) := by decide +kernel
theorem dX9_opensOf_21 : decode cX9_opensOf 21 = .ok (.iload_n 3, 1) := by decide +kernel
theorem dX9_opensOf_22 : decode cX9_opensOf 22 = .ok (.invokevirtual 355, 3) := by decide +kernel
theorem dX9_opensOf_25 : decode cX9_opensOf 25 = .ok (.ifCond .ne 6, 3) := by decide +kernel
theorem dX9_opensOf_28 : decode cX9_opensOf 28 = .ok (.goto 33, 3) := by decide +kernel
theorem dX9_opensOf_31 : decode cX9_opensOf 31 = .ok (.aload_n 0, 1) := by decide +kernel
theorem dX9_opensOf_32 : decode cX9_opensOf 32 = .ok (.getfield 82, 3) := by decide +kernel
theorem dX9_opensOf_35 : decode cX9_opensOf 35 = .ok (.bipush 24, 2) := by decide +kernel
theorem dX9_opensOf_37 : decode cX9_opensOf 37 = .ok (.iload 5, 2) := by decide +kernel
theorem dX9_opensOf_39 : decode cX9_opensOf 39 = .ok (.imul, 1) := by decide +kernel
theorem dX9_opensOf_40 : decode cX9_opensOf 40 = .ok (.iload_n 1, 1) := by decide +kernel
theorem dX9_opensOf_41 : decode cX9_opensOf 41 = .ok (.iadd, 1) := by decide +kernel
theorem dX9_opensOf_42 : decode cX9_opensOf 42 = .ok (.iaload, 1) := by decide +kernel
theorem dX9_opensOf_43 : decode cX9_opensOf 43 = .ok (.istore 6, 2) := by decide +kernel
theorem dX9_opensOf_45 : decode cX9_opensOf 45 = .ok (.iload 6, 2) := by decide +kernel
theorem dX9_opensOf_47 : decode cX9_opensOf 47 = .ok (.iload 4, 2) := by decide +kernel
theorem dX9_opensOf_49 : decode cX9_opensOf 49 = .ok (.if_icmp .le 8, 3) := by decide +kernel
theorem dX9_opensOf_52 : decode cX9_opensOf 52 = .ok (.iload 6, 2) := by decide +kernel
theorem dX9_opensOf_54 : decode cX9_opensOf 54 = .ok (.goto 5, 3) := by decide +kernel
theorem dX9_opensOf_57 : decode cX9_opensOf 57 = .ok (.iload 4, 2) := by decide +kernel
theorem dX9_opensOf_59 : decode cX9_opensOf 59 = .ok (.istore 4, 2) := by decide +kernel
theorem dX9_opensOf_61 : decode cX9_opensOf 61 = .ok (.iinc 5 1, 3) := by decide +kernel
theorem dX9_opensOf_64 : decode cX9_opensOf 64 = .ok (.goto (-58), 3) := by decide +kernel
theorem dX9_opensOf_67 : decode cX9_opensOf 67 = .ok (.iload 4, 2) := by decide +kernel
theorem dX9_opensOf_69 : decode cX9_opensOf 69 = .ok (.ireturn, 1) := by decide +kernel
theorem dX9_areReaders_0 : decode cX9_areReaders 0 = .ok (.iload_n 0, 1) := by decide +kernel
theorem dX9_areReaders_1 : decode cX9_areReaders 1 = .ok (.i2l, 1) := by decide +kernel
theorem dX9_areReaders_2 : decode cX9_areReaders 2 = .ok (.lconst 0, 1) := by decide +kernel
theorem dX9_areReaders_3 : decode cX9_areReaders 3 = .ok (.ldc2_w 359, 3) := by decide +kernel
theorem dX9_areReaders_6 : decode cX9_areReaders 6 = .ok (.invokestatic 123, 3) := by decide +kernel
theorem dX9_areReaders_9 : decode cX9_areReaders 9 = .ok (.ireturn, 1) := by decide +kernel
theorem dX9_openOn_0 : decode cX9_openOn 0 = .ok (.iconst 0, 1) := by decide +kernel
theorem dX9_openOn_1 : decode cX9_openOn 1 = .ok (.istore 4, 2) := by decide +kernel
theorem dX9_openOn_3 : decode cX9_openOn 3 = .ok (.iconst 0, 1) := by decide +kernel
theorem dX9_openOn_4 : decode cX9_openOn 4 = .ok (.istore 5, 2) := by decide +kernel
theorem dX9_openOn_6 : decode cX9_openOn 6 = .ok (.iload 5, 2) := by decide +kernel
theorem dX9_openOn_8 : decode cX9_openOn 8 = .ok (.aload_n 0, 1) := by decide +kernel
theorem dX9_openOn_9 : decode cX9_openOn 9 = .ok (.getfield 20, 3) := by decide +kernel
theorem dX9_openOn_12 : decode cX9_openOn 12 = .ok (.iconst 0, 1) := by decide +kernel
theorem dX9_openOn_13 : decode cX9_openOn 13 = .ok (.iaload, 1) := by decide +kernel
theorem dX9_openOn_14 : decode cX9_openOn 14 = .ok (.if_icmp .ge 34, 3) := by decide +kernel
theorem dX9_openOn_17 : decode cX9_openOn 17 = .ok (.iload 4, 2) := by decide +kernel
theorem dX9_openOn_19 : decode cX9_openOn 19 = .ok (.aload_n 0, 1) := by decide +kernel
theorem dX9_openOn_20 : decode cX9_openOn 20 = .ok (.iload 5, 2) := by decide +kernel
theorem dX9_openOn_22 : decode cX9_openOn 22 = .ok (.iload_n 2, 1) := by decide +kernel
theorem dX9_openOn_23 : decode cX9_openOn 23 = .ok (.iload_n 3, 1) := by decide +kernel
theorem dX9_openOn_24 : decode cX9_openOn 24 = .ok (.invokevirtual 367, 3) := by decide +kernel
theorem dX9_openOn_27 : decode cX9_openOn 27 = .ok (.iload_n 1, 1) := by decide +kernel
theorem dX9_openOn_28 : decode cX9_openOn 28 = .ok (.if_icmp .gt 10, 3) := by decide +kernel
theorem dX9_openOn_31 : decode cX9_openOn 31 = .ok (.iconst 1, 1) := by decide +kernel
theorem dX9_openOn_32 : decode cX9_openOn 32 = .ok (.iload 5, 2) := by decide +kernel
theorem dX9_openOn_34 : decode cX9_openOn 34 = .ok (.ishl, 1) := by decide +kernel
theorem dX9_openOn_35 : decode cX9_openOn 35 = .ok (.goto 4, 3) := by decide +kernel
theorem dX9_openOn_38 : decode cX9_openOn 38 = .ok (.iconst 0, 1) := by decide +kernel
theorem dX9_openOn_39 : decode cX9_openOn 39 = .ok (.ior, 1) := by decide +kernel
theorem dX9_openOn_40 : decode cX9_openOn 40 = .ok (.istore 4, 2) := by decide +kernel
theorem dX9_openOn_42 : decode cX9_openOn 42 = .ok (.iinc 5 1, 3) := by decide +kernel
theorem dX9_openOn_45 : decode cX9_openOn 45 = .ok (.goto (-39), 3) := by decide +kernel
theorem dX9_openOn_48 : decode cX9_openOn 48 = .ok (.iload 4, 2) := by decide +kernel
theorem dX9_openOn_50 : decode cX9_openOn 50 = .ok (.ireturn, 1) := by decide +kernel
theorem dX9_isAsked_0 : decode cX9_isAsked 0 = .ok (.iload_n 0, 1) := by decide +kernel
theorem dX9_isAsked_1 : decode cX9_isAsked 1 = .ok (.i2l, 1) := by decide +kernel
theorem dX9_isAsked_2 : decode cX9_isAsked 2 = .ok (.lconst 0, 1) := by decide +kernel
theorem dX9_isAsked_3 : decode cX9_isAsked 3 = .ok (.ldc2_w 133, 3) := by decide +kernel
theorem dX9_isAsked_6 : decode cX9_isAsked 6 = .ok (.invokestatic 123, 3) := by decide +kernel
theorem dX9_isAsked_9 : decode cX9_isAsked 9 = .ok (.ifCond .eq 14, 3) := by decide +kernel
theorem dX9_isAsked_12 : decode cX9_isAsked 12 = .ok (.iload_n 1, 1) := by decide +kernel
theorem dX9_isAsked_13 : decode cX9_isAsked 13 = .ok (.invokestatic 364, 3) := by decide +kernel
theorem dX9_isAsked_16 : decode cX9_isAsked 16 = .ok (.ifCond .eq 7, 3) := by decide +kernel
theorem dX9_isAsked_19 : decode cX9_isAsked 19 = .ok (.iconst 1, 1) := by decide +kernel
theorem dX9_isAsked_20 : decode cX9_isAsked 20 = .ok (.goto 4, 3) := by decide +kernel
theorem dX9_isAsked_23 : decode cX9_isAsked 23 = .ok (.iconst 0, 1) := by decide +kernel
theorem dX9_isAsked_24 : decode cX9_isAsked 24 = .ok (.ireturn, 1) := by decide +kernel
theorem dX9_isAhead_0 : decode cX9_isAhead 0 = .ok (.aload_n 0, 1) := by decide +kernel
theorem dX9_isAhead_1 : decode cX9_isAhead 1 = .ok (.iload_n 1, 1) := by decide +kernel
theorem dX9_isAhead_2 : decode cX9_isAhead 2 = .ok (.iload_n 3, 1) := by decide +kernel
theorem dX9_isAhead_3 : decode cX9_isAhead 3 = .ok (.iconst 0, 1) := by decide +kernel
theorem dX9_isAhead_4 : decode cX9_isAhead 4 = .ok (.invokevirtual 367, 3) := by decide +kernel
theorem dX9_isAhead_7 : decode cX9_isAhead 7 = .ok (.istore 4, 2) := by decide +kernel
theorem dX9_isAhead_9 : decode cX9_isAhead 9 = .ok (.aload_n 0, 1) := by decide +kernel
theorem dX9_isAhead_10 : decode cX9_isAhead 10 = .ok (.iload_n 2, 1) := by decide +kernel
theorem dX9_isAhead_11 : decode cX9_isAhead 11 = .ok (.iload_n 3, 1) := by decide +kernel
theorem dX9_isAhead_12 : decode cX9_isAhead 12 = .ok (.iconst 0, 1) := by decide +kernel
theorem dX9_isAhead_13 : decode cX9_isAhead 13 = .ok (.invokevirtual 367, 3) := by decide +kernel
theorem dX9_isAhead_16 : decode cX9_isAhead 16 = .ok (.istore 5, 2) := by decide +kernel
theorem dX9_isAhead_18 : decode cX9_isAhead 18 = .ok (.iload 4, 2) := by decide +kernel
theorem dX9_isAhead_20 : decode cX9_isAhead 20 = .ok (.iload 5, 2) := by decide +kernel
theorem dX9_isAhead_22 : decode cX9_isAhead 22 = .ok (.if_icmp .eq 16, 3) := by decide +kernel
theorem dX9_isAhead_25 : decode cX9_isAhead 25 = .ok (.iload 4, 2) := by decide +kernel
theorem dX9_isAhead_27 : decode cX9_isAhead 27 = .ok (.iload 5, 2) := by decide +kernel
theorem dX9_isAhead_29 : decode cX9_isAhead 29 = .ok (.if_icmp .ge 7, 3) := by decide +kernel
theorem dX9_isAhead_32 : decode cX9_isAhead 32 = .ok (.iconst 1, 1) := by decide +kernel
theorem dX9_isAhead_33 : decode cX9_isAhead 33 = .ok (.goto 4, 3) := by decide +kernel
theorem dX9_isAhead_36 : decode cX9_isAhead 36 = .ok (.iconst 0, 1) := by decide +kernel
theorem dX9_isAhead_37 : decode cX9_isAhead 37 = .ok (.ireturn, 1) := by decide +kernel
theorem dX9_isAhead_38 : decode cX9_isAhead 38 = .ok (.aload_n 0, 1) := by decide +kernel
theorem dX9_isAhead_39 : decode cX9_isAhead 39 = .ok (.iload_n 1, 1) := by decide +kernel
theorem dX9_isAhead_40 : decode cX9_isAhead 40 = .ok (.invokevirtual 328, 3) := by decide +kernel
theorem dX9_isAhead_43 : decode cX9_isAhead 43 = .ok (.aload_n 0, 1) := by decide +kernel
theorem dX9_isAhead_44 : decode cX9_isAhead 44 = .ok (.iload_n 2, 1) := by decide +kernel
theorem dX9_isAhead_45 : decode cX9_isAhead 45 = .ok (.invokevirtual 328, 3) := by decide +kernel
theorem dX9_isAhead_48 : decode cX9_isAhead 48 = .ok (.if_icmp .eq 24, 3) := by decide +kernel
theorem dX9_isAhead_51 : decode cX9_isAhead 51 = .ok (.aload_n 0, 1) := by decide +kernel
theorem dX9_isAhead_52 : decode cX9_isAhead 52 = .ok (.iload_n 1, 1) := by decide +kernel
theorem dX9_isAhead_53 : decode cX9_isAhead 53 = .ok (.invokevirtual 328, 3) := by decide +kernel
theorem dX9_isAhead_56 : decode cX9_isAhead 56 = .ok (.aload_n 0, 1) := by decide +kernel
theorem dX9_isAhead_57 : decode cX9_isAhead 57 = .ok (.iload_n 2, 1) := by decide +kernel
theorem dX9_isAhead_58 : decode cX9_isAhead 58 = .ok (.invokevirtual 328, 3) := by decide +kernel
theorem dX9_isAhead_61 : decode cX9_isAhead 61 = .ok (.if_icmp .le 7, 3) := by decide +kernel
theorem dX9_isAhead_64 : decode cX9_isAhead 64 = .ok (.iconst 1, 1) := by decide +kernel
theorem dX9_isAhead_65 : decode cX9_isAhead 65 = .ok (.goto 17, 3) := by decide +kernel
theorem dX9_isAhead_68 : decode cX9_isAhead 68 = .ok (.iconst 0, 1) := by decide +kernel
theorem dX9_isAhead_69 : decode cX9_isAhead 69 = .ok (.goto 13, 3) := by decide +kernel
theorem dX9_isAhead_72 : decode cX9_isAhead 72 = .ok (.iload_n 1, 1) := by decide +kernel
theorem dX9_isAhead_73 : decode cX9_isAhead 73 = .ok (.iload_n 2, 1) := by decide +kernel
theorem dX9_isAhead_74 : decode cX9_isAhead 74 = .ok (.if_icmp .ge 7, 3) := by decide +kernel
theorem dX9_isAhead_77 : decode cX9_isAhead 77 = .ok (.iconst 1, 1) := by decide +kernel
theorem dX9_isAhead_78 : decode cX9_isAhead 78 = .ok (.goto 4, 3) := by decide +kernel
theorem dX9_isAhead_81 : decode cX9_isAhead 81 = .ok (.iconst 0, 1) := by decide +kernel
theorem dX9_isAhead_82 : decode cX9_isAhead 82 = .ok (.ireturn, 1) := by decide +kernel
theorem dX9_count1_0 : decode cX9_count1 0 = .ok (.iconst 0, 1) := by decide +kernel
theorem dX9_count1_1 : decode cX9_count1 1 = .ok (.istore_n 1, 1) := by decide +kernel
theorem dX9_count1_2 : decode cX9_count1 2 = .ok (.iload_n 0, 1) := by decide +kernel
theorem dX9_count1_3 : decode cX9_count1 3 = .ok (.istore_n 2, 1) := by decide +kernel
theorem dX9_count1_4 : decode cX9_count1 4 = .ok (.iload_n 2, 1) := by decide +kernel
theorem dX9_count1_5 : decode cX9_count1 5 = .ok (.ifCond .eq 15, 3) := by decide +kernel
theorem dX9_count1_8 : decode cX9_count1 8 = .ok (.iinc 1 1, 3) := by decide +kernel
theorem dX9_count1_11 : decode cX9_count1 11 = .ok (.iload_n 2, 1) := by decide +kernel
theorem dX9_count1_12 : decode cX9_count1 12 = .ok (.iload_n 2, 1) := by decide +kernel
theorem dX9_count1_13 : decode cX9_count1 13 = .ok (.iconst 1, 1) := by decide +kernel
theorem dX9_count1_14 : decode cX9_count1 14 = .ok (.isub, 1) := by decide +kernel
theorem dX9_count1_15 : decode cX9_count1 15 = .ok (.iand, 1) := by decide +kernel
theorem dX9_count1_16 : decode cX9_count1 16 = .ok (.istore_n 2, 1) := by decide +kernel
theorem dX9_count1_17 : decode cX9_count1 17 = .ok (.goto (-13), 3) := by decide +kernel
theorem dX9_count1_20 : decode cX9_count1 20 = .ok (.iload_n 1, 1) := by decide +kernel
theorem dX9_count1_21 : decode cX9_count1 21 = .ok (.ireturn, 1) := by decide +kernel
theorem dX9_keeps_0 : decode cX9_keeps 0 = .ok (.aload_n 0, 1) := by decide +kernel
theorem dX9_keeps_1 : decode cX9_keeps 1 = .ok (.getfield 310, 3) := by decide +kernel
theorem dX9_keeps_4 : decode cX9_keeps 4 = .ok (.bipush 12, 2) := by decide +kernel
theorem dX9_keeps_6 : decode cX9_keeps 6 = .ok (.if_icmp .ne 44, 3) := by decide +kernel
theorem dX9_keeps_9 : decode cX9_keeps 9 = .ok (.iconst 0, 1) := by decide +kernel
theorem dX9_keeps_10 : decode cX9_keeps 10 = .ok (.istore_n 1, 1) := by decide +kernel
theorem dX9_keeps_11 : decode cX9_keeps 11 = .ok (.iload_n 1, 1) := by decide +kernel
theorem dX9_keeps_12 : decode cX9_keeps 12 = .ok (.sipush 1936, 3) := by decide +kernel
theorem dX9_keeps_15 : decode cX9_keeps 15 = .ok (.if_icmp .ge 25, 3) := by decide +kernel
theorem dX9_keeps_18 : decode cX9_keeps 18 = .ok (.aload_n 0, 1) := by decide +kernel
theorem dX9_keeps_19 : decode cX9_keeps 19 = .ok (.getfield 73, 3) := by decide +kernel
theorem dX9_keeps_22 : decode cX9_keeps 22 = .ok (.iload_n 1, 1) := by decide +kernel
theorem dX9_keeps_23 : decode cX9_keeps 23 = .ok (.aload_n 0, 1) := by decide +kernel
theorem dX9_keeps_24 : decode cX9_keeps 24 = .ok (.getfield 73, 3) := by decide +kernel
theorem dX9_keeps_27 : decode cX9_keeps 27 = .ok (.iload_n 1, 1) := by decide +kernel
theorem dX9_keeps_28 : decode cX9_keeps 28 = .ok (.sipush 176, 3) := by decide +kernel
theorem dX9_keeps_31 : decode cX9_keeps 31 = .ok (.iadd, 1) := by decide +kernel
theorem dX9_keeps_32 : decode cX9_keeps 32 = .ok (.iaload, 1) := by decide +kernel
theorem dX9_keeps_33 : decode cX9_keeps 33 = .ok (.iastore, 1) := by decide +kernel
theorem dX9_keeps_34 : decode cX9_keeps 34 = .ok (.iinc 1 1, 3) := by decide +kernel
theorem dX9_keeps_37 : decode cX9_keeps 37 = .ok (.goto (-26), 3) := by decide +kernel
theorem dX9_keeps_40 : decode cX9_keeps 40 = .ok (.aload_n 0, 1) := by decide +kernel
theorem dX9_keeps_41 : decode cX9_keeps 41 = .ok (.dup, 1) := by decide +kernel
theorem dX9_keeps_42 : decode cX9_keeps 42 = .ok (.getfield 310, 3) := by decide +kernel
theorem dX9_keeps_45 : decode cX9_keeps 45 = .ok (.iconst 1, 1) := by decide +kernel
theorem dX9_keeps_46 : decode cX9_keeps 46 = .ok (.isub, 1) := by decide +kernel
theorem dX9_keeps_47 : decode cX9_keeps 47 = .ok (.putfield 310, 3) := by decide +kernel
theorem dX9_keeps_50 : decode cX9_keeps 50 = .ok (.iconst 0, 1) := by decide +kernel
theorem dX9_keeps_51 : decode cX9_keeps 51 = .ok (.istore_n 1, 1) := by decide +kernel
theorem dX9_keeps_52 : decode cX9_keeps 52 = .ok (.iload_n 1, 1) := by decide +kernel
theorem dX9_keeps_53 : decode cX9_keeps 53 = .ok (.sipush 176, 3) := by decide +kernel
theorem dX9_keeps_56 : decode cX9_keeps 56 = .ok (.if_icmp .ge 30, 3) := by decide +kernel
theorem dX9_keeps_59 : decode cX9_keeps 59 = .ok (.aload_n 0, 1) := by decide +kernel
theorem dX9_keeps_60 : decode cX9_keeps 60 = .ok (.getfield 73, 3) := by decide +kernel
theorem dX9_keeps_63 : decode cX9_keeps 63 = .ok (.sipush 176, 3) := by decide +kernel
theorem dX9_keeps_66 : decode cX9_keeps 66 = .ok (.aload_n 0, 1) := by decide +kernel
theorem dX9_keeps_67 : decode cX9_keeps 67 = .ok (.getfield 310, 3) := by decide +kernel
theorem dX9_keeps_70 : decode cX9_keeps 70 = .ok (.imul, 1) := by decide +kernel
theorem dX9_keeps_71 : decode cX9_keeps 71 = .ok (.iload_n 1, 1) := by decide +kernel
theorem dX9_keeps_72 : decode cX9_keeps 72 = .ok (.iadd, 1) := by decide +kernel
theorem dX9_keeps_73 : decode cX9_keeps 73 = .ok (.aload_n 0, 1) := by decide +kernel
theorem dX9_keeps_74 : decode cX9_keeps 74 = .ok (.getfield 70, 3) := by decide +kernel
theorem dX9_keeps_77 : decode cX9_keeps 77 = .ok (.iload_n 1, 1) := by decide +kernel
theorem dX9_keeps_78 : decode cX9_keeps 78 = .ok (.iaload, 1) := by decide +kernel
theorem dX9_keeps_79 : decode cX9_keeps 79 = .ok (.iastore, 1) := by decide +kernel
theorem dX9_keeps_80 : decode cX9_keeps 80 = .ok (.iinc 1 1, 3) := by decide +kernel
theorem dX9_keeps_83 : decode cX9_keeps 83 = .ok (.goto (-31), 3) := by decide +kernel
theorem dX9_keeps_86 : decode cX9_keeps 86 = .ok (.aload_n 0, 1) := by decide +kernel
theorem dX9_keeps_87 : decode cX9_keeps 87 = .ok (.dup, 1) := by decide +kernel
theorem dX9_keeps_88 : decode cX9_keeps 88 = .ok (.getfield 310, 3) := by decide +kernel
theorem dX9_keeps_91 : decode cX9_keeps 91 = .ok (.iconst 1, 1) := by decide +kernel
theorem dX9_keeps_92 : decode cX9_keeps 92 = .ok (.iadd, 1) := by decide +kernel
theorem dX9_keeps_93 : decode cX9_keeps 93 = .ok (.putfield 310, 3) := by decide +kernel
theorem dX9_keeps_96 : decode cX9_keeps 96 = .ok (.return_, 1) := by decide +kernel
theorem dX9_reviews_0 : decode cX9_reviews 0 = .ok (.iconst 0, 1) := by decide +kernel
theorem dX9_reviews_1 : decode cX9_reviews 1 = .ok (.istore_n 1, 1) := by decide +kernel
theorem dX9_reviews_2 : decode cX9_reviews 2 = .ok (.iconst 0, 1) := by decide +kernel
theorem dX9_reviews_3 : decode cX9_reviews 3 = .ok (.istore_n 2, 1) := by decide +kernel
theorem dX9_reviews_4 : decode cX9_reviews 4 = .ok (.iload_n 2, 1) := by decide +kernel
theorem dX9_reviews_5 : decode cX9_reviews 5 = .ok (.aload_n 0, 1) := by decide +kernel
theorem dX9_reviews_6 : decode cX9_reviews 6 = .ok (.getfield 23, 3) := by decide +kernel
theorem dX9_reviews_9 : decode cX9_reviews 9 = .ok (.iconst 0, 1) := by decide +kernel
theorem dX9_reviews_10 : decode cX9_reviews 10 = .ok (.iaload, 1) := by decide +kernel
theorem dX9_reviews_11 : decode cX9_reviews 11 = .ok (.if_icmp .ge 21, 3) := by decide +kernel
theorem dX9_reviews_14 : decode cX9_reviews 14 = .ok (.iload_n 1, 1) := by decide +kernel
theorem dX9_reviews_15 : decode cX9_reviews 15 = .ok (.aload_n 0, 1) := by decide +kernel
theorem dX9_reviews_16 : decode cX9_reviews 16 = .ok (.getfield 70, 3) := by decide +kernel
theorem dX9_reviews_19 : decode cX9_reviews 19 = .ok (.bipush 44, 2) := by decide +kernel
theorem dX9_reviews_21 : decode cX9_reviews 21 = .ok (.iload_n 2, 1) := by decide +kernel
theorem dX9_reviews_22 : decode cX9_reviews 22 = .ok (.iadd, 1) := by decide +kernel
theorem dX9_reviews_23 : decode cX9_reviews 23 = .ok (.iaload, 1) := by decide +kernel
theorem dX9_reviews_24 : decode cX9_reviews 24 = .ok (.iadd, 1) := by decide +kernel
theorem dX9_reviews_25 : decode cX9_reviews 25 = .ok (.istore_n 1, 1) := by decide +kernel
theorem dX9_reviews_26 : decode cX9_reviews 26 = .ok (.iinc 2 1, 3) := by decide +kernel
theorem dX9_reviews_29 : decode cX9_reviews 29 = .ok (.goto (-25), 3) := by decide +kernel
theorem dX9_reviews_32 : decode cX9_reviews 32 = .ok (.iload_n 1, 1) := by decide +kernel
theorem dX9_reviews_33 : decode cX9_reviews 33 = .ok (.ireturn, 1) := by decide +kernel
theorem dX9_lifted_0 : decode cX9_lifted 0 = .ok (.iconst 0, 1) := by decide +kernel
theorem dX9_lifted_1 : decode cX9_lifted 1 = .ok (.istore_n 1, 1) := by decide +kernel
theorem dX9_lifted_2 : decode cX9_lifted 2 = .ok (.iconst 0, 1) := by decide +kernel
theorem dX9_lifted_3 : decode cX9_lifted 3 = .ok (.istore_n 2, 1) := by decide +kernel
theorem dX9_lifted_4 : decode cX9_lifted 4 = .ok (.iload_n 2, 1) := by decide +kernel
theorem dX9_lifted_5 : decode cX9_lifted 5 = .ok (.aload_n 0, 1) := by decide +kernel
theorem dX9_lifted_6 : decode cX9_lifted 6 = .ok (.getfield 23, 3) := by decide +kernel
theorem dX9_lifted_9 : decode cX9_lifted 9 = .ok (.iconst 0, 1) := by decide +kernel
theorem dX9_lifted_10 : decode cX9_lifted 10 = .ok (.iaload, 1) := by decide +kernel
theorem dX9_lifted_11 : decode cX9_lifted 11 = .ok (.if_icmp .ge 31, 3) := by decide +kernel
theorem dX9_lifted_14 : decode cX9_lifted 14 = .ok (.iload_n 1, 1) := by decide +kernel
theorem dX9_lifted_15 : decode cX9_lifted 15 = .ok (.aload_n 0, 1) := by decide +kernel
theorem dX9_lifted_16 : decode cX9_lifted 16 = .ok (.getfield 70, 3) := by decide +kernel
theorem dX9_lifted_19 : decode cX9_lifted 19 = .ok (.bipush 32, 2) := by decide +kernel
theorem dX9_lifted_21 : decode cX9_lifted 21 = .ok (.iload_n 2, 1) := by decide +kernel
theorem dX9_lifted_22 : decode cX9_lifted 22 = .ok (.iadd, 1) := by decide +kernel
theorem dX9_lifted_23 : decode cX9_lifted 23 = .ok (.iaload, 1) := by decide +kernel
theorem dX9_lifted_24 : decode cX9_lifted 24 = .ok (.ifCond .lt 9, 3) := by decide +kernel
theorem dX9_lifted_27 : decode cX9_lifted 27 = .ok (.iconst 1, 1) := by decide +kernel
theorem dX9_lifted_28 : decode cX9_lifted 28 = .ok (.iload_n 2, 1) := by decide +kernel
theorem dX9_lifted_29 : decode cX9_lifted 29 = .ok (.ishl, 1) := by decide +kernel
theorem dX9_lifted_30 : decode cX9_lifted 30 = .ok (.goto 4, 3) := by decide +kernel
theorem dX9_lifted_33 : decode cX9_lifted 33 = .ok (.iconst 0, 1) := by decide +kernel
theorem dX9_lifted_34 : decode cX9_lifted 34 = .ok (.ior, 1) := by decide +kernel
theorem dX9_lifted_35 : decode cX9_lifted 35 = .ok (.istore_n 1, 1) := by decide +kernel
theorem dX9_lifted_36 : decode cX9_lifted 36 = .ok (.iinc 2 1, 3) := by decide +kernel
theorem dX9_lifted_39 : decode cX9_lifted 39 = .ok (.goto (-35), 3) := by decide +kernel
theorem dX9_lifted_42 : decode cX9_lifted 42 = .ok (.iload_n 1, 1) := by decide +kernel
theorem dX9_lifted_43 : decode cX9_lifted 43 = .ok (.ireturn, 1) := by decide +kernel
theorem qw_501 : (Cond.fieldLink RX9 23 "ClosedUntilModel" "closures" "[I" : Cond) ∈ TBL := List.mem_of_getElem? (i := 170) (by decide +kernel)
theorem qw_502 : (Cond.fieldLink RX9 70 "ClosedUntilModel" "s" "[I" : Cond) ∈ TBL := List.mem_of_getElem? (i := 185) (by decide +kernel)
theorem qw_503 : (Cond.code yX9_isUnder cX9_isUnder 4 (some .boolean) : Cond) ∈ TBL := List.mem_of_getElem? (i := 602) (by decide +kernel)
theorem qw_504 : (Cond.methodLink RX9 313 yX9_isUnder : Cond) ∈ TBL := List.mem_of_getElem? (i := 599) (by decide +kernel)
theorem qw_505 : (Cond.instanceMethod yX9_isUnder : Cond) ∈ TBL := List.mem_of_getElem? (i := 600) (by decide +kernel)
theorem qw_506 : (Cond.selects RX9 yX9_isUnder yX9_isUnder : Cond) ∈ TBL := List.mem_of_getElem? (i := 601) (by decide +kernel)
theorem qw_507 : (Cond.fieldLink RX9 57 "ClosedUntilModel" "sort" "[I" : Cond) ∈ TBL := List.mem_of_getElem? (i := 181) (by decide +kernel)
theorem qw_508 : (Cond.fieldLink RX9 60 "ClosedUntilModel" "whom" "[I" : Cond) ∈ TBL := List.mem_of_getElem? (i := 182) (by decide +kernel)
theorem qw_509 : (Cond.fieldLink RX9 54 "ClosedUntilModel" "ofDeposit" "[I" : Cond) ∈ TBL := List.mem_of_getElem? (i := 180) (by decide +kernel)
theorem qw_510 : (Cond.code yX9_isTarget cX9_isTarget 3 (some .boolean) : Cond) ∈ TBL := List.mem_of_getElem? (i := 661) (by decide +kernel)
theorem qw_511 : (Cond.methodLink RX9 316 yX9_isTarget : Cond) ∈ TBL := List.mem_of_getElem? (i := 658) (by decide +kernel)
theorem qw_512 : (Cond.instanceMethod yX9_isTarget : Cond) ∈ TBL := List.mem_of_getElem? (i := 659) (by decide +kernel)
theorem qw_513 : (Cond.selects RX9 yX9_isTarget yX9_isTarget : Cond) ∈ TBL := List.mem_of_getElem? (i := 660) (by decide +kernel)
theorem qw_514 : (Cond.fieldLink RX9 30 "ClosedUntilModel" "birth" "[I" : Cond) ∈ TBL := List.mem_of_getElem? (i := 172) (by decide +kernel)
theorem qw_515 : (Cond.fieldLink RX9 48 "ClosedUntilModel" "lastDay" "[I" : Cond) ∈ TBL := List.mem_of_getElem? (i := 178) (by decide +kernel)
theorem qw_516 : (Cond.fieldLink RX9 63 "ClosedUntilModel" "years" "[I" : Cond) ∈ TBL := List.mem_of_getElem? (i := 183) (by decide +kernel)
theorem qw_517 : (Cond.fieldLink RX9 39 "ClosedUntilModel" "depositDay" "[I" : Cond) ∈ TBL := List.mem_of_getElem? (i := 175) (by decide +kernel)
theorem qw_518 : (Cond.code yX9_plainTerm cX9_plainTerm 4 (some .int) : Cond) ∈ TBL := List.mem_of_getElem? (i := 677) (by decide +kernel)
theorem qw_519 : (Cond.methodLink RX9 346 yX9_plainTerm : Cond) ∈ TBL := List.mem_of_getElem? (i := 674) (by decide +kernel)
theorem qw_520 : (Cond.instanceMethod yX9_plainTerm : Cond) ∈ TBL := List.mem_of_getElem? (i := 675) (by decide +kernel)
theorem qw_521 : (Cond.selects RX9 yX9_plainTerm yX9_plainTerm : Cond) ∈ TBL := List.mem_of_getElem? (i := 676) (by decide +kernel)
theorem qw_522 : (Cond.fieldLink RX9 66 "ClosedUntilModel" "isWhole" "[Z" : Cond) ∈ TBL := List.mem_of_getElem? (i := 184) (by decide +kernel)
theorem qw_523 : (Cond.code yX9_yearBehind cX9_yearBehind 2 (some .int) : Cond) ∈ TBL := List.mem_of_getElem? (i := 681) (by decide +kernel)
theorem qw_524 : (Cond.methodLink RX9 349 yX9_yearBehind : Cond) ∈ TBL := List.mem_of_getElem? (i := 678) (by decide +kernel)
theorem qw_525 : (Cond.instanceMethod yX9_yearBehind : Cond) ∈ TBL := List.mem_of_getElem? (i := 679) (by decide +kernel)
theorem qw_526 : (Cond.selects RX9 yX9_yearBehind yX9_yearBehind : Cond) ∈ TBL := List.mem_of_getElem? (i := 680) (by decide +kernel)
theorem qw_527 : (Cond.code yX9_termOf cX9_termOf 7 (some .int) : Cond) ∈ TBL := List.mem_of_getElem? (i := 673) (by decide +kernel)
theorem qw_528 : (Cond.methodLink RX9 352 yX9_termOf : Cond) ∈ TBL := List.mem_of_getElem? (i := 670) (by decide +kernel)
theorem qw_529 : (Cond.instanceMethod yX9_termOf : Cond) ∈ TBL := List.mem_of_getElem? (i := 671) (by decide +kernel)
theorem qw_530 : (Cond.selects RX9 yX9_termOf yX9_termOf : Cond) ∈ TBL := List.mem_of_getElem? (i := 672) (by decide +kernel)
theorem qw_531 : (Cond.code yX9_endsOf cX9_endsOf 6 (some .int) : Cond) ∈ TBL := List.mem_of_getElem? (i := 669) (by decide +kernel)
theorem qw_532 : (Cond.methodLink RX9 319 yX9_endsOf : Cond) ∈ TBL := List.mem_of_getElem? (i := 666) (by decide +kernel)
theorem qw_533 : (Cond.instanceMethod yX9_endsOf : Cond) ∈ TBL := List.mem_of_getElem? (i := 667) (by decide +kernel)
theorem qw_534 : (Cond.selects RX9 yX9_endsOf yX9_endsOf : Cond) ∈ TBL := List.mem_of_getElem? (i := 668) (by decide +kernel)
theorem qw_535 : (Cond.fieldLink RX9 82 "ClosedUntilModel" "endsAt" "[I" : Cond) ∈ TBL := List.mem_of_getElem? (i := 189) (by decide +kernel)
theorem qw_536 : (Cond.code yX9_holds cX9_holds 4 (some .boolean) : Cond) ∈ TBL := List.mem_of_getElem? (i := 730) (by decide +kernel)
theorem qw_537 : (Cond.methodLink RX9 355 yX9_holds : Cond) ∈ TBL := List.mem_of_getElem? (i := 727) (by decide +kernel)
theorem qw_538 : (Cond.instanceMethod yX9_holds : Cond) ∈ TBL := List.mem_of_getElem? (i := 728) (by decide +kernel)
theorem qw_539 : (Cond.selects RX9 yX9_holds yX9_holds : Cond) ∈ TBL := List.mem_of_getElem? (i := 729) (by decide +kernel)
theorem qw_540 : (Cond.constantLong RX9 359 (15) : Cond) ∈ TBL := List.mem_of_getElem? (i := 722) (by decide +kernel)
theorem qw_541 : (Cond.code yX9_opensOf cX9_opensOf 7 (some .int) : Cond) ∈ TBL := List.mem_of_getElem? (i := 726) (by decide +kernel)
theorem qw_542 : (Cond.methodLink RX9 367 yX9_opensOf : Cond) ∈ TBL := List.mem_of_getElem? (i := 723) (by decide +kernel)
theorem qw_543 : (Cond.instanceMethod yX9_opensOf : Cond) ∈ TBL := List.mem_of_getElem? (i := 724) (by decide +kernel)
theorem qw_544 : (Cond.selects RX9 yX9_opensOf yX9_opensOf : Cond) ∈ TBL := List.mem_of_getElem? (i := 725) (by decide +kernel)
theorem qw_545 : (Cond.code yX9_areReaders cX9_areReaders 1 (some .boolean) : Cond) ∈ TBL := List.mem_of_getElem? (i := 721) (by decide +kernel)
theorem qw_546 : (Cond.methodLink RX9 364 yX9_areReaders : Cond) ∈ TBL := List.mem_of_getElem? (i := 719) (by decide +kernel)
theorem qw_547 : (Cond.static yX9_areReaders : Cond) ∈ TBL := List.mem_of_getElem? (i := 720) (by decide +kernel)
theorem qw_548 : (Cond.code yX9_deep cX9_deep 4 (some .int) : Cond) ∈ TBL := List.mem_of_getElem? (i := 606) (by decide +kernel)
theorem qw_549 : (Cond.methodLink RX9 328 yX9_deep : Cond) ∈ TBL := List.mem_of_getElem? (i := 603) (by decide +kernel)
theorem qw_550 : (Cond.instanceMethod yX9_deep : Cond) ∈ TBL := List.mem_of_getElem? (i := 604) (by decide +kernel)
theorem qw_551 : (Cond.selects RX9 yX9_deep yX9_deep : Cond) ∈ TBL := List.mem_of_getElem? (i := 605) (by decide +kernel)
theorem qw_552 : (Cond.fieldLink RX9 310 "ClosedUntilModel" "undos" "I" : Cond) ∈ TBL := List.mem_of_getElem? (i := 356) (by decide +kernel)
theorem qw_553 : (Cond.fieldLink RX9 73 "ClosedUntilModel" "undone" "[I" : Cond) ∈ TBL := List.mem_of_getElem? (i := 186) (by decide +kernel)
theorem rgT5_dea851c {t0 t1 t2 t3 t4 : ClassId × FieldType} : (([t0, t1, t2, t3, t4] : List (ClassId × FieldType)))[0]? = some t0 := rfl
theorem rgP6_c3860e0 {D : va_G} {cl : List vw_C} {H : Heap} {c0 c1 c2 c3 c4 c5 : Nat × va_E} (h : va_P D cl ([c0, c1, c2, c3, c4, c5]) H) : va_P D cl ([c0, c2, c3, c4, c5]) H := h.sub (ws' := [c0, c2, c3, c4, c5]) [0, 2, 3, 4, 5] rfl
theorem rgK5_ac3f46d {D : va_G} {cl : List vw_C} {U : State} {t0 t1 t2 t3 t4 : ClassId × FieldType} (h : va_K D cl [t0, t1, t2, t3, t4] U) : va_K D cl [t1, t2, t3, t4] U := h.sub (tys' := [t1, t2, t3, t4]) [1, 2, 3, 4] rfl
theorem rgL8_074f9f3 {c0 c1 c2 c3 c4 c5 c6 c7 : Nat × va_E} : (([c0, c1, c2, c3, c4, c5, c6, c7] : va_W))[4]? = some c4 := rfl
theorem rgL8_8ca47fb {c0 c1 c2 c3 c4 c5 c6 c7 : Nat × va_E} : (([c0, c1, c2, c3, c4, c5, c6, c7] : va_W))[5]? = some c5 := rfl
theorem rgT7_285b095 {t0 t1 t2 t3 t4 t5 t6 : ClassId × FieldType} : (([t0, t1, t2, t3, t4, t5, t6] : List (ClassId × FieldType)))[4]? = some t4 := rfl
theorem rgL8_3b6b6c8 {c0 c1 c2 c3 c4 c5 c6 c7 : Nat × va_E} : (([c0, c1, c2, c3, c4, c5, c6, c7] : va_W))[7]? = some c7 := rfl
theorem rgL8_32bcc21 {c0 c1 c2 c3 c4 c5 c6 c7 : Nat × va_E} : (([c0, c1, c2, c3, c4, c5, c6, c7] : va_W))[1]? = some c1 := rfl
theorem rgT7_9b9acb2 {t0 t1 t2 t3 t4 t5 t6 : ClassId × FieldType} : (([t0, t1, t2, t3, t4, t5, t6] : List (ClassId × FieldType)))[0]? = some t0 := rfl
theorem rgL8_73566b7 {c0 c1 c2 c3 c4 c5 c6 c7 : Nat × va_E} : (([c0, c1, c2, c3, c4, c5, c6, c7] : va_W))[3]? = some c3 := rfl
theorem rgT7_4c44a40 {t0 t1 t2 t3 t4 t5 t6 : ClassId × FieldType} : (([t0, t1, t2, t3, t4, t5, t6] : List (ClassId × FieldType)))[2]? = some t2 := rfl
theorem rgL8_06e4aaa {c0 c1 c2 c3 c4 c5 c6 c7 : Nat × va_E} : (([c0, c1, c2, c3, c4, c5, c6, c7] : va_W))[6]? = some c6 := rfl
theorem rgL8_443bc0d {c0 c1 c2 c3 c4 c5 c6 c7 : Nat × va_E} : (([c0, c1, c2, c3, c4, c5, c6, c7] : va_W))[2]? = some c2 := rfl
theorem rgT7_961d295 {t0 t1 t2 t3 t4 t5 t6 : ClassId × FieldType} : (([t0, t1, t2, t3, t4, t5, t6] : List (ClassId × FieldType)))[1]? = some t1 := rfl
theorem rgP9_4c7e336 {D : va_G} {cl : List vw_C} {H : Heap} {c0 c1 c2 c3 c4 c5 c6 c7 c8 : Nat × va_E} (h : va_P D cl ([c0, c1, c2, c3, c4, c5, c6, c7, c8]) H) : va_P D cl ([c0, c1, c2, c3, c4, c5, c6, c8]) H := h.sub (ws' := [c0, c1, c2, c3, c4, c5, c6, c8]) [0, 1, 2, 3, 4, 5, 6, 8] rfl
theorem rgK8_4886f59 {D : va_G} {cl : List vw_C} {U : State} {t0 t1 t2 t3 t4 t5 t6 t7 : ClassId × FieldType} (h : va_K D cl [t0, t1, t2, t3, t4, t5, t6, t7] U) : va_K D cl [t0, t1, t2, t3, t4, t5, t7] U := h.sub (tys' := [t0, t1, t2, t3, t4, t5, t7]) [0, 1, 2, 3, 4, 5, 7] rfl
theorem rgD9_a7a0835 {A : Nat → Prop} {c0 c1 c2 c3 c4 c5 c6 c7 c8 : Nat × va_E} (h : va_D A ([c0, c1, c2, c3, c4, c5, c6, c7, c8])) : va_D A ([c0, c1, c2, c3, c4, c5, c6, c8]) := h.sub (ws' := [c0, c1, c2, c3, c4, c5, c6, c8]) [0, 1, 2, 3, 4, 5, 6, 8] (by decide +kernel) rfl
theorem rgJ9_a5e34bc {A0 : Nat → Prop} {D : va_G} {cl : List vw_C} {H H1 : Heap} {c0 c1 c2 c3 c4 c5 c6 c7 c8 : Nat × va_E} {d0 d1 d2 d3 d4 d5 d6 d7 : Nat × va_E} (hP : va_P D cl ([c0, c1, c2, c3, c4, c5, c6, c7, c8]) H) (hD : va_D A0 ([c0, c1, c2, c3, c4, c5, c6, c7, c8])) (hk : ∀ q : Nat, q < H.size → ¬ va_A ([c0, c1, c2, c3, c4, c5, c6, c8]) H.size q → H1[q]? = H[q]?) (hF : ∀ q, va_A ([c0, c1, c2, c3, c4, c5, c6, c8]) H.size q → A0 q) (hP1 : va_P D cl ([d0, d1, d2, d3, d4, d5, d6, d7]) H1) (hD1 : va_D (va_A ([c0, c1, c2, c3, c4, c5, c6, c8]) H.size) ([d0, d1, d2, d3, d4, d5, d6, d7])) : va_P D cl ([d0, d1, d2, d3, d4, d5, d6, c7, d7]) H1 ∧ va_D A0 ([d0, d1, d2, d3, d4, d5, d6, c7, d7]) := by
  obtain ⟨h1, h2⟩ := va_join (ws := [c0, c1, c2, c3, c4, c5, c6, c7, c8]) (wc := [c0, c1, c2, c3, c4, c5, c6, c8]) (wr := [c7]) (w1 := [d0, d1, d2, d3, d4, d5, d6, d7]) hP hD [0, 1, 2, 3, 4, 5, 6, 8] [7] rfl rfl (by decide +kernel) (by decide +kernel) hk hF hP1 hD1
  exact ⟨va_P.sub (ws := [c7, d0, d1, d2, d3, d4, d5, d6, d7]) (ws' := [d0, d1, d2, d3, d4, d5, d6, c7, d7]) h1 [1, 2, 3, 4, 5, 6, 7, 0, 8] rfl, va_D.sub (ws := [c7, d0, d1, d2, d3, d4, d5, d6, d7]) (ws' := [d0, d1, d2, d3, d4, d5, d6, c7, d7]) h2 [1, 2, 3, 4, 5, 6, 7, 0, 8] (by decide +kernel) rfl⟩
theorem rgT8_f259fe9 {t0 t1 t2 t3 t4 t5 t6 t7 : ClassId × FieldType} : (([t0, t1, t2, t3, t4, t5, t6, t7] : List (ClassId × FieldType)))[6]? = some t6 := rfl
theorem rgT8_bb76198 {t0 t1 t2 t3 t4 t5 t6 t7 : ClassId × FieldType} : (([t0, t1, t2, t3, t4, t5, t6, t7] : List (ClassId × FieldType)))[7]? = some t7 := rfl
theorem rgK8_e0dc46b {D : va_G} {cl : List vw_C} {U : State} {t0 t1 t2 t3 t4 t5 t6 t7 : ClassId × FieldType} (h : va_K D cl [t0, t1, t2, t3, t4, t5, t6, t7] U) : va_K D cl [] U := h.sub (tys' := []) [] rfl
theorem rgP11_7d92a6e {D : va_G} {cl : List vw_C} {H : Heap} {c0 c1 c2 c3 c4 c5 c6 c7 c8 c9 c10 : Nat × va_E} (h : va_P D cl ([c0, c1, c2, c3, c4, c5, c6, c7, c8, c9, c10]) H) : va_P D cl ([c0, c4, c5, c6, c7]) H := h.sub (ws' := [c0, c4, c5, c6, c7]) [0, 4, 5, 6, 7] rfl
theorem rgK10_57def4a {D : va_G} {cl : List vw_C} {U : State} {t0 t1 t2 t3 t4 t5 t6 t7 t8 t9 : ClassId × FieldType} (h : va_K D cl [t0, t1, t2, t3, t4, t5, t6, t7, t8, t9] U) : va_K D cl [t3, t4, t5, t6] U := h.sub (tys' := [t3, t4, t5, t6]) [3, 4, 5, 6] rfl
theorem rgP11_cded858 {D : va_G} {cl : List vw_C} {H : Heap} {c0 c1 c2 c3 c4 c5 c6 c7 c8 c9 c10 : Nat × va_E} (h : va_P D cl ([c0, c1, c2, c3, c4, c5, c6, c7, c8, c9, c10]) H) : va_P D cl ([c0, c1, c2, c3, c6, c7, c8, c9, c10]) H := h.sub (ws' := [c0, c1, c2, c3, c6, c7, c8, c9, c10]) [0, 1, 2, 3, 6, 7, 8, 9, 10] rfl
theorem rgK10_b3dac19 {D : va_G} {cl : List vw_C} {U : State} {t0 t1 t2 t3 t4 t5 t6 t7 t8 t9 : ClassId × FieldType} (h : va_K D cl [t0, t1, t2, t3, t4, t5, t6, t7, t8, t9] U) : va_K D cl [t0, t1, t2, t5, t6, t7, t8, t9] U := h.sub (tys' := [t0, t1, t2, t5, t6, t7, t8, t9]) [0, 1, 2, 5, 6, 7, 8, 9] rfl
theorem rgD11_f525aca {A : Nat → Prop} {c0 c1 c2 c3 c4 c5 c6 c7 c8 c9 c10 : Nat × va_E} (h : va_D A ([c0, c1, c2, c3, c4, c5, c6, c7, c8, c9, c10])) : va_D A ([c0, c1, c2, c3, c6, c7, c8, c9, c10]) := h.sub (ws' := [c0, c1, c2, c3, c6, c7, c8, c9, c10]) [0, 1, 2, 3, 6, 7, 8, 9, 10] (by decide +kernel) rfl
theorem rgJ11_8755fe6 {A0 : Nat → Prop} {D : va_G} {cl : List vw_C} {H H1 : Heap} {c0 c1 c2 c3 c4 c5 c6 c7 c8 c9 c10 : Nat × va_E} {d0 d1 d2 d3 d4 d5 d6 d7 d8 : Nat × va_E} (hP : va_P D cl ([c0, c1, c2, c3, c4, c5, c6, c7, c8, c9, c10]) H) (hD : va_D A0 ([c0, c1, c2, c3, c4, c5, c6, c7, c8, c9, c10])) (hk : ∀ q : Nat, q < H.size → ¬ va_A ([c0, c1, c2, c3, c6, c7, c8, c9, c10]) H.size q → H1[q]? = H[q]?) (hF : ∀ q, va_A ([c0, c1, c2, c3, c6, c7, c8, c9, c10]) H.size q → A0 q) (hP1 : va_P D cl ([d0, d1, d2, d3, d4, d5, d6, d7, d8]) H1) (hD1 : va_D (va_A ([c0, c1, c2, c3, c6, c7, c8, c9, c10]) H.size) ([d0, d1, d2, d3, d4, d5, d6, d7, d8])) : va_P D cl ([d0, d1, d2, d3, c4, c5, d4, d5, d6, d7, d8]) H1 ∧ va_D A0 ([d0, d1, d2, d3, c4, c5, d4, d5, d6, d7, d8]) := by
  obtain ⟨h1, h2⟩ := va_join (ws := [c0, c1, c2, c3, c4, c5, c6, c7, c8, c9, c10]) (wc := [c0, c1, c2, c3, c6, c7, c8, c9, c10]) (wr := [c4, c5]) (w1 := [d0, d1, d2, d3, d4, d5, d6, d7, d8]) hP hD [0, 1, 2, 3, 6, 7, 8, 9, 10] [4, 5] rfl rfl (by decide +kernel) (by decide +kernel) hk hF hP1 hD1
  exact ⟨va_P.sub (ws := [c4, c5, d0, d1, d2, d3, d4, d5, d6, d7, d8]) (ws' := [d0, d1, d2, d3, c4, c5, d4, d5, d6, d7, d8]) h1 [2, 3, 4, 5, 0, 1, 6, 7, 8, 9, 10] rfl, va_D.sub (ws := [c4, c5, d0, d1, d2, d3, d4, d5, d6, d7, d8]) (ws' := [d0, d1, d2, d3, c4, c5, d4, d5, d6, d7, d8]) h2 [2, 3, 4, 5, 0, 1, 6, 7, 8, 9, 10] (by decide +kernel) rfl⟩
theorem rgT10_756f852 {t0 t1 t2 t3 t4 t5 t6 t7 t8 t9 : ClassId × FieldType} : (([t0, t1, t2, t3, t4, t5, t6, t7, t8, t9] : List (ClassId × FieldType)))[9]? = some t9 := rfl
theorem rgT12_6037471 {t0 t1 t2 t3 t4 t5 t6 t7 t8 t9 t10 t11 : ClassId × FieldType} : (([t0, t1, t2, t3, t4, t5, t6, t7, t8, t9, t10, t11] : List (ClassId × FieldType)))[0]? = some t0 := rfl
theorem rgK12_8728a0f {D : va_G} {cl : List vw_C} {U : State} {t0 t1 t2 t3 t4 t5 t6 t7 t8 t9 t10 t11 : ClassId × FieldType} (h : va_K D cl [t0, t1, t2, t3, t4, t5, t6, t7, t8, t9, t10, t11] U) : va_K D cl [] U := h.sub (tys' := []) [] rfl
theorem rgP13_87d50a7 {D : va_G} {cl : List vw_C} {H : Heap} {c0 c1 c2 c3 c4 c5 c6 c7 c8 c9 c10 c11 c12 : Nat × va_E} (h : va_P D cl ([c0, c1, c2, c3, c4, c5, c6, c7, c8, c9, c10, c11, c12]) H) : va_P D cl ([c0, c3, c4, c5, c6, c7, c8, c9, c10, c11, c12]) H := h.sub (ws' := [c0, c3, c4, c5, c6, c7, c8, c9, c10, c11, c12]) [0, 3, 4, 5, 6, 7, 8, 9, 10, 11, 12] rfl
theorem rgK12_948a3ee {D : va_G} {cl : List vw_C} {U : State} {t0 t1 t2 t3 t4 t5 t6 t7 t8 t9 t10 t11 : ClassId × FieldType} (h : va_K D cl [t0, t1, t2, t3, t4, t5, t6, t7, t8, t9, t10, t11] U) : va_K D cl [t2, t3, t4, t5, t6, t7, t8, t9, t10, t11] U := h.sub (tys' := [t2, t3, t4, t5, t6, t7, t8, t9, t10, t11]) [2, 3, 4, 5, 6, 7, 8, 9, 10, 11] rfl
theorem rgD13_53497a6 {A : Nat → Prop} {c0 c1 c2 c3 c4 c5 c6 c7 c8 c9 c10 c11 c12 : Nat × va_E} (h : va_D A ([c0, c1, c2, c3, c4, c5, c6, c7, c8, c9, c10, c11, c12])) : va_D A ([c0, c3, c4, c5, c6, c7, c8, c9, c10, c11, c12]) := h.sub (ws' := [c0, c3, c4, c5, c6, c7, c8, c9, c10, c11, c12]) [0, 3, 4, 5, 6, 7, 8, 9, 10, 11, 12] (by decide +kernel) rfl
theorem rgJ13_1725318 {A0 : Nat → Prop} {D : va_G} {cl : List vw_C} {H H1 : Heap} {c0 c1 c2 c3 c4 c5 c6 c7 c8 c9 c10 c11 c12 : Nat × va_E} {d0 d1 d2 d3 d4 d5 d6 d7 d8 d9 d10 : Nat × va_E} (hP : va_P D cl ([c0, c1, c2, c3, c4, c5, c6, c7, c8, c9, c10, c11, c12]) H) (hD : va_D A0 ([c0, c1, c2, c3, c4, c5, c6, c7, c8, c9, c10, c11, c12])) (hk : ∀ q : Nat, q < H.size → ¬ va_A ([c0, c3, c4, c5, c6, c7, c8, c9, c10, c11, c12]) H.size q → H1[q]? = H[q]?) (hF : ∀ q, va_A ([c0, c3, c4, c5, c6, c7, c8, c9, c10, c11, c12]) H.size q → A0 q) (hP1 : va_P D cl ([d0, d1, d2, d3, d4, d5, d6, d7, d8, d9, d10]) H1) (hD1 : va_D (va_A ([c0, c3, c4, c5, c6, c7, c8, c9, c10, c11, c12]) H.size) ([d0, d1, d2, d3, d4, d5, d6, d7, d8, d9, d10])) : va_P D cl ([d0, c1, c2, d1, d2, d3, d4, d5, d6, d7, d8, d9, d10]) H1 ∧ va_D A0 ([d0, c1, c2, d1, d2, d3, d4, d5, d6, d7, d8, d9, d10]) := by
  obtain ⟨h1, h2⟩ := va_join (ws := [c0, c1, c2, c3, c4, c5, c6, c7, c8, c9, c10, c11, c12]) (wc := [c0, c3, c4, c5, c6, c7, c8, c9, c10, c11, c12]) (wr := [c1, c2]) (w1 := [d0, d1, d2, d3, d4, d5, d6, d7, d8, d9, d10]) hP hD [0, 3, 4, 5, 6, 7, 8, 9, 10, 11, 12] [1, 2] rfl rfl (by decide +kernel) (by decide +kernel) hk hF hP1 hD1
  exact ⟨va_P.sub (ws := [c1, c2, d0, d1, d2, d3, d4, d5, d6, d7, d8, d9, d10]) (ws' := [d0, c1, c2, d1, d2, d3, d4, d5, d6, d7, d8, d9, d10]) h1 [2, 0, 1, 3, 4, 5, 6, 7, 8, 9, 10, 11, 12] rfl, va_D.sub (ws := [c1, c2, d0, d1, d2, d3, d4, d5, d6, d7, d8, d9, d10]) (ws' := [d0, c1, c2, d1, d2, d3, d4, d5, d6, d7, d8, d9, d10]) h2 [2, 0, 1, 3, 4, 5, 6, 7, 8, 9, 10, 11, 12] (by decide +kernel) rfl⟩
theorem rgL14_6e084ec {c0 c1 c2 c3 c4 c5 c6 c7 c8 c9 c10 c11 c12 c13 : Nat × va_E} : (([c0, c1, c2, c3, c4, c5, c6, c7, c8, c9, c10, c11, c12, c13] : va_W))[0]? = some c0 := rfl
theorem rgL14_9aeb737 {c0 c1 c2 c3 c4 c5 c6 c7 c8 c9 c10 c11 c12 c13 : Nat × va_E} : (([c0, c1, c2, c3, c4, c5, c6, c7, c8, c9, c10, c11, c12, c13] : va_W))[2]? = some c2 := rfl
theorem rgT13_9ecce0a {t0 t1 t2 t3 t4 t5 t6 t7 t8 t9 t10 t11 t12 : ClassId × FieldType} : (([t0, t1, t2, t3, t4, t5, t6, t7, t8, t9, t10, t11, t12] : List (ClassId × FieldType)))[1]? = some t1 := rfl
theorem rgL14_2dacc1d {c0 c1 c2 c3 c4 c5 c6 c7 c8 c9 c10 c11 c12 c13 : Nat × va_E} : (([c0, c1, c2, c3, c4, c5, c6, c7, c8, c9, c10, c11, c12, c13] : va_W))[1]? = some c1 := rfl
theorem rgT13_f65b496 {t0 t1 t2 t3 t4 t5 t6 t7 t8 t9 t10 t11 t12 : ClassId × FieldType} : (([t0, t1, t2, t3, t4, t5, t6, t7, t8, t9, t10, t11, t12] : List (ClassId × FieldType)))[0]? = some t0 := rfl
theorem rgP14_be048c4 {D : va_G} {cl : List vw_C} {H : Heap} {c0 c1 c2 c3 c4 c5 c6 c7 c8 c9 c10 c11 c12 c13 : Nat × va_E} (h : va_P D cl ([c0, c1, c2, c3, c4, c5, c6, c7, c8, c9, c10, c11, c12, c13]) H) : va_P D cl ([c0, c3, c4, c5, c6, c7, c8, c9, c10, c11, c12]) H := h.sub (ws' := [c0, c3, c4, c5, c6, c7, c8, c9, c10, c11, c12]) [0, 3, 4, 5, 6, 7, 8, 9, 10, 11, 12] rfl
theorem rgK13_51a369b {D : va_G} {cl : List vw_C} {U : State} {t0 t1 t2 t3 t4 t5 t6 t7 t8 t9 t10 t11 t12 : ClassId × FieldType} (h : va_K D cl [t0, t1, t2, t3, t4, t5, t6, t7, t8, t9, t10, t11, t12] U) : va_K D cl [t2, t3, t4, t5, t6, t7, t8, t9, t10, t11] U := h.sub (tys' := [t2, t3, t4, t5, t6, t7, t8, t9, t10, t11]) [2, 3, 4, 5, 6, 7, 8, 9, 10, 11] rfl
theorem rgD14_b2e6295 {A : Nat → Prop} {c0 c1 c2 c3 c4 c5 c6 c7 c8 c9 c10 c11 c12 c13 : Nat × va_E} (h : va_D A ([c0, c1, c2, c3, c4, c5, c6, c7, c8, c9, c10, c11, c12, c13])) : va_D A ([c0, c3, c4, c5, c6, c7, c8, c9, c10, c11, c12]) := h.sub (ws' := [c0, c3, c4, c5, c6, c7, c8, c9, c10, c11, c12]) [0, 3, 4, 5, 6, 7, 8, 9, 10, 11, 12] (by decide +kernel) rfl
theorem rgJ14_d16c674 {A0 : Nat → Prop} {D : va_G} {cl : List vw_C} {H H1 : Heap} {c0 c1 c2 c3 c4 c5 c6 c7 c8 c9 c10 c11 c12 c13 : Nat × va_E} {d0 d1 d2 d3 d4 d5 d6 d7 d8 d9 d10 : Nat × va_E} (hP : va_P D cl ([c0, c1, c2, c3, c4, c5, c6, c7, c8, c9, c10, c11, c12, c13]) H) (hD : va_D A0 ([c0, c1, c2, c3, c4, c5, c6, c7, c8, c9, c10, c11, c12, c13])) (hk : ∀ q : Nat, q < H.size → ¬ va_A ([c0, c3, c4, c5, c6, c7, c8, c9, c10, c11, c12]) H.size q → H1[q]? = H[q]?) (hF : ∀ q, va_A ([c0, c3, c4, c5, c6, c7, c8, c9, c10, c11, c12]) H.size q → A0 q) (hP1 : va_P D cl ([d0, d1, d2, d3, d4, d5, d6, d7, d8, d9, d10]) H1) (hD1 : va_D (va_A ([c0, c3, c4, c5, c6, c7, c8, c9, c10, c11, c12]) H.size) ([d0, d1, d2, d3, d4, d5, d6, d7, d8, d9, d10])) : va_P D cl ([d0, c1, c2, d1, d2, d3, d4, d5, d6, d7, d8, d9, d10, c13]) H1 ∧ va_D A0 ([d0, c1, c2, d1, d2, d3, d4, d5, d6, d7, d8, d9, d10, c13]) := by
  obtain ⟨h1, h2⟩ := va_join (ws := [c0, c1, c2, c3, c4, c5, c6, c7, c8, c9, c10, c11, c12, c13]) (wc := [c0, c3, c4, c5, c6, c7, c8, c9, c10, c11, c12]) (wr := [c1, c2, c13]) (w1 := [d0, d1, d2, d3, d4, d5, d6, d7, d8, d9, d10]) hP hD [0, 3, 4, 5, 6, 7, 8, 9, 10, 11, 12] [1, 2, 13] rfl rfl (by decide +kernel) (by decide +kernel) hk hF hP1 hD1
  exact ⟨va_P.sub (ws := [c1, c2, c13, d0, d1, d2, d3, d4, d5, d6, d7, d8, d9, d10]) (ws' := [d0, c1, c2, d1, d2, d3, d4, d5, d6, d7, d8, d9, d10, c13]) h1 [3, 0, 1, 4, 5, 6, 7, 8, 9, 10, 11, 12, 13, 2] rfl, va_D.sub (ws := [c1, c2, c13, d0, d1, d2, d3, d4, d5, d6, d7, d8, d9, d10]) (ws' := [d0, c1, c2, d1, d2, d3, d4, d5, d6, d7, d8, d9, d10, c13]) h2 [3, 0, 1, 4, 5, 6, 7, 8, 9, 10, 11, 12, 13, 2] (by decide +kernel) rfl⟩
theorem rgL14_adfec06 {c0 c1 c2 c3 c4 c5 c6 c7 c8 c9 c10 c11 c12 c13 : Nat × va_E} : (([c0, c1, c2, c3, c4, c5, c6, c7, c8, c9, c10, c11, c12, c13] : va_W))[13]? = some c13 := rfl
theorem rgT13_4790f1e {t0 t1 t2 t3 t4 t5 t6 t7 t8 t9 t10 t11 t12 : ClassId × FieldType} : (([t0, t1, t2, t3, t4, t5, t6, t7, t8, t9, t10, t11, t12] : List (ClassId × FieldType)))[12]? = some t12 := rfl
theorem rgS14_dc02506 {A : Nat → Prop} {D : va_G} {cl : List vw_C} {H : Heap} {c0 c1 c2 c3 c4 c5 c6 c7 c8 c9 c10 c11 c12 c13 : Nat × va_E} {d e : Nat × va_E} (hP : va_P D cl (([c0, c1, c2, c3, c4, c5, c6, c7, c8, c9, c10, c11, c12, c13]).set 13 d) H) (hD : va_D A (([c0, c1, c2, c3, c4, c5, c6, c7, c8, c9, c10, c11, c12, c13]).set 13 d)) (h : d = e) : va_P D cl ([c0, c1, c2, c3, c4, c5, c6, c7, c8, c9, c10, c11, c12, e]) H ∧ va_D A ([c0, c1, c2, c3, c4, c5, c6, c7, c8, c9, c10, c11, c12, e]) := by subst h; exact ⟨hP, hD⟩
theorem rgP4_c6ff514 {D : va_G} {cl : List vw_C} {H : Heap} {c0 c1 c2 c3 : Nat × va_E} (h : va_P D cl ([c0, c1, c2, c3]) H) : va_P D cl ([c0, c2]) H := h.sub (ws' := [c0, c2]) [0, 2] rfl
theorem rgP5_f6d5339 {D : va_G} {cl : List vw_C} {H : Heap} {c0 c1 c2 c3 c4 : Nat × va_E} (h : va_P D cl ([c0, c1, c2, c3, c4]) H) : va_P D cl ([c0, c2, c3, c4]) H := h.sub (ws' := [c0, c2, c3, c4]) [0, 2, 3, 4] rfl
theorem rgK4_4b01686 {D : va_G} {cl : List vw_C} {U : State} {t0 t1 t2 t3 : ClassId × FieldType} (h : va_K D cl [t0, t1, t2, t3] U) : va_K D cl [t1, t2, t3] U := h.sub (tys' := [t1, t2, t3]) [1, 2, 3] rfl
theorem rgP5_b649b64 {D : va_G} {cl : List vw_C} {H : Heap} {c0 c1 c2 c3 c4 : Nat × va_E} (h : va_P D cl ([c0, c1, c2, c3, c4]) H) : va_P D cl ([c0, c1, c2, c4]) H := h.sub (ws' := [c0, c1, c2, c4]) [0, 1, 2, 4] rfl
theorem rgK4_bfc26b5 {D : va_G} {cl : List vw_C} {U : State} {t0 t1 t2 t3 : ClassId × FieldType} (h : va_K D cl [t0, t1, t2, t3] U) : va_K D cl [t0, t1, t3] U := h.sub (tys' := [t0, t1, t3]) [0, 1, 3] rfl
theorem rgP5_3b9ce17 {D : va_G} {cl : List vw_C} {H : Heap} {c0 c1 c2 c3 c4 : Nat × va_E} (h : va_P D cl ([c0, c1, c2, c3, c4]) H) : va_P D cl ([c0, c3]) H := h.sub (ws' := [c0, c3]) [0, 3] rfl
theorem rgK4_e2aeb4c {D : va_G} {cl : List vw_C} {U : State} {t0 t1 t2 t3 : ClassId × FieldType} (h : va_K D cl [t0, t1, t2, t3] U) : va_K D cl [t2] U := h.sub (tys' := [t2]) [2] rfl
set_option maxHeartbeats 4000000 in
set_option maxRecDepth 100000 in
theorem k_X9_isPiece (l : Launch) (dC : Nat → ClassId) (dI : Nat → Nat → Nat) (g : Gv) (a0 : Nat) (a1 : Int32) (a0_0 : Int32) (a0_1 : Int32) (a0_2 : Int32) (a0_3 : Int32) (a0_4 : Nat) (a0_5 : Int32) (a0_6 : Int32) (a0_7 : Int32) (a0_8 : Int32) (a0_9 : Int32) (a0_10 : Int32) (a0_11 : Int64) (a0_12 : Int32) (a0_13 : Int32) (a0_14 : Int32) (a0_15 : Int32) (a0_16 : Int32) (a0_17 : Int32) (a0_18 : Nat) (a0_19 : Nat) (a0_20 : Nat) (a0_21 : Nat) (a0_22 : Nat) (a0_23 : Nat) (a0_24 : Nat) (a0_25 : Nat) (a0_26 : Nat) (a0_27 : Nat) (a0_28 : Nat) (a0_29 : Nat) (a0_30 : Nat) (a0_31 : Nat) (a0_32 : Nat) (a0_33 : Nat) (a0_34 : Nat) (a0_35 : Nat) (a0_36 : Int64) (a0_37 : Int32) (a0_38 : Nat) (a0_39 : Nat) (a0_40 : Int32) (a0_41 : Nat) (a0_42 : Nat) (a0_43 : Nat) (a0_20_c : ClassId) (a0_20_f : Nat → Int32) (h_a0_5 : 0 ≤ a0_5.toInt ∧ a0_5.toInt ≤ 1000) (h_a0_6 : 0 ≤ a0_6.toInt ∧ a0_6.toInt ≤ 1000) (h_a0_7 : 0 ≤ a0_7.toInt ∧ a0_7.toInt ≤ 1000) (h_a0_8 : 0 ≤ a0_8.toInt ∧ a0_8.toInt ≤ 1000) (h_a0_17 : 0 ≤ a0_17.toInt ∧ a0_17.toInt ≤ 1) (h_a0_37 : (-1) ≤ a0_37.toInt ∧ a0_37.toInt ≤ 23) (h_a0_40 : 0 ≤ a0_40.toInt ∧ a0_40.toInt ≤ 12) (h_a0_20_f : vr 0 24 a0_20_f) : Met l yX9_isPiece (.code yX9_isPiece cX9_isPiece 2 (some .boolean) :: TBL) ({ frames := 1, cells := 0, slots := 0, locals := 25 }) (va_Pc [.ref a0, .int a1] (fun U => va_P (dC, dI) vwCl [(a0, .inr (8, [.int a0_0, .int a0_1, .int a0_2, .int a0_3, .ref a0_4, .int a0_5, .int a0_6, .int a0_7, .int a0_8, .int a0_9, .int a0_10, .long a0_11, .int a0_12, .int a0_13, .int a0_14, .int a0_15, .int a0_16, .int a0_17, .ref a0_18, .ref a0_19, .ref a0_20, .ref a0_21, .ref a0_22, .ref a0_23, .ref a0_24, .ref a0_25, .ref a0_26, .ref a0_27, .ref a0_28, .ref a0_29, .ref a0_30, .ref a0_31, .ref a0_32, .ref a0_33, .ref a0_34, .ref a0_35, .long a0_36, .int a0_37, .ref a0_38, .ref a0_39, .int a0_40, .ref a0_41, .ref a0_42, .ref a0_43])), (a0_20, .inl (a0_20_c, 2, .inl a0_20_f))] U.heap ∧ va_K (dC, dI) vwCl [(a0_20_c, .int)] U ∧ Ev g (fun _ => False) U)) (vp_Si (fun (r : Int32) => (r = 0 ∨ r = 1) ∧ ((r.toInt = 1 ∧ 0 ≤ a1.toInt ∧ a1.toInt < (a0_20_f 0).toInt) ∨ r.toInt = 0))) 0 0 (fun _ => False) := by
  refine Met.ofW (cc := cX9_isPiece) (maxL := 2) (ret := (some .boolean)) (by decide) rfl ?_
  intro p e s m args below meth c s₁ B hml hv
  obtain ⟨rfl, hP, hK, hE⟩ := hv
  have hx := B.exec
  have hb := B.bytes
  have hr := B.returns
  have hts0 := atoms_spec (ws := (.code yX9_isPiece cX9_isPiece 2 (some .boolean) :: TBL)) B.pre
  have hts := fun (w : Cond) (h : w ∈ TBL) => hts0 w (List.mem_cons_of_mem _ h)
  have hown : s.vm.findClass RX9 = some m.cls := findClass_of_methodNamed B.named
  have hlocks := B.notSynchronized
  have hN := hE.1
  have hS : va_S (fun _ => False) s.heap s.heap [] := va_S.rf
  replace hP : va_P (dC, dI) vwCl [(a0, .inr (8, [.int a0_0, .int a0_1, .int a0_2, .int a0_3, .ref a0_4, .int a0_5, .int a0_6, .int a0_7, .int a0_8, .int a0_9, .int a0_10, .long a0_11, .int a0_12, .int a0_13, .int a0_14, .int a0_15, .int a0_16, .int a0_17, .ref a0_18, .ref a0_19, .ref a0_20, .ref a0_21, .ref a0_22, .ref a0_23, .ref a0_24, .ref a0_25, .ref a0_26, .ref a0_27, .ref a0_28, .ref a0_29, .ref a0_30, .ref a0_31, .ref a0_32, .ref a0_33, .ref a0_34, .ref a0_35, .long a0_36, .int a0_37, .ref a0_38, .ref a0_39, .int a0_40, .ref a0_41, .ref a0_42, .ref a0_43])), (a0_20, .inl (a0_20_c, 2, .inl a0_20_f))] s.heap := hP
  have hl := lv_entry ([.ref a0, .int a1]) (n := 2) (Nat.le_of_ble_eq_true rfl)
  rw [lg_entry_eq]
  generalize (lg_sl ([.ref a0, .int a1]) ++ List.replicate (2 - (lg_sl ([.ref a0, .int a1])).length) Slot.unset).toArray = ls at hl ⊢
  have hl : lv_has ls 2 [(0, .ref a0), (1, .int a1)] := hl
  have b_a1 := i32b a1
  have b_a0_0 := i32b a0_0
  have b_a0_1 := i32b a0_1
  have b_a0_2 := i32b a0_2
  have b_a0_3 := i32b a0_3
  have b_a0_9 := i32b a0_9
  have b_a0_10 := i32b a0_10
  have b_a0_12 := i32b a0_12
  have b_a0_13 := i32b a0_13
  have b_a0_14 := i32b a0_14
  have b_a0_15 := i32b a0_15
  have b_a0_16 := i32b a0_16
  refine lv_iload_n hx hb dX9_isPiece_0 rfl (lv_at hl 1 rfl) ?_
  refine lv_i2l hx hb dX9_isPiece_1 rfl ?_
  refine lv_lconst (v := 0) hx hb dX9_isPiece_2 (by decide) ?_
  refine lv_aload_n hx hb dX9_isPiece_3 rfl (lv_at hl 0 rfl) ?_
  refine va_get (D := (dC, dI)) (ci := 8) (v := .ref a0_20) (C := RX9) (T := TX9) (N := 44) hx hb hts inlX9 hown hK hP 0 rgL2_5ac5f51 rfl 20 (by decide) (hts (.fieldLink RX9 20 "ClosedUntilModel" "pieces" "[I") qw_439) (fun _ h9 => h9) rfl dX9_isPiece_4 ?_
  refine lv_iconst (v := 0) hx hb dX9_isPiece_7 (by decide) ?_
  refine va_iald hx hb hK hP 1 0 rgL2_906ef0f rgT1_bb00d73 (vin0 (by decide)) dX9_isPiece_8 ?_
  refine lv_topi (fun x1 e_x1 => ?_)
  have q_x1 : x1.toInt = (a0_20_f 0).toInt := congrArg Int32.toInt e_x1
  have b_x1 : 0 ≤ x1.toInt ∧ x1.toInt ≤ 24 := vr_at (lo := 0) (hi := 24) (f := a0_20_f) h_a0_20_f e_x1
  refine lv_iconst (v := 1) hx hb dX9_isPiece_9 (by decide) ?_
  refine lv_isub hx hb dX9_isPiece_10 ?_
  refine lv_topi (fun x2 e_x2 => ?_)
  try have e_x2 := ti_sub e_x2 rfl (show (1 : Int32).toInt = 1 by decide) (by omega)
  refine lv_i2l hx hb dX9_isPiece_11 rfl ?_
  have hPc := (rgP2_6c9046d hP)
  have hKc := (rgK1_f3b3254 hK)
  refine vp_callSi ((va_runS (As := [.long (a1.toInt64), .long 0, .long (x2.toInt64)]) (rest := []) ⟨hx, hb, hml, hown, hts⟩ (k_X9_within l dC dI g ((a1.toInt64)) (0) ((x2.toInt64)) (a1.toInt) (0) (x2.toInt) (w_li rfl) (by decide) (w_li rfl)) (va_cwS 3 hts (gwS qw_444 qw_445 qw_386 qw_443) rfl rfl rfl (by decide +kernel) ⟨Nat.le_of_ble_eq_true rfl, Nat.le_of_ble_eq_true rfl⟩) ⟨fun a U g9 mk q => ⟨q.1, q.2.1, va_K.moved (u := U) (U := U.calling g9 mk a) (Vm.Alike.refl U.vm) q.2.2.1, Ev.bl q.2.2.2⟩, fun U hU hW => ⟨rfl, atB hU hPc, va_K.moved hW.alike hKc, hE.go hS (fun _ h => h.elim) hU hW⟩⟩ rfl rfl hl.1 rfl (lv_room (Nat.le_of_ble_eq_true rfl)) dX9_isPiece_12 ⟨Nat.le_of_ble_eq_true rfl, Nat.le_of_ble_eq_true rfl⟩)).run (fun r3 h_r3 => ?_)
  have h_r3 : (r3 = 0 ∨ r3 = 1) ∧ ((r3.toInt = 1 ∧ 0 ≤ a1.toInt ∧ a1.toInt ≤ x2.toInt) ∨ (r3.toInt = 0 ∧ ¬ (0 ≤ a1.toInt ∧ a1.toInt ≤ x2.toInt))) := h_r3
  have b_r3 := z01 h_r3.1
  have hz_r3 : r3 = 0 ∨ r3 = 1 := by first | assumption | exact h_r3.1 | (rcases (show r3.toInt = 0 ∨ r3.toInt = 1 by omega) with q | q; exact Or.inl (Int32.toInt_inj.mp q); exact Or.inr (Int32.toInt_inj.mp q))
  exact W.zret (v := r3) hx hb hr (narB (by assumption)) (fun t ht hW => ⟨r3, rfl, ⟨hz_r3, (by omega)⟩, ht⟩) (fun _ h => absurd h List.not_mem_nil) dX9_isPiece_15
set_option maxHeartbeats 4000000 in
set_option maxRecDepth 100000 in
theorem k_X9_isClosure (l : Launch) (dC : Nat → ClassId) (dI : Nat → Nat → Nat) (g : Gv) (a0 : Nat) (a1 : Int32) (a0_0 : Int32) (a0_1 : Int32) (a0_2 : Int32) (a0_3 : Int32) (a0_4 : Nat) (a0_5 : Int32) (a0_6 : Int32) (a0_7 : Int32) (a0_8 : Int32) (a0_9 : Int32) (a0_10 : Int32) (a0_11 : Int64) (a0_12 : Int32) (a0_13 : Int32) (a0_14 : Int32) (a0_15 : Int32) (a0_16 : Int32) (a0_17 : Int32) (a0_18 : Nat) (a0_19 : Nat) (a0_20 : Nat) (a0_21 : Nat) (a0_22 : Nat) (a0_23 : Nat) (a0_24 : Nat) (a0_25 : Nat) (a0_26 : Nat) (a0_27 : Nat) (a0_28 : Nat) (a0_29 : Nat) (a0_30 : Nat) (a0_31 : Nat) (a0_32 : Nat) (a0_33 : Nat) (a0_34 : Nat) (a0_35 : Nat) (a0_36 : Int64) (a0_37 : Int32) (a0_38 : Nat) (a0_39 : Nat) (a0_40 : Int32) (a0_41 : Nat) (a0_42 : Nat) (a0_43 : Nat) (a0_21_c : ClassId) (a0_21_f : Nat → Int32) (h_a0_5 : 0 ≤ a0_5.toInt ∧ a0_5.toInt ≤ 1000) (h_a0_6 : 0 ≤ a0_6.toInt ∧ a0_6.toInt ≤ 1000) (h_a0_7 : 0 ≤ a0_7.toInt ∧ a0_7.toInt ≤ 1000) (h_a0_8 : 0 ≤ a0_8.toInt ∧ a0_8.toInt ≤ 1000) (h_a0_17 : 0 ≤ a0_17.toInt ∧ a0_17.toInt ≤ 1) (h_a0_37 : (-1) ≤ a0_37.toInt ∧ a0_37.toInt ≤ 23) (h_a0_40 : 0 ≤ a0_40.toInt ∧ a0_40.toInt ≤ 12) (h_a0_21_f : vr 0 12 a0_21_f) : Met l yX9_isClosure (.code yX9_isClosure cX9_isClosure 2 (some .boolean) :: TBL) ({ frames := 1, cells := 0, slots := 0, locals := 25 }) (va_Pc [.ref a0, .int a1] (fun U => va_P (dC, dI) vwCl [(a0, .inr (8, [.int a0_0, .int a0_1, .int a0_2, .int a0_3, .ref a0_4, .int a0_5, .int a0_6, .int a0_7, .int a0_8, .int a0_9, .int a0_10, .long a0_11, .int a0_12, .int a0_13, .int a0_14, .int a0_15, .int a0_16, .int a0_17, .ref a0_18, .ref a0_19, .ref a0_20, .ref a0_21, .ref a0_22, .ref a0_23, .ref a0_24, .ref a0_25, .ref a0_26, .ref a0_27, .ref a0_28, .ref a0_29, .ref a0_30, .ref a0_31, .ref a0_32, .ref a0_33, .ref a0_34, .ref a0_35, .long a0_36, .int a0_37, .ref a0_38, .ref a0_39, .int a0_40, .ref a0_41, .ref a0_42, .ref a0_43])), (a0_21, .inl (a0_21_c, 2, .inl a0_21_f))] U.heap ∧ va_K (dC, dI) vwCl [(a0_21_c, .int)] U ∧ Ev g (fun _ => False) U)) (vp_Si (fun (r : Int32) => (r = 0 ∨ r = 1) ∧ ((r.toInt = 1 ∧ 0 ≤ a1.toInt ∧ a1.toInt < (a0_21_f 0).toInt) ∨ r.toInt = 0))) 0 0 (fun _ => False) := by
  refine Met.ofW (cc := cX9_isClosure) (maxL := 2) (ret := (some .boolean)) (by decide) rfl ?_
  intro p e s m args below meth c s₁ B hml hv
  obtain ⟨rfl, hP, hK, hE⟩ := hv
  have hx := B.exec
  have hb := B.bytes
  have hr := B.returns
  have hts0 := atoms_spec (ws := (.code yX9_isClosure cX9_isClosure 2 (some .boolean) :: TBL)) B.pre
  have hts := fun (w : Cond) (h : w ∈ TBL) => hts0 w (List.mem_cons_of_mem _ h)
  have hown : s.vm.findClass RX9 = some m.cls := findClass_of_methodNamed B.named
  have hlocks := B.notSynchronized
  have hN := hE.1
  have hS : va_S (fun _ => False) s.heap s.heap [] := va_S.rf
  replace hP : va_P (dC, dI) vwCl [(a0, .inr (8, [.int a0_0, .int a0_1, .int a0_2, .int a0_3, .ref a0_4, .int a0_5, .int a0_6, .int a0_7, .int a0_8, .int a0_9, .int a0_10, .long a0_11, .int a0_12, .int a0_13, .int a0_14, .int a0_15, .int a0_16, .int a0_17, .ref a0_18, .ref a0_19, .ref a0_20, .ref a0_21, .ref a0_22, .ref a0_23, .ref a0_24, .ref a0_25, .ref a0_26, .ref a0_27, .ref a0_28, .ref a0_29, .ref a0_30, .ref a0_31, .ref a0_32, .ref a0_33, .ref a0_34, .ref a0_35, .long a0_36, .int a0_37, .ref a0_38, .ref a0_39, .int a0_40, .ref a0_41, .ref a0_42, .ref a0_43])), (a0_21, .inl (a0_21_c, 2, .inl a0_21_f))] s.heap := hP
  have hl := lv_entry ([.ref a0, .int a1]) (n := 2) (Nat.le_of_ble_eq_true rfl)
  rw [lg_entry_eq]
  generalize (lg_sl ([.ref a0, .int a1]) ++ List.replicate (2 - (lg_sl ([.ref a0, .int a1])).length) Slot.unset).toArray = ls at hl ⊢
  have hl : lv_has ls 2 [(0, .ref a0), (1, .int a1)] := hl
  have b_a1 := i32b a1
  have b_a0_0 := i32b a0_0
  have b_a0_1 := i32b a0_1
  have b_a0_2 := i32b a0_2
  have b_a0_3 := i32b a0_3
  have b_a0_9 := i32b a0_9
  have b_a0_10 := i32b a0_10
  have b_a0_12 := i32b a0_12
  have b_a0_13 := i32b a0_13
  have b_a0_14 := i32b a0_14
  have b_a0_15 := i32b a0_15
  have b_a0_16 := i32b a0_16
  refine lv_iload_n hx hb dX9_isClosure_0 rfl (lv_at hl 1 rfl) ?_
  refine lv_i2l hx hb dX9_isClosure_1 rfl ?_
  refine lv_lconst (v := 0) hx hb dX9_isClosure_2 (by decide) ?_
  refine lv_aload_n hx hb dX9_isClosure_3 rfl (lv_at hl 0 rfl) ?_
  refine va_get (D := (dC, dI)) (ci := 8) (v := .ref a0_21) (C := RX9) (T := TX9) (N := 44) hx hb hts inlX9 hown hK hP 0 rgL2_5ac5f51 rfl 21 (by decide) (hts (.fieldLink RX9 23 "ClosedUntilModel" "closures" "[I") qw_501) (fun _ h9 => h9) rfl dX9_isClosure_4 ?_
  refine lv_iconst (v := 0) hx hb dX9_isClosure_7 (by decide) ?_
  refine va_iald hx hb hK hP 1 0 rgL2_906ef0f rgT1_bb00d73 (vin0 (by decide)) dX9_isClosure_8 ?_
  refine lv_topi (fun x1 e_x1 => ?_)
  have q_x1 : x1.toInt = (a0_21_f 0).toInt := congrArg Int32.toInt e_x1
  have b_x1 : 0 ≤ x1.toInt ∧ x1.toInt ≤ 12 := vr_at (lo := 0) (hi := 12) (f := a0_21_f) h_a0_21_f e_x1
  refine lv_iconst (v := 1) hx hb dX9_isClosure_9 (by decide) ?_
  refine lv_isub hx hb dX9_isClosure_10 ?_
  refine lv_topi (fun x2 e_x2 => ?_)
  try have e_x2 := ti_sub e_x2 rfl (show (1 : Int32).toInt = 1 by decide) (by omega)
  refine lv_i2l hx hb dX9_isClosure_11 rfl ?_
  have hPc := (rgP2_6c9046d hP)
  have hKc := (rgK1_f3b3254 hK)
  refine vp_callSi ((va_runS (As := [.long (a1.toInt64), .long 0, .long (x2.toInt64)]) (rest := []) ⟨hx, hb, hml, hown, hts⟩ (k_X9_within l dC dI g ((a1.toInt64)) (0) ((x2.toInt64)) (a1.toInt) (0) (x2.toInt) (w_li rfl) (by decide) (w_li rfl)) (va_cwS 3 hts (gwS qw_444 qw_445 qw_386 qw_443) rfl rfl rfl (by decide +kernel) ⟨Nat.le_of_ble_eq_true rfl, Nat.le_of_ble_eq_true rfl⟩) ⟨fun a U g9 mk q => ⟨q.1, q.2.1, va_K.moved (u := U) (U := U.calling g9 mk a) (Vm.Alike.refl U.vm) q.2.2.1, Ev.bl q.2.2.2⟩, fun U hU hW => ⟨rfl, atB hU hPc, va_K.moved hW.alike hKc, hE.go hS (fun _ h => h.elim) hU hW⟩⟩ rfl rfl hl.1 rfl (lv_room (Nat.le_of_ble_eq_true rfl)) dX9_isClosure_12 ⟨Nat.le_of_ble_eq_true rfl, Nat.le_of_ble_eq_true rfl⟩)).run (fun r3 h_r3 => ?_)
  have h_r3 : (r3 = 0 ∨ r3 = 1) ∧ ((r3.toInt = 1 ∧ 0 ≤ a1.toInt ∧ a1.toInt ≤ x2.toInt) ∨ (r3.toInt = 0 ∧ ¬ (0 ≤ a1.toInt ∧ a1.toInt ≤ x2.toInt))) := h_r3
  have b_r3 := z01 h_r3.1
  have hz_r3 : r3 = 0 ∨ r3 = 1 := by first | assumption | exact h_r3.1 | (rcases (show r3.toInt = 0 ∨ r3.toInt = 1 by omega) with q | q; exact Or.inl (Int32.toInt_inj.mp q); exact Or.inr (Int32.toInt_inj.mp q))
  exact W.zret (v := r3) hx hb hr (narB (by assumption)) (fun t ht hW => ⟨r3, rfl, ⟨hz_r3, (by omega)⟩, ht⟩) (fun _ h => absurd h List.not_mem_nil) dX9_isClosure_15
set_option maxHeartbeats 4000000 in
set_option maxRecDepth 100000 in
theorem k_X9_isPerson (l : Launch) (dC : Nat → ClassId) (dI : Nat → Nat → Nat) (g : Gv) (a0 : Nat) (a1 : Int32) (a0_0 : Int32) (a0_1 : Int32) (a0_2 : Int32) (a0_3 : Int32) (a0_4 : Nat) (a0_5 : Int32) (a0_6 : Int32) (a0_7 : Int32) (a0_8 : Int32) (a0_9 : Int32) (a0_10 : Int32) (a0_11 : Int64) (a0_12 : Int32) (a0_13 : Int32) (a0_14 : Int32) (a0_15 : Int32) (a0_16 : Int32) (a0_17 : Int32) (a0_18 : Nat) (a0_19 : Nat) (a0_20 : Nat) (a0_21 : Nat) (a0_22 : Nat) (a0_23 : Nat) (a0_24 : Nat) (a0_25 : Nat) (a0_26 : Nat) (a0_27 : Nat) (a0_28 : Nat) (a0_29 : Nat) (a0_30 : Nat) (a0_31 : Nat) (a0_32 : Nat) (a0_33 : Nat) (a0_34 : Nat) (a0_35 : Nat) (a0_36 : Int64) (a0_37 : Int32) (a0_38 : Nat) (a0_39 : Nat) (a0_40 : Int32) (a0_41 : Nat) (a0_42 : Nat) (a0_43 : Nat) (a0_18_c : ClassId) (a0_18_f : Nat → Int32) (h_a0_5 : 0 ≤ a0_5.toInt ∧ a0_5.toInt ≤ 1000) (h_a0_6 : 0 ≤ a0_6.toInt ∧ a0_6.toInt ≤ 1000) (h_a0_7 : 0 ≤ a0_7.toInt ∧ a0_7.toInt ≤ 1000) (h_a0_8 : 0 ≤ a0_8.toInt ∧ a0_8.toInt ≤ 1000) (h_a0_17 : 0 ≤ a0_17.toInt ∧ a0_17.toInt ≤ 1) (h_a0_37 : (-1) ≤ a0_37.toInt ∧ a0_37.toInt ≤ 23) (h_a0_40 : 0 ≤ a0_40.toInt ∧ a0_40.toInt ≤ 12) (h_a0_18_f : vr 0 8 a0_18_f) : Met l yX9_isPerson (.code yX9_isPerson cX9_isPerson 2 (some .boolean) :: TBL) ({ frames := 1, cells := 0, slots := 0, locals := 25 }) (va_Pc [.ref a0, .int a1] (fun U => va_P (dC, dI) vwCl [(a0, .inr (8, [.int a0_0, .int a0_1, .int a0_2, .int a0_3, .ref a0_4, .int a0_5, .int a0_6, .int a0_7, .int a0_8, .int a0_9, .int a0_10, .long a0_11, .int a0_12, .int a0_13, .int a0_14, .int a0_15, .int a0_16, .int a0_17, .ref a0_18, .ref a0_19, .ref a0_20, .ref a0_21, .ref a0_22, .ref a0_23, .ref a0_24, .ref a0_25, .ref a0_26, .ref a0_27, .ref a0_28, .ref a0_29, .ref a0_30, .ref a0_31, .ref a0_32, .ref a0_33, .ref a0_34, .ref a0_35, .long a0_36, .int a0_37, .ref a0_38, .ref a0_39, .int a0_40, .ref a0_41, .ref a0_42, .ref a0_43])), (a0_18, .inl (a0_18_c, 2, .inl a0_18_f))] U.heap ∧ va_K (dC, dI) vwCl [(a0_18_c, .int)] U ∧ Ev g (fun _ => False) U)) (vp_Si (fun (r : Int32) => (r = 0 ∨ r = 1) ∧ ((r.toInt = 1 ∧ 0 ≤ a1.toInt ∧ a1.toInt < (a0_18_f 0).toInt) ∨ r.toInt = 0))) 0 0 (fun _ => False) := by
  refine Met.ofW (cc := cX9_isPerson) (maxL := 2) (ret := (some .boolean)) (by decide) rfl ?_
  intro p e s m args below meth c s₁ B hml hv
  obtain ⟨rfl, hP, hK, hE⟩ := hv
  have hx := B.exec
  have hb := B.bytes
  have hr := B.returns
  have hts0 := atoms_spec (ws := (.code yX9_isPerson cX9_isPerson 2 (some .boolean) :: TBL)) B.pre
  have hts := fun (w : Cond) (h : w ∈ TBL) => hts0 w (List.mem_cons_of_mem _ h)
  have hown : s.vm.findClass RX9 = some m.cls := findClass_of_methodNamed B.named
  have hlocks := B.notSynchronized
  have hN := hE.1
  have hS : va_S (fun _ => False) s.heap s.heap [] := va_S.rf
  replace hP : va_P (dC, dI) vwCl [(a0, .inr (8, [.int a0_0, .int a0_1, .int a0_2, .int a0_3, .ref a0_4, .int a0_5, .int a0_6, .int a0_7, .int a0_8, .int a0_9, .int a0_10, .long a0_11, .int a0_12, .int a0_13, .int a0_14, .int a0_15, .int a0_16, .int a0_17, .ref a0_18, .ref a0_19, .ref a0_20, .ref a0_21, .ref a0_22, .ref a0_23, .ref a0_24, .ref a0_25, .ref a0_26, .ref a0_27, .ref a0_28, .ref a0_29, .ref a0_30, .ref a0_31, .ref a0_32, .ref a0_33, .ref a0_34, .ref a0_35, .long a0_36, .int a0_37, .ref a0_38, .ref a0_39, .int a0_40, .ref a0_41, .ref a0_42, .ref a0_43])), (a0_18, .inl (a0_18_c, 2, .inl a0_18_f))] s.heap := hP
  have hl := lv_entry ([.ref a0, .int a1]) (n := 2) (Nat.le_of_ble_eq_true rfl)
  rw [lg_entry_eq]
  generalize (lg_sl ([.ref a0, .int a1]) ++ List.replicate (2 - (lg_sl ([.ref a0, .int a1])).length) Slot.unset).toArray = ls at hl ⊢
  have hl : lv_has ls 2 [(0, .ref a0), (1, .int a1)] := hl
  have b_a1 := i32b a1
  have b_a0_0 := i32b a0_0
  have b_a0_1 := i32b a0_1
  have b_a0_2 := i32b a0_2
  have b_a0_3 := i32b a0_3
  have b_a0_9 := i32b a0_9
  have b_a0_10 := i32b a0_10
  have b_a0_12 := i32b a0_12
  have b_a0_13 := i32b a0_13
  have b_a0_14 := i32b a0_14
  have b_a0_15 := i32b a0_15
  have b_a0_16 := i32b a0_16
  refine lv_iload_n hx hb dX9_isPerson_0 rfl (lv_at hl 1 rfl) ?_
  refine lv_i2l hx hb dX9_isPerson_1 rfl ?_
  refine lv_lconst (v := 0) hx hb dX9_isPerson_2 (by decide) ?_
  refine lv_aload_n hx hb dX9_isPerson_3 rfl (lv_at hl 0 rfl) ?_
  refine va_get (D := (dC, dI)) (ci := 8) (v := .ref a0_18) (C := RX9) (T := TX9) (N := 44) hx hb hts inlX9 hown hK hP 0 rgL2_5ac5f51 rfl 18 (by decide) (hts (.fieldLink RX9 13 "ClosedUntilModel" "people" "[I") qw_434) (fun _ h9 => h9) rfl dX9_isPerson_4 ?_
  refine lv_iconst (v := 0) hx hb dX9_isPerson_7 (by decide) ?_
  refine va_iald hx hb hK hP 1 0 rgL2_906ef0f rgT1_bb00d73 (vin0 (by decide)) dX9_isPerson_8 ?_
  refine lv_topi (fun x1 e_x1 => ?_)
  have q_x1 : x1.toInt = (a0_18_f 0).toInt := congrArg Int32.toInt e_x1
  have b_x1 : 0 ≤ x1.toInt ∧ x1.toInt ≤ 8 := vr_at (lo := 0) (hi := 8) (f := a0_18_f) h_a0_18_f e_x1
  refine lv_iconst (v := 1) hx hb dX9_isPerson_9 (by decide) ?_
  refine lv_isub hx hb dX9_isPerson_10 ?_
  refine lv_topi (fun x2 e_x2 => ?_)
  try have e_x2 := ti_sub e_x2 rfl (show (1 : Int32).toInt = 1 by decide) (by omega)
  refine lv_i2l hx hb dX9_isPerson_11 rfl ?_
  have hPc := (rgP2_6c9046d hP)
  have hKc := (rgK1_f3b3254 hK)
  refine vp_callSi ((va_runS (As := [.long (a1.toInt64), .long 0, .long (x2.toInt64)]) (rest := []) ⟨hx, hb, hml, hown, hts⟩ (k_X9_within l dC dI g ((a1.toInt64)) (0) ((x2.toInt64)) (a1.toInt) (0) (x2.toInt) (w_li rfl) (by decide) (w_li rfl)) (va_cwS 3 hts (gwS qw_444 qw_445 qw_386 qw_443) rfl rfl rfl (by decide +kernel) ⟨Nat.le_of_ble_eq_true rfl, Nat.le_of_ble_eq_true rfl⟩) ⟨fun a U g9 mk q => ⟨q.1, q.2.1, va_K.moved (u := U) (U := U.calling g9 mk a) (Vm.Alike.refl U.vm) q.2.2.1, Ev.bl q.2.2.2⟩, fun U hU hW => ⟨rfl, atB hU hPc, va_K.moved hW.alike hKc, hE.go hS (fun _ h => h.elim) hU hW⟩⟩ rfl rfl hl.1 rfl (lv_room (Nat.le_of_ble_eq_true rfl)) dX9_isPerson_12 ⟨Nat.le_of_ble_eq_true rfl, Nat.le_of_ble_eq_true rfl⟩)).run (fun r3 h_r3 => ?_)
  have h_r3 : (r3 = 0 ∨ r3 = 1) ∧ ((r3.toInt = 1 ∧ 0 ≤ a1.toInt ∧ a1.toInt ≤ x2.toInt) ∨ (r3.toInt = 0 ∧ ¬ (0 ≤ a1.toInt ∧ a1.toInt ≤ x2.toInt))) := h_r3
  have b_r3 := z01 h_r3.1
  have hz_r3 : r3 = 0 ∨ r3 = 1 := by first | assumption | exact h_r3.1 | (rcases (show r3.toInt = 0 ∨ r3.toInt = 1 by omega) with q | q; exact Or.inl (Int32.toInt_inj.mp q); exact Or.inr (Int32.toInt_inj.mp q))
  exact W.zret (v := r3) hx hb hr (narB (by assumption)) (fun t ht hW => ⟨r3, rfl, ⟨hz_r3, (by omega)⟩, ht⟩) (fun _ h => absurd h List.not_mem_nil) dX9_isPerson_15
set_option maxHeartbeats 4000000 in
set_option maxRecDepth 100000 in
theorem k_X9_isUnder (l : Launch) (dC : Nat → ClassId) (dI : Nat → Nat → Nat) (g : Gv) (a0 : Nat) (a1 : Int32) (a2 : Int32) (a0_0 : Int32) (a0_1 : Int32) (a0_2 : Int32) (a0_3 : Int32) (a0_4 : Nat) (a0_5 : Int32) (a0_6 : Int32) (a0_7 : Int32) (a0_8 : Int32) (a0_9 : Int32) (a0_10 : Int32) (a0_11 : Int64) (a0_12 : Int32) (a0_13 : Int32) (a0_14 : Int32) (a0_15 : Int32) (a0_16 : Int32) (a0_17 : Int32) (a0_18 : Nat) (a0_19 : Nat) (a0_20 : Nat) (a0_21 : Nat) (a0_22 : Nat) (a0_23 : Nat) (a0_24 : Nat) (a0_25 : Nat) (a0_26 : Nat) (a0_27 : Nat) (a0_28 : Nat) (a0_29 : Nat) (a0_30 : Nat) (a0_31 : Nat) (a0_32 : Nat) (a0_33 : Nat) (a0_34 : Nat) (a0_35 : Nat) (a0_36 : Int64) (a0_37 : Int32) (a0_38 : Nat) (a0_39 : Nat) (a0_40 : Int32) (a0_41 : Nat) (a0_42 : Nat) (a0_43 : Nat) (a0_38_c : ClassId) (a0_38_f : Nat → Int32) (nn : Int) (h_a0_5 : 0 ≤ a0_5.toInt ∧ a0_5.toInt ≤ 1000) (h_a0_6 : 0 ≤ a0_6.toInt ∧ a0_6.toInt ≤ 1000) (h_a0_7 : 0 ≤ a0_7.toInt ∧ a0_7.toInt ≤ 1000) (h_a0_8 : 0 ≤ a0_8.toInt ∧ a0_8.toInt ≤ 1000) (h_a0_17 : 0 ≤ a0_17.toInt ∧ a0_17.toInt ≤ 1) (h_a0_37 : (-1) ≤ a0_37.toInt ∧ a0_37.toInt ≤ 23) (h_a0_40 : 0 ≤ a0_40.toInt ∧ a0_40.toInt ≤ 12) (hnn : nn ≤ 24) (hms : RowOk nn a0_38_f 0) (hpc : a1.toInt = -1 ∨ (0 ≤ a1.toInt ∧ a1.toInt < nn)) (ho : 0 ≤ a2.toInt) : Met l yX9_isUnder (.code yX9_isUnder cX9_isUnder 4 (some .boolean) :: TBL) ({ frames := 0, cells := 0, slots := 0, locals := 0 }) (va_Pc [.ref a0, .int a1, .int a2] (fun U => va_P (dC, dI) vwCl [(a0, .inr (8, [.int a0_0, .int a0_1, .int a0_2, .int a0_3, .ref a0_4, .int a0_5, .int a0_6, .int a0_7, .int a0_8, .int a0_9, .int a0_10, .long a0_11, .int a0_12, .int a0_13, .int a0_14, .int a0_15, .int a0_16, .int a0_17, .ref a0_18, .ref a0_19, .ref a0_20, .ref a0_21, .ref a0_22, .ref a0_23, .ref a0_24, .ref a0_25, .ref a0_26, .ref a0_27, .ref a0_28, .ref a0_29, .ref a0_30, .ref a0_31, .ref a0_32, .ref a0_33, .ref a0_34, .ref a0_35, .long a0_36, .int a0_37, .ref a0_38, .ref a0_39, .int a0_40, .ref a0_41, .ref a0_42, .ref a0_43])), (a0_38, .inl (a0_38_c, 176, .inl a0_38_f))] U.heap ∧ va_K (dC, dI) vwCl [(a0_38_c, .int)] U ∧ Ev g (fun _ => False) U)) (vp_Si (fun (r : Int32) => (r = 0 ∨ r = 1) ∧ (r.toInt = 0 → UQ a0_38_f a2 a1))) 0 0 (fun _ => False) := by
  refine Met.ofW (cc := cX9_isUnder) (maxL := 4) (ret := (some .boolean)) (by decide) rfl ?_
  intro p e s m args below meth c s₁ B hml hv
  obtain ⟨rfl, hP, hK, hE⟩ := hv
  have hx := B.exec
  have hb := B.bytes
  have hr := B.returns
  have hts0 := atoms_spec (ws := (.code yX9_isUnder cX9_isUnder 4 (some .boolean) :: TBL)) B.pre
  have hts := fun (w : Cond) (h : w ∈ TBL) => hts0 w (List.mem_cons_of_mem _ h)
  have hown : s.vm.findClass RX9 = some m.cls := findClass_of_methodNamed B.named
  have hlocks := B.notSynchronized
  have hN := hE.1
  have hS : va_S (fun _ => False) s.heap s.heap [] := va_S.rf
  replace hP : va_P (dC, dI) vwCl [(a0, .inr (8, [.int a0_0, .int a0_1, .int a0_2, .int a0_3, .ref a0_4, .int a0_5, .int a0_6, .int a0_7, .int a0_8, .int a0_9, .int a0_10, .long a0_11, .int a0_12, .int a0_13, .int a0_14, .int a0_15, .int a0_16, .int a0_17, .ref a0_18, .ref a0_19, .ref a0_20, .ref a0_21, .ref a0_22, .ref a0_23, .ref a0_24, .ref a0_25, .ref a0_26, .ref a0_27, .ref a0_28, .ref a0_29, .ref a0_30, .ref a0_31, .ref a0_32, .ref a0_33, .ref a0_34, .ref a0_35, .long a0_36, .int a0_37, .ref a0_38, .ref a0_39, .int a0_40, .ref a0_41, .ref a0_42, .ref a0_43])), (a0_38, .inl (a0_38_c, 176, .inl a0_38_f))] s.heap := hP
  have hl := lv_entry ([.ref a0, .int a1, .int a2]) (n := 4) (Nat.le_of_ble_eq_true rfl)
  rw [lg_entry_eq]
  generalize (lg_sl ([.ref a0, .int a1, .int a2]) ++ List.replicate (4 - (lg_sl ([.ref a0, .int a1, .int a2])).length) Slot.unset).toArray = ls at hl ⊢
  have hl : lv_has ls 4 [(0, .ref a0), (1, .int a1), (2, .int a2)] := hl
  have b_a1 := i32b a1
  have b_a2 := i32b a2
  have b_a0_0 := i32b a0_0
  have b_a0_1 := i32b a0_1
  have b_a0_2 := i32b a0_2
  have b_a0_3 := i32b a0_3
  have b_a0_9 := i32b a0_9
  have b_a0_10 := i32b a0_10
  have b_a0_12 := i32b a0_12
  have b_a0_13 := i32b a0_13
  have b_a0_14 := i32b a0_14
  have b_a0_15 := i32b a0_15
  have b_a0_16 := i32b a0_16
  have hms0 := hms
  obtain ⟨⟨rk, hrk⟩, hmo⟩ := hms0
  refine lv_iload_n hx hb dX9_isUnder_0 rfl (lv_at hl 1 rfl) ?_
  refine lv_istore_n (lv' := [(3, .int a1), (0, .ref a0), (1, .int a1), (2, .int a2)]) hx hb dX9_isUnder_1 rfl hl (by decide) rfl (fun ls hl => ?_)
  refine wloop (fun n H locs ls => ∃ (l2_3 : Int32), n = fm rk l2_3 ∧ (l2_3.toInt = -1 ∨ (0 ≤ l2_3.toInt ∧ l2_3.toInt < nn)) ∧ (UQ a0_38_f a2 l2_3 → UQ a0_38_f a2 a1) ∧ lv_has ls 4 [(3, .int l2_3), (0, .ref a0), (1, .int a1), (2, .int a2)] ∧ H = s.heap ∧ locs = []) ?_ (fm rk a1) _ _ _ ⟨a1, rfl, (by omega), (fun q => q), lv_sub hl [0, 1, 2, 3] rfl, rfl, rfl⟩
  intro n2 H locs ls hI ih2
  obtain ⟨l2_3, hn2, gx2_0, gx2_1, hl, rfl, rfl⟩ := hI
  have b_l2_3 := i32b l2_3
  refine lv_iload_n hx hb dX9_isUnder_2 rfl (lv_at hl 0 rfl) ?_
  refine lv_iconst (v := (-1)) hx hb dX9_isUnder_3 (by decide) ?_
  refine lv_icmp_eq (tgt := 22) hx hb dX9_isUnder_4 (by decide) (fun c4_1 => ?_) (fun c4_1 => ?_)
  · have c4_1 : l2_3.toInt = (-1) := (cv_eq rfl (by decide)).mp c4_1
    refine lv_iload_n hx hb dX9_isUnder_22 rfl (lv_at hl 0 rfl) ?_
    refine lv_iload_n hx hb dX9_isUnder_23 rfl (lv_at hl 3 rfl) ?_
    refine lv_icmp_ne (tgt := 31) hx hb dX9_isUnder_24 (by decide) (fun c24_2 => ?_) (fun c24_2 => ?_)
    · have c24_2 : ¬ (l2_3.toInt = a2.toInt) := mt (cv_eq rfl rfl).mpr c24_2
      refine lv_iconst (v := 0) hx hb dX9_isUnder_31 (by decide) ?_
      exact W.zret (v := 0) hx hb hr rfl (fun t ht hW => ⟨0, rfl, ⟨(by decide), (fun _ => gx2_1 (UQ.nil (by omega)))⟩, ht⟩) (fun _ h => absurd h List.not_mem_nil) dX9_isUnder_32
    · have c24_2 : l2_3.toInt = a2.toInt := (cv_eq rfl rfl).mp c24_2
      refine lv_iconst (v := 1) hx hb dX9_isUnder_27 (by decide) ?_
      refine lv_goto (tgt := 32) hx hb dX9_isUnder_28 (by decide) ?_
      exact W.zret (v := 1) hx hb hr rfl (fun t ht hW => ⟨1, rfl, ⟨(by decide), (fun q => absurd q (by decide))⟩, ht⟩) (fun _ h => absurd h List.not_mem_nil) dX9_isUnder_32
  · have c4_1 : ¬ (l2_3.toInt = (-1)) := mt (cv_eq rfl (by decide)).mpr c4_1
    refine lv_iload_n hx hb dX9_isUnder_7 rfl (lv_at hl 0 rfl) ?_
    refine lv_iload_n hx hb dX9_isUnder_8 rfl (lv_at hl 3 rfl) ?_
    refine lv_icmp_eq (tgt := 22) hx hb dX9_isUnder_9 (by decide) (fun c9_3 => ?_) (fun c9_3 => ?_)
    · have c9_3 : l2_3.toInt = a2.toInt := (cv_eq rfl rfl).mp c9_3
      refine lv_iload_n hx hb dX9_isUnder_22 rfl (lv_at hl 0 rfl) ?_
      refine lv_iload_n hx hb dX9_isUnder_23 rfl (lv_at hl 3 rfl) ?_
      refine lv_icmp_ne (tgt := 31) hx hb dX9_isUnder_24 (by decide) (fun c24_4 => ?_) (fun c24_4 => ?_)
      · have c24_4 : ¬ (l2_3.toInt = a2.toInt) := mt (cv_eq rfl rfl).mpr c24_4
        refine lv_iconst (v := 0) hx hb dX9_isUnder_31 (by decide) ?_
        exact W.zret (v := 0) hx hb hr rfl (fun t ht hW => ⟨0, rfl, ⟨(by decide), (fun _ => gx2_1 (UQ.nil (by omega)))⟩, ht⟩) (fun _ h => absurd h List.not_mem_nil) dX9_isUnder_32
      · have c24_4 : l2_3.toInt = a2.toInt := (cv_eq rfl rfl).mp c24_4
        refine lv_iconst (v := 1) hx hb dX9_isUnder_27 (by decide) ?_
        refine lv_goto (tgt := 32) hx hb dX9_isUnder_28 (by decide) ?_
        exact W.zret (v := 1) hx hb hr rfl (fun t ht hW => ⟨1, rfl, ⟨(by decide), (fun q => absurd q (by decide))⟩, ht⟩) (fun _ h => absurd h List.not_mem_nil) dX9_isUnder_32
    · have c9_3 : ¬ (l2_3.toInt = a2.toInt) := mt (cv_eq rfl rfl).mpr c9_3
      refine lv_aload_n hx hb dX9_isUnder_12 rfl (lv_at hl 1 rfl) ?_
      refine va_get (D := (dC, dI)) (ci := 8) (v := .ref a0_38) (C := RX9) (T := TX9) (N := 44) hx hb hts inlX9 hown hK hP 0 rgL2_5ac5f51 rfl 38 (by decide) (hts (.fieldLink RX9 70 "ClosedUntilModel" "s" "[I") qw_502) (fun _ h9 => h9) rfl dX9_isUnder_13 ?_
      refine lv_iload_n hx hb dX9_isUnder_16 rfl (lv_at hl 0 rfl) ?_
      refine va_iald hx hb hK hP 1 0 rgL2_906ef0f rgT1_bb00d73 (vinI (by omega) (by omega)) dX9_isUnder_17 ?_
      refine lv_topi (fun x5 e_x5 => ?_)
      have q_x5 := congrArg Int32.toInt e_x5
      have b_x5 := i32b x5
      refine lv_istore_n (lv' := [(3, .int x5), (0, .ref a0), (1, .int a1), (2, .int a2)]) hx hb dX9_isUnder_18 rfl hl (by decide) rfl (fun ls hl => ?_)
      refine lv_goto (tgt := 2) hx hb dX9_isUnder_19 (by decide) ?_
      have hst := FO.step hrk (p := l2_3) (by omega) (by omega) e_x5
      exact ih2 (fm rk x5) _ _ _ (by rw [hn2]; exact fm_step hst (by omega)) ⟨x5, rfl, (by omega), (fun q => gx2_1 (UQ.up e_x5 (by omega) (by omega) (by omega) q)), lv_sub hl [0, 1, 2, 3] rfl, rfl, rfl⟩
set_option maxHeartbeats 4000000 in
set_option maxRecDepth 100000 in
theorem k_X9_under (l : Launch) (dC : Nat → ClassId) (dI : Nat → Nat → Nat) (g : Gv) (a0 : Nat) (a1 : Int32) (a0_0 : Int32) (a0_1 : Int32) (a0_2 : Int32) (a0_3 : Int32) (a0_4 : Nat) (a0_5 : Int32) (a0_6 : Int32) (a0_7 : Int32) (a0_8 : Int32) (a0_9 : Int32) (a0_10 : Int32) (a0_11 : Int64) (a0_12 : Int32) (a0_13 : Int32) (a0_14 : Int32) (a0_15 : Int32) (a0_16 : Int32) (a0_17 : Int32) (a0_18 : Nat) (a0_19 : Nat) (a0_20 : Nat) (a0_21 : Nat) (a0_22 : Nat) (a0_23 : Nat) (a0_24 : Nat) (a0_25 : Nat) (a0_26 : Nat) (a0_27 : Nat) (a0_28 : Nat) (a0_29 : Nat) (a0_30 : Nat) (a0_31 : Nat) (a0_32 : Nat) (a0_33 : Nat) (a0_34 : Nat) (a0_35 : Nat) (a0_36 : Int64) (a0_37 : Int32) (a0_38 : Nat) (a0_39 : Nat) (a0_40 : Int32) (a0_41 : Nat) (a0_42 : Nat) (a0_43 : Nat) (a0_20_c : ClassId) (a0_20_f : Nat → Int32) (a0_38_c : ClassId) (a0_38_f : Nat → Int32) (h_a0_5 : 0 ≤ a0_5.toInt ∧ a0_5.toInt ≤ 1000) (h_a0_6 : 0 ≤ a0_6.toInt ∧ a0_6.toInt ≤ 1000) (h_a0_7 : 0 ≤ a0_7.toInt ∧ a0_7.toInt ≤ 1000) (h_a0_8 : 0 ≤ a0_8.toInt ∧ a0_8.toInt ≤ 1000) (h_a0_17 : 0 ≤ a0_17.toInt ∧ a0_17.toInt ≤ 1) (h_a0_37 : (-1) ≤ a0_37.toInt ∧ a0_37.toInt ≤ 23) (h_a0_40 : 0 ≤ a0_40.toInt ∧ a0_40.toInt ≤ 12) (h_a0_20_f : vr 0 24 a0_20_f) (hms : RowOk (a0_20_f 0).toInt a0_38_f 0) (ho : 0 ≤ a1.toInt) : Met l yX9_under (.code yX9_under cX9_under 4 (some .int) :: TBL) ({ frames := 1, cells := 0, slots := 0, locals := 23 }) (va_Pc [.ref a0, .int a1] (fun U => va_P (dC, dI) vwCl [(a0, .inr (8, [.int a0_0, .int a0_1, .int a0_2, .int a0_3, .ref a0_4, .int a0_5, .int a0_6, .int a0_7, .int a0_8, .int a0_9, .int a0_10, .long a0_11, .int a0_12, .int a0_13, .int a0_14, .int a0_15, .int a0_16, .int a0_17, .ref a0_18, .ref a0_19, .ref a0_20, .ref a0_21, .ref a0_22, .ref a0_23, .ref a0_24, .ref a0_25, .ref a0_26, .ref a0_27, .ref a0_28, .ref a0_29, .ref a0_30, .ref a0_31, .ref a0_32, .ref a0_33, .ref a0_34, .ref a0_35, .long a0_36, .int a0_37, .ref a0_38, .ref a0_39, .int a0_40, .ref a0_41, .ref a0_42, .ref a0_43])), (a0_20, .inl (a0_20_c, 2, .inl a0_20_f)), (a0_38, .inl (a0_38_c, 176, .inl a0_38_f))] U.heap ∧ va_K (dC, dI) vwCl [(a0_20_c, .int), (a0_38_c, .int)] U ∧ Ev g (fun _ => False) U)) (vp_Si (fun (r : Int32) => True)) 0 0 (fun _ => False) := by
  refine Met.ofW (cc := cX9_under) (maxL := 4) (ret := (some .int)) (by decide) rfl ?_
  intro p e s m args below meth c s₁ B hml hv
  obtain ⟨rfl, hP, hK, hE⟩ := hv
  have hx := B.exec
  have hb := B.bytes
  have hr := B.returns
  have hts0 := atoms_spec (ws := (.code yX9_under cX9_under 4 (some .int) :: TBL)) B.pre
  have hts := fun (w : Cond) (h : w ∈ TBL) => hts0 w (List.mem_cons_of_mem _ h)
  have hown : s.vm.findClass RX9 = some m.cls := findClass_of_methodNamed B.named
  have hlocks := B.notSynchronized
  have hN := hE.1
  have hS : va_S (fun _ => False) s.heap s.heap [] := va_S.rf
  replace hP : va_P (dC, dI) vwCl [(a0, .inr (8, [.int a0_0, .int a0_1, .int a0_2, .int a0_3, .ref a0_4, .int a0_5, .int a0_6, .int a0_7, .int a0_8, .int a0_9, .int a0_10, .long a0_11, .int a0_12, .int a0_13, .int a0_14, .int a0_15, .int a0_16, .int a0_17, .ref a0_18, .ref a0_19, .ref a0_20, .ref a0_21, .ref a0_22, .ref a0_23, .ref a0_24, .ref a0_25, .ref a0_26, .ref a0_27, .ref a0_28, .ref a0_29, .ref a0_30, .ref a0_31, .ref a0_32, .ref a0_33, .ref a0_34, .ref a0_35, .long a0_36, .int a0_37, .ref a0_38, .ref a0_39, .int a0_40, .ref a0_41, .ref a0_42, .ref a0_43])), (a0_20, .inl (a0_20_c, 2, .inl a0_20_f)), (a0_38, .inl (a0_38_c, 176, .inl a0_38_f))] s.heap := hP
  have hl := lv_entry ([.ref a0, .int a1]) (n := 4) (Nat.le_of_ble_eq_true rfl)
  rw [lg_entry_eq]
  generalize (lg_sl ([.ref a0, .int a1]) ++ List.replicate (4 - (lg_sl ([.ref a0, .int a1])).length) Slot.unset).toArray = ls at hl ⊢
  have hl : lv_has ls 4 [(0, .ref a0), (1, .int a1)] := hl
  have b_a1 := i32b a1
  have b_a0_0 := i32b a0_0
  have b_a0_1 := i32b a0_1
  have b_a0_2 := i32b a0_2
  have b_a0_3 := i32b a0_3
  have b_a0_9 := i32b a0_9
  have b_a0_10 := i32b a0_10
  have b_a0_12 := i32b a0_12
  have b_a0_13 := i32b a0_13
  have b_a0_14 := i32b a0_14
  have b_a0_15 := i32b a0_15
  have b_a0_16 := i32b a0_16
  have hp20 := vr_at h_a0_20_f (k := 0) rfl
  refine lv_iconst (v := 0) hx hb dX9_under_0 (by decide) ?_
  refine lv_istore_n (lv' := [(2, .int 0), (0, .ref a0), (1, .int a1)]) hx hb dX9_under_1 rfl hl (by decide) rfl (fun ls hl => ?_)
  refine lv_iconst (v := 0) hx hb dX9_under_2 (by decide) ?_
  refine lv_istore_n (lv' := [(3, .int 0), (2, .int 0), (0, .ref a0), (1, .int a1)]) hx hb dX9_under_3 rfl hl (by decide) rfl (fun ls hl => ?_)
  have qc0 : (0 : Int32).toInt = 0 := by decide
  refine wloop (fun n H locs ls => ∃ (l4_3 : Int32) (l4_2 : Int32), n = (2147483647 - l4_3.toInt).toNat ∧ (0 ≤ l4_3.toInt) ∧ lv_has ls 4 [(3, .int l4_3), (2, .int l4_2), (0, .ref a0), (1, .int a1)] ∧ H = s.heap ∧ locs = []) ?_ ((2147483647 - (0 : Int32).toInt).toNat) _ _ _ ⟨0, 0, rfl, (by omega), lv_sub hl [0, 1, 2, 3] rfl, rfl, rfl⟩
  intro n4 H locs ls hI ih4
  obtain ⟨l4_3, l4_2, hn4, g_l4_3, hl, rfl, rfl⟩ := hI
  have b_l4_3 := i32b l4_3
  have b_l4_2 := i32b l4_2
  refine lv_iload_n hx hb dX9_under_4 rfl (lv_at hl 0 rfl) ?_
  refine lv_aload_n hx hb dX9_under_5 rfl (lv_at hl 2 rfl) ?_
  refine va_get (D := (dC, dI)) (ci := 8) (v := .ref a0_20) (C := RX9) (T := TX9) (N := 44) hx hb hts inlX9 hown hK hP 0 rgL3_619f1f5 rfl 20 (by decide) (hts (.fieldLink RX9 20 "ClosedUntilModel" "pieces" "[I") qw_439) (fun _ h9 => h9) rfl dX9_under_6 ?_
  refine lv_iconst (v := 0) hx hb dX9_under_9 (by decide) ?_
  refine va_iald hx hb hK hP 1 0 rgL3_6f2f016 rgT2_453da77 (vin0 (by decide)) dX9_under_10 ?_
  refine lv_topi (fun x1 e_x1 => ?_)
  have q_x1 : x1.toInt = (a0_20_f 0).toInt := congrArg Int32.toInt e_x1
  have b_x1 : 0 ≤ x1.toInt ∧ x1.toInt ≤ 24 := vr_at (lo := 0) (hi := 24) (f := a0_20_f) h_a0_20_f e_x1
  refine lv_icmp_ge (tgt := 39) hx hb dX9_under_11 (by decide) (fun c11_2 => ?_) (fun c11_2 => ?_)
  · have c11_2 : x1.toInt ≤ l4_3.toInt := (cv_le rfl rfl).mp c11_2
    refine lv_iload_n hx hb dX9_under_39 rfl (lv_at hl 1 rfl) ?_
    exact W.iret (v := l4_2) hx hb hr (fun t ht hW => ⟨l4_2, rfl, trivial, ht⟩) (fun _ h => absurd h List.not_mem_nil) dX9_under_40
  · have c11_2 : ¬ (x1.toInt ≤ l4_3.toInt) := mt (cv_le rfl rfl).mpr c11_2
    refine lv_iload_n hx hb dX9_under_14 rfl (lv_at hl 1 rfl) ?_
    refine lv_aload_n hx hb dX9_under_15 rfl (lv_at hl 2 rfl) ?_
    refine lv_iload_n hx hb dX9_under_16 rfl (lv_at hl 0 rfl) ?_
    refine lv_iload_n hx hb dX9_under_17 rfl (lv_at hl 3 rfl) ?_
    have hPc := (rgP3_e9f0f62 hP)
    have hKc := (rgK2_f44ed73 hK)
    refine vp_callSi ((va_runV (As := [.int l4_3, .int a1]) (rest := [.int l4_2]) ⟨hx, hb, hml, hown, hts⟩ (k_X9_isUnder l dC dI g (a0) (l4_3) (a1) (a0_0) (a0_1) (a0_2) (a0_3) (a0_4) (a0_5) (a0_6) (a0_7) (a0_8) (a0_9) (a0_10) (a0_11) (a0_12) (a0_13) (a0_14) (a0_15) (a0_16) (a0_17) (a0_18) (a0_19) (a0_20) (a0_21) (a0_22) (a0_23) (a0_24) (a0_25) (a0_26) (a0_27) (a0_28) (a0_29) (a0_30) (a0_31) (a0_32) (a0_33) (a0_34) (a0_35) (a0_36) (a0_37) (a0_38) (a0_39) (a0_40) (a0_41) (a0_42) (a0_43) (a0_38_c) (a0_38_f) ((a0_20_f 0).toInt) (by omega) (by omega) (by omega) (by omega) (by omega) (by omega) (by omega) (by omega) (by assumption) (by omega) (by omega)) (cwV 2 hts (gwV qw_504 qw_505 qw_506 qw_386 qw_503) rfl rfl rfl (by decide +kernel) ⟨Nat.le_of_ble_eq_true rfl, Nat.le_of_ble_eq_true rfl⟩) ⟨fun a U g9 mk q => ⟨q.1, q.2.1, va_K.moved (u := U) (U := U.calling g9 mk a) (Vm.Alike.refl U.vm) q.2.2.1, Ev.bl q.2.2.2⟩, va_recv hK hP (ci := 8) (q0 := 0) rfl rgL3_619f1f5, fun U hU hW => ⟨rfl, atB hU hPc, va_K.moved hW.alike hKc, hE.go hS (fun _ h => h.elim) hU hW⟩⟩ rfl rfl hl.1 rfl (lv_room (Nat.le_of_ble_eq_true rfl)) dX9_under_18 ⟨Nat.le_of_ble_eq_true rfl, Nat.le_of_ble_eq_true rfl⟩)).run (fun r3 h_r3 => ?_)
    have h_r3 : (r3 = 0 ∨ r3 = 1) ∧ (r3.toInt = 0 → UQ a0_38_f a1 l4_3) := h_r3
    have b_r3 := z01 (show r3 = 0 ∨ r3 = 1 from h_r3.1)
    refine lv_if_eq (tgt := 30) hx hb dX9_under_21 (by decide) (fun c21_4 => ?_) (fun c21_4 => ?_)
    · have c21_4 : r3.toInt = 0 := (cv_eq rfl (by decide)).mp c21_4
      refine lv_iconst (v := 0) hx hb dX9_under_30 (by decide) ?_
      refine lv_ior hx hb dX9_under_31 ?_
      refine lv_topi (fun x5 e_x5 => ?_)
      refine lv_istore_n (lv' := [(2, .int x5), (3, .int l4_3), (0, .ref a0), (1, .int a1)]) hx hb dX9_under_32 rfl hl (by decide) rfl (fun ls hl => ?_)
      obtain ⟨x6, e_x6⟩ : ∃ y : Int32, y = l4_3 + 1 := ⟨_, rfl⟩
      refine lv_iinc (v := x6) (lv' := [(3, .int x6), (2, .int x5), (0, .ref a0), (1, .int a1)]) hx hb dX9_under_33 hl (k := 1) rfl (by rw [e_x6]; rfl) (by decide) rfl (fun ls hl => ?_)
      try have e_x6 := ti_add e_x6 rfl (show (1 : Int32).toInt = 1 by decide) (by omega)
      refine lv_goto (tgt := 4) hx hb dX9_under_36 (by decide) ?_
      exact ih4 ((2147483647 - x6.toInt).toNat) _ _ _ (by omega) ⟨x6, x5, rfl, (by omega), lv_sub hl [0, 1, 2, 3] rfl, rfl, rfl⟩
    · have c21_4 : ¬ (r3.toInt = 0) := mt (cv_eq rfl (by decide)).mpr c21_4
      refine lv_iconst (v := 1) hx hb dX9_under_24 (by decide) ?_
      refine lv_iload_n hx hb dX9_under_25 rfl (lv_at hl 0 rfl) ?_
      refine lv_ishl hx hb dX9_under_26 ?_
      refine lv_topi (fun x7 e_x7 => ?_)
      refine lv_goto (tgt := 31) hx hb dX9_under_27 (by decide) ?_
      refine lv_ior hx hb dX9_under_31 ?_
      refine lv_topi (fun x8 e_x8 => ?_)
      refine lv_istore_n (lv' := [(2, .int x8), (3, .int l4_3), (0, .ref a0), (1, .int a1)]) hx hb dX9_under_32 rfl hl (by decide) rfl (fun ls hl => ?_)
      obtain ⟨x9, e_x9⟩ : ∃ y : Int32, y = l4_3 + 1 := ⟨_, rfl⟩
      refine lv_iinc (v := x9) (lv' := [(3, .int x9), (2, .int x8), (0, .ref a0), (1, .int a1)]) hx hb dX9_under_33 hl (k := 1) rfl (by rw [e_x9]; rfl) (by decide) rfl (fun ls hl => ?_)
      try have e_x9 := ti_add e_x9 rfl (show (1 : Int32).toInt = 1 by decide) (by omega)
      refine lv_goto (tgt := 4) hx hb dX9_under_36 (by decide) ?_
      exact ih4 ((2147483647 - x9.toInt).toNat) _ _ _ (by omega) ⟨x9, x8, rfl, (by omega), lv_sub hl [0, 1, 2, 3] rfl, rfl, rfl⟩
set_option maxHeartbeats 4000000 in
set_option maxRecDepth 100000 in
theorem k_X9_deep (l : Launch) (dC : Nat → ClassId) (dI : Nat → Nat → Nat) (g : Gv) (a0 : Nat) (a1 : Int32) (a0_0 : Int32) (a0_1 : Int32) (a0_2 : Int32) (a0_3 : Int32) (a0_4 : Nat) (a0_5 : Int32) (a0_6 : Int32) (a0_7 : Int32) (a0_8 : Int32) (a0_9 : Int32) (a0_10 : Int32) (a0_11 : Int64) (a0_12 : Int32) (a0_13 : Int32) (a0_14 : Int32) (a0_15 : Int32) (a0_16 : Int32) (a0_17 : Int32) (a0_18 : Nat) (a0_19 : Nat) (a0_20 : Nat) (a0_21 : Nat) (a0_22 : Nat) (a0_23 : Nat) (a0_24 : Nat) (a0_25 : Nat) (a0_26 : Nat) (a0_27 : Nat) (a0_28 : Nat) (a0_29 : Nat) (a0_30 : Nat) (a0_31 : Nat) (a0_32 : Nat) (a0_33 : Nat) (a0_34 : Nat) (a0_35 : Nat) (a0_36 : Int64) (a0_37 : Int32) (a0_38 : Nat) (a0_39 : Nat) (a0_40 : Int32) (a0_41 : Nat) (a0_42 : Nat) (a0_43 : Nat) (a0_38_c : ClassId) (a0_38_f : Nat → Int32) (nn : Int) (h_a0_5 : 0 ≤ a0_5.toInt ∧ a0_5.toInt ≤ 1000) (h_a0_6 : 0 ≤ a0_6.toInt ∧ a0_6.toInt ≤ 1000) (h_a0_7 : 0 ≤ a0_7.toInt ∧ a0_7.toInt ≤ 1000) (h_a0_8 : 0 ≤ a0_8.toInt ∧ a0_8.toInt ≤ 1000) (h_a0_17 : 0 ≤ a0_17.toInt ∧ a0_17.toInt ≤ 1) (h_a0_37 : (-1) ≤ a0_37.toInt ∧ a0_37.toInt ≤ 23) (h_a0_40 : 0 ≤ a0_40.toInt ∧ a0_40.toInt ≤ 12) (hnn : nn ≤ 24) (hms : RowOk nn a0_38_f 0) (hpc : 0 ≤ a1.toInt ∧ a1.toInt < nn) : Met l yX9_deep (.code yX9_deep cX9_deep 4 (some .int) :: TBL) ({ frames := 0, cells := 0, slots := 0, locals := 0 }) (va_Pc [.ref a0, .int a1] (fun U => va_P (dC, dI) vwCl [(a0, .inr (8, [.int a0_0, .int a0_1, .int a0_2, .int a0_3, .ref a0_4, .int a0_5, .int a0_6, .int a0_7, .int a0_8, .int a0_9, .int a0_10, .long a0_11, .int a0_12, .int a0_13, .int a0_14, .int a0_15, .int a0_16, .int a0_17, .ref a0_18, .ref a0_19, .ref a0_20, .ref a0_21, .ref a0_22, .ref a0_23, .ref a0_24, .ref a0_25, .ref a0_26, .ref a0_27, .ref a0_28, .ref a0_29, .ref a0_30, .ref a0_31, .ref a0_32, .ref a0_33, .ref a0_34, .ref a0_35, .long a0_36, .int a0_37, .ref a0_38, .ref a0_39, .int a0_40, .ref a0_41, .ref a0_42, .ref a0_43])), (a0_38, .inl (a0_38_c, 176, .inl a0_38_f))] U.heap ∧ va_K (dC, dI) vwCl [(a0_38_c, .int)] U ∧ Ev g (fun _ => False) U)) (vp_Si (fun (r : Int32) => True)) 0 0 (fun _ => False) := by
  refine Met.ofW (cc := cX9_deep) (maxL := 4) (ret := (some .int)) (by decide) rfl ?_
  intro p e s m args below meth c s₁ B hml hv
  obtain ⟨rfl, hP, hK, hE⟩ := hv
  have hx := B.exec
  have hb := B.bytes
  have hr := B.returns
  have hts0 := atoms_spec (ws := (.code yX9_deep cX9_deep 4 (some .int) :: TBL)) B.pre
  have hts := fun (w : Cond) (h : w ∈ TBL) => hts0 w (List.mem_cons_of_mem _ h)
  have hown : s.vm.findClass RX9 = some m.cls := findClass_of_methodNamed B.named
  have hlocks := B.notSynchronized
  have hN := hE.1
  have hS : va_S (fun _ => False) s.heap s.heap [] := va_S.rf
  replace hP : va_P (dC, dI) vwCl [(a0, .inr (8, [.int a0_0, .int a0_1, .int a0_2, .int a0_3, .ref a0_4, .int a0_5, .int a0_6, .int a0_7, .int a0_8, .int a0_9, .int a0_10, .long a0_11, .int a0_12, .int a0_13, .int a0_14, .int a0_15, .int a0_16, .int a0_17, .ref a0_18, .ref a0_19, .ref a0_20, .ref a0_21, .ref a0_22, .ref a0_23, .ref a0_24, .ref a0_25, .ref a0_26, .ref a0_27, .ref a0_28, .ref a0_29, .ref a0_30, .ref a0_31, .ref a0_32, .ref a0_33, .ref a0_34, .ref a0_35, .long a0_36, .int a0_37, .ref a0_38, .ref a0_39, .int a0_40, .ref a0_41, .ref a0_42, .ref a0_43])), (a0_38, .inl (a0_38_c, 176, .inl a0_38_f))] s.heap := hP
  have hl := lv_entry ([.ref a0, .int a1]) (n := 4) (Nat.le_of_ble_eq_true rfl)
  rw [lg_entry_eq]
  generalize (lg_sl ([.ref a0, .int a1]) ++ List.replicate (4 - (lg_sl ([.ref a0, .int a1])).length) Slot.unset).toArray = ls at hl ⊢
  have hl : lv_has ls 4 [(0, .ref a0), (1, .int a1)] := hl
  have b_a1 := i32b a1
  have b_a0_0 := i32b a0_0
  have b_a0_1 := i32b a0_1
  have b_a0_2 := i32b a0_2
  have b_a0_3 := i32b a0_3
  have b_a0_9 := i32b a0_9
  have b_a0_10 := i32b a0_10
  have b_a0_12 := i32b a0_12
  have b_a0_13 := i32b a0_13
  have b_a0_14 := i32b a0_14
  have b_a0_15 := i32b a0_15
  have b_a0_16 := i32b a0_16
  have hms0 := hms
  obtain ⟨⟨rk, hrk⟩, hmo⟩ := hms0
  refine lv_iconst (v := 0) hx hb dX9_deep_0 (by decide) ?_
  refine lv_istore_n (lv' := [(2, .int 0), (0, .ref a0), (1, .int a1)]) hx hb dX9_deep_1 rfl hl (by decide) rfl (fun ls hl => ?_)
  refine lv_aload_n hx hb dX9_deep_2 rfl (lv_at hl 1 rfl) ?_
  refine va_get (D := (dC, dI)) (ci := 8) (v := .ref a0_38) (C := RX9) (T := TX9) (N := 44) hx hb hts inlX9 hown hK hP 0 rgL2_5ac5f51 rfl 38 (by decide) (hts (.fieldLink RX9 70 "ClosedUntilModel" "s" "[I") qw_502) (fun _ h9 => h9) rfl dX9_deep_3 ?_
  refine lv_iload_n hx hb dX9_deep_6 rfl (lv_at hl 2 rfl) ?_
  refine va_iald hx hb hK hP 1 0 rgL2_906ef0f rgT1_bb00d73 (vinI (by omega) (by omega)) dX9_deep_7 ?_
  refine lv_topi (fun x1 e_x1 => ?_)
  have q_x1 := congrArg Int32.toInt e_x1
  have b_x1 := i32b x1
  have hst := FO.step hrk (p := a1) (by omega) (by omega) e_x1
  refine lv_istore_n (lv' := [(3, .int x1), (2, .int 0), (0, .ref a0), (1, .int a1)]) hx hb dX9_deep_8 rfl hl (by decide) rfl (fun ls hl => ?_)
  have qc0 : (0 : Int32).toInt = 0 := by decide
  refine wloop (fun n H locs ls => ∃ (l9_3 : Int32) (l9_2 : Int32), n = fm rk l9_3 ∧ (l9_3.toInt = -1 ∨ (0 ≤ l9_3.toInt ∧ l9_3.toInt < nn)) ∧ lv_has ls 4 [(3, .int l9_3), (2, .int l9_2), (0, .ref a0), (1, .int a1)] ∧ H = s.heap ∧ locs = []) ?_ (fm rk x1) _ _ _ ⟨x1, 0, rfl, (by omega), lv_sub hl [0, 1, 2, 3] rfl, rfl, rfl⟩
  intro n9 H locs ls hI ih9
  obtain ⟨l9_3, l9_2, hn9, gx9_0, hl, rfl, rfl⟩ := hI
  have b_l9_3 := i32b l9_3
  have b_l9_2 := i32b l9_2
  refine lv_iload_n hx hb dX9_deep_9 rfl (lv_at hl 0 rfl) ?_
  refine lv_iconst (v := (-1)) hx hb dX9_deep_10 (by decide) ?_
  refine lv_icmp_eq (tgt := 27) hx hb dX9_deep_11 (by decide) (fun c11_2 => ?_) (fun c11_2 => ?_)
  · have c11_2 : l9_3.toInt = (-1) := (cv_eq rfl (by decide)).mp c11_2
    refine lv_iload_n hx hb dX9_deep_27 rfl (lv_at hl 1 rfl) ?_
    exact W.iret (v := l9_2) hx hb hr (fun t ht hW => ⟨l9_2, rfl, trivial, ht⟩) (fun _ h => absurd h List.not_mem_nil) dX9_deep_28
  · have c11_2 : ¬ (l9_3.toInt = (-1)) := mt (cv_eq rfl (by decide)).mpr c11_2
    obtain ⟨x3, e_x3⟩ : ∃ y : Int32, y = l9_2 + 1 := ⟨_, rfl⟩
    refine lv_iinc (v := x3) (lv' := [(2, .int x3), (3, .int l9_3), (0, .ref a0), (1, .int a1)]) hx hb dX9_deep_14 hl (k := 1) rfl (by rw [e_x3]; rfl) (by decide) rfl (fun ls hl => ?_)
    try have e_x3 := ti_add e_x3 rfl (show (1 : Int32).toInt = 1 by decide) (by omega)
    refine lv_aload_n hx hb dX9_deep_17 rfl (lv_at hl 2 rfl) ?_
    refine va_get (D := (dC, dI)) (ci := 8) (v := .ref a0_38) (C := RX9) (T := TX9) (N := 44) hx hb hts inlX9 hown hK hP 0 rgL2_5ac5f51 rfl 38 (by decide) (hts (.fieldLink RX9 70 "ClosedUntilModel" "s" "[I") qw_502) (fun _ h9 => h9) rfl dX9_deep_18 ?_
    refine lv_iload_n hx hb dX9_deep_21 rfl (lv_at hl 1 rfl) ?_
    refine va_iald hx hb hK hP 1 0 rgL2_906ef0f rgT1_bb00d73 (vinI (by omega) (by omega)) dX9_deep_22 ?_
    refine lv_topi (fun x4 e_x4 => ?_)
    have q_x4 := congrArg Int32.toInt e_x4
    have b_x4 := i32b x4
    refine lv_istore_n (lv' := [(3, .int x4), (2, .int x3), (0, .ref a0), (1, .int a1)]) hx hb dX9_deep_23 rfl hl (by decide) rfl (fun ls hl => ?_)
    refine lv_goto (tgt := 9) hx hb dX9_deep_24 (by decide) ?_
    have hst := FO.step hrk (p := l9_3) (by omega) (by omega) e_x4
    exact ih9 (fm rk x4) _ _ _ (by rw [hn9]; exact fm_step hst (by omega)) ⟨x4, x3, rfl, (by omega), lv_sub hl [0, 1, 2, 3] rfl, rfl, rfl⟩
set_option maxHeartbeats 4000000 in
set_option maxRecDepth 100000 in
theorem k_X9_isTarget (l : Launch) (dC : Nat → ClassId) (dI : Nat → Nat → Nat) (g : Gv) (a0 : Nat) (a1 : Int32) (a2 : Int32) (a0_0 : Int32) (a0_1 : Int32) (a0_2 : Int32) (a0_3 : Int32) (a0_4 : Nat) (a0_5 : Int32) (a0_6 : Int32) (a0_7 : Int32) (a0_8 : Int32) (a0_9 : Int32) (a0_10 : Int32) (a0_11 : Int64) (a0_12 : Int32) (a0_13 : Int32) (a0_14 : Int32) (a0_15 : Int32) (a0_16 : Int32) (a0_17 : Int32) (a0_18 : Nat) (a0_19 : Nat) (a0_20 : Nat) (a0_21 : Nat) (a0_22 : Nat) (a0_23 : Nat) (a0_24 : Nat) (a0_25 : Nat) (a0_26 : Nat) (a0_27 : Nat) (a0_28 : Nat) (a0_29 : Nat) (a0_30 : Nat) (a0_31 : Nat) (a0_32 : Nat) (a0_33 : Nat) (a0_34 : Nat) (a0_35 : Nat) (a0_36 : Int64) (a0_37 : Int32) (a0_38 : Nat) (a0_39 : Nat) (a0_40 : Int32) (a0_41 : Nat) (a0_42 : Nat) (a0_43 : Nat) (a0_30_c : ClassId) (a0_30_f : Nat → Int32) (a0_31_c : ClassId) (a0_31_f : Nat → Int32) (a0_32_c : ClassId) (a0_32_f : Nat → Int32) (a0_33_c : ClassId) (a0_33_f : Nat → Int32) (h_a0_5 : 0 ≤ a0_5.toInt ∧ a0_5.toInt ≤ 1000) (h_a0_6 : 0 ≤ a0_6.toInt ∧ a0_6.toInt ≤ 1000) (h_a0_7 : 0 ≤ a0_7.toInt ∧ a0_7.toInt ≤ 1000) (h_a0_8 : 0 ≤ a0_8.toInt ∧ a0_8.toInt ≤ 1000) (h_a0_17 : 0 ≤ a0_17.toInt ∧ a0_17.toInt ≤ 1) (h_a0_37 : (-1) ≤ a0_37.toInt ∧ a0_37.toInt ≤ 23) (h_a0_40 : 0 ≤ a0_40.toInt ∧ a0_40.toInt ≤ 12) (ha1r : 0 ≤ a1.toInt ∧ a1.toInt < 24) (ha2r : 0 ≤ a2.toInt ∧ a2.toInt < 48) : Met l yX9_isTarget (.code yX9_isTarget cX9_isTarget 3 (some .boolean) :: TBL) ({ frames := 0, cells := 0, slots := 0, locals := 0 }) (va_Pc [.ref a0, .int a1, .int a2] (fun U => va_P (dC, dI) vwCl [(a0, .inr (8, [.int a0_0, .int a0_1, .int a0_2, .int a0_3, .ref a0_4, .int a0_5, .int a0_6, .int a0_7, .int a0_8, .int a0_9, .int a0_10, .long a0_11, .int a0_12, .int a0_13, .int a0_14, .int a0_15, .int a0_16, .int a0_17, .ref a0_18, .ref a0_19, .ref a0_20, .ref a0_21, .ref a0_22, .ref a0_23, .ref a0_24, .ref a0_25, .ref a0_26, .ref a0_27, .ref a0_28, .ref a0_29, .ref a0_30, .ref a0_31, .ref a0_32, .ref a0_33, .ref a0_34, .ref a0_35, .long a0_36, .int a0_37, .ref a0_38, .ref a0_39, .int a0_40, .ref a0_41, .ref a0_42, .ref a0_43])), (a0_30, .inl (a0_30_c, 48, .inl a0_30_f)), (a0_31, .inl (a0_31_c, 48, .inl a0_31_f)), (a0_32, .inl (a0_32_c, 24, .inl a0_32_f)), (a0_33, .inl (a0_33_c, 24, .inl a0_33_f))] U.heap ∧ va_K (dC, dI) vwCl [(a0_30_c, .int), (a0_31_c, .int), (a0_32_c, .int), (a0_33_c, .int)] U ∧ Ev g (fun _ => False) U)) (vp_Si (fun (r : Int32) => (r = 0 ∨ r = 1))) 0 0 (fun _ => False) := by
  refine Met.ofW (cc := cX9_isTarget) (maxL := 3) (ret := (some .boolean)) (by decide) rfl ?_
  intro p e s m args below meth c s₁ B hml hv
  obtain ⟨rfl, hP, hK, hE⟩ := hv
  have hx := B.exec
  have hb := B.bytes
  have hr := B.returns
  have hts0 := atoms_spec (ws := (.code yX9_isTarget cX9_isTarget 3 (some .boolean) :: TBL)) B.pre
  have hts := fun (w : Cond) (h : w ∈ TBL) => hts0 w (List.mem_cons_of_mem _ h)
  have hown : s.vm.findClass RX9 = some m.cls := findClass_of_methodNamed B.named
  have hlocks := B.notSynchronized
  have hN := hE.1
  have hS : va_S (fun _ => False) s.heap s.heap [] := va_S.rf
  replace hP : va_P (dC, dI) vwCl [(a0, .inr (8, [.int a0_0, .int a0_1, .int a0_2, .int a0_3, .ref a0_4, .int a0_5, .int a0_6, .int a0_7, .int a0_8, .int a0_9, .int a0_10, .long a0_11, .int a0_12, .int a0_13, .int a0_14, .int a0_15, .int a0_16, .int a0_17, .ref a0_18, .ref a0_19, .ref a0_20, .ref a0_21, .ref a0_22, .ref a0_23, .ref a0_24, .ref a0_25, .ref a0_26, .ref a0_27, .ref a0_28, .ref a0_29, .ref a0_30, .ref a0_31, .ref a0_32, .ref a0_33, .ref a0_34, .ref a0_35, .long a0_36, .int a0_37, .ref a0_38, .ref a0_39, .int a0_40, .ref a0_41, .ref a0_42, .ref a0_43])), (a0_30, .inl (a0_30_c, 48, .inl a0_30_f)), (a0_31, .inl (a0_31_c, 48, .inl a0_31_f)), (a0_32, .inl (a0_32_c, 24, .inl a0_32_f)), (a0_33, .inl (a0_33_c, 24, .inl a0_33_f))] s.heap := hP
  have hl := lv_entry ([.ref a0, .int a1, .int a2]) (n := 3) (Nat.le_of_ble_eq_true rfl)
  rw [lg_entry_eq]
  generalize (lg_sl ([.ref a0, .int a1, .int a2]) ++ List.replicate (3 - (lg_sl ([.ref a0, .int a1, .int a2])).length) Slot.unset).toArray = ls at hl ⊢
  have hl : lv_has ls 3 [(0, .ref a0), (1, .int a1), (2, .int a2)] := hl
  have b_a1 := i32b a1
  have b_a2 := i32b a2
  have b_a0_0 := i32b a0_0
  have b_a0_1 := i32b a0_1
  have b_a0_2 := i32b a0_2
  have b_a0_3 := i32b a0_3
  have b_a0_9 := i32b a0_9
  have b_a0_10 := i32b a0_10
  have b_a0_12 := i32b a0_12
  have b_a0_13 := i32b a0_13
  have b_a0_14 := i32b a0_14
  have b_a0_15 := i32b a0_15
  have b_a0_16 := i32b a0_16
  refine lv_aload_n hx hb dX9_isTarget_0 rfl (lv_at hl 0 rfl) ?_
  refine va_get (D := (dC, dI)) (ci := 8) (v := .ref a0_32) (C := RX9) (T := TX9) (N := 44) hx hb hts inlX9 hown hK hP 0 rgL5_a6879b9 rfl 32 (by decide) (hts (.fieldLink RX9 57 "ClosedUntilModel" "sort" "[I") qw_507) (fun _ h9 => h9) rfl dX9_isTarget_1 ?_
  refine lv_iload_n hx hb dX9_isTarget_4 rfl (lv_at hl 1 rfl) ?_
  refine va_iald hx hb hK hP 3 2 rgL5_b55ecbc rgT4_df3fd44 (vinI (by omega) (by omega)) dX9_isTarget_5 ?_
  refine lv_topi (fun x1 e_x1 => ?_)
  have q_x1 := congrArg Int32.toInt e_x1
  have b_x1 := i32b x1
  refine lv_iconst (v := 1) hx hb dX9_isTarget_6 (by decide) ?_
  refine lv_icmp_ne (tgt := 35) hx hb dX9_isTarget_7 (by decide) (fun c7_2 => ?_) (fun c7_2 => ?_)
  · have c7_2 : ¬ (x1.toInt = 1) := mt (cv_eq rfl (by decide)).mpr c7_2
    refine lv_aload_n hx hb dX9_isTarget_35 rfl (lv_at hl 0 rfl) ?_
    refine va_get (D := (dC, dI)) (ci := 8) (v := .ref a0_32) (C := RX9) (T := TX9) (N := 44) hx hb hts inlX9 hown hK hP 0 rgL5_a6879b9 rfl 32 (by decide) (hts (.fieldLink RX9 57 "ClosedUntilModel" "sort" "[I") qw_507) (fun _ h9 => h9) rfl dX9_isTarget_36 ?_
    refine lv_iload_n hx hb dX9_isTarget_39 rfl (lv_at hl 1 rfl) ?_
    refine va_iald hx hb hK hP 3 2 rgL5_b55ecbc rgT4_df3fd44 (vinI (by omega) (by omega)) dX9_isTarget_40 ?_
    refine lv_topi (fun x3 e_x3 => ?_)
    have q_x3 := congrArg Int32.toInt e_x3
    have b_x3 := i32b x3
    refine lv_iconst (v := 2) hx hb dX9_isTarget_41 (by decide) ?_
    refine lv_icmp_ne (tgt := 68) hx hb dX9_isTarget_42 (by decide) (fun c42_4 => ?_) (fun c42_4 => ?_)
    · have c42_4 : ¬ (x3.toInt = 2) := mt (cv_eq rfl (by decide)).mpr c42_4
      refine lv_aload_n hx hb dX9_isTarget_68 rfl (lv_at hl 0 rfl) ?_
      refine va_get (D := (dC, dI)) (ci := 8) (v := .ref a0_33) (C := RX9) (T := TX9) (N := 44) hx hb hts inlX9 hown hK hP 0 rgL5_a6879b9 rfl 33 (by decide) (hts (.fieldLink RX9 60 "ClosedUntilModel" "whom" "[I") qw_508) (fun _ h9 => h9) rfl dX9_isTarget_69 ?_
      refine lv_iload_n hx hb dX9_isTarget_72 rfl (lv_at hl 1 rfl) ?_
      refine va_iald hx hb hK hP 4 3 rgL5_c0b45fd rgT4_a0d579d (vinI (by omega) (by omega)) dX9_isTarget_73 ?_
      refine lv_topi (fun x5 e_x5 => ?_)
      have q_x5 := congrArg Int32.toInt e_x5
      have b_x5 := i32b x5
      refine lv_iload_n hx hb dX9_isTarget_74 rfl (lv_at hl 2 rfl) ?_
      refine lv_icmp_ne (tgt := 82) hx hb dX9_isTarget_75 (by decide) (fun c75_6 => ?_) (fun c75_6 => ?_)
      · have c75_6 : ¬ (x5.toInt = a2.toInt) := mt (cv_eq rfl rfl).mpr c75_6
        refine lv_iconst (v := 0) hx hb dX9_isTarget_82 (by decide) ?_
        exact W.zret (v := 0) hx hb hr rfl (fun t ht hW => ⟨0, rfl, (by decide), ht⟩) (fun _ h => absurd h List.not_mem_nil) dX9_isTarget_83
      · have c75_6 : x5.toInt = a2.toInt := (cv_eq rfl rfl).mp c75_6
        refine lv_iconst (v := 1) hx hb dX9_isTarget_78 (by decide) ?_
        refine lv_goto (tgt := 83) hx hb dX9_isTarget_79 (by decide) ?_
        exact W.zret (v := 1) hx hb hr rfl (fun t ht hW => ⟨1, rfl, (by decide), ht⟩) (fun _ h => absurd h List.not_mem_nil) dX9_isTarget_83
    · have c42_4 : x3.toInt = 2 := (cv_eq rfl (by decide)).mp c42_4
      refine lv_aload_n hx hb dX9_isTarget_45 rfl (lv_at hl 0 rfl) ?_
      refine va_get (D := (dC, dI)) (ci := 8) (v := .ref a0_31) (C := RX9) (T := TX9) (N := 44) hx hb hts inlX9 hown hK hP 0 rgL5_a6879b9 rfl 31 (by decide) (hts (.fieldLink RX9 54 "ClosedUntilModel" "ofDeposit" "[I") qw_509) (fun _ h9 => h9) rfl dX9_isTarget_46 ?_
      refine lv_iload_n hx hb dX9_isTarget_49 rfl (lv_at hl 2 rfl) ?_
      refine va_iald hx hb hK hP 2 1 rgL5_4d93d4e rgT4_b124325 (vinI (by omega) (by omega)) dX9_isTarget_50 ?_
      refine lv_topi (fun x7 e_x7 => ?_)
      have q_x7 := congrArg Int32.toInt e_x7
      have b_x7 := i32b x7
      refine lv_aload_n hx hb dX9_isTarget_51 rfl (lv_at hl 0 rfl) ?_
      refine va_get (D := (dC, dI)) (ci := 8) (v := .ref a0_33) (C := RX9) (T := TX9) (N := 44) hx hb hts inlX9 hown hK hP 0 rgL5_a6879b9 rfl 33 (by decide) (hts (.fieldLink RX9 60 "ClosedUntilModel" "whom" "[I") qw_508) (fun _ h9 => h9) rfl dX9_isTarget_52 ?_
      refine lv_iload_n hx hb dX9_isTarget_55 rfl (lv_at hl 1 rfl) ?_
      refine va_iald hx hb hK hP 4 3 rgL5_c0b45fd rgT4_a0d579d (vinI (by omega) (by omega)) dX9_isTarget_56 ?_
      refine lv_topi (fun x8 e_x8 => ?_)
      have q_x8 := congrArg Int32.toInt e_x8
      have b_x8 := i32b x8
      refine lv_icmp_ne (tgt := 64) hx hb dX9_isTarget_57 (by decide) (fun c57_9 => ?_) (fun c57_9 => ?_)
      · have c57_9 : ¬ (x7.toInt = x8.toInt) := mt (cv_eq rfl rfl).mpr c57_9
        refine lv_iconst (v := 0) hx hb dX9_isTarget_64 (by decide) ?_
        refine lv_goto (tgt := 83) hx hb dX9_isTarget_65 (by decide) ?_
        exact W.zret (v := 0) hx hb hr rfl (fun t ht hW => ⟨0, rfl, (by decide), ht⟩) (fun _ h => absurd h List.not_mem_nil) dX9_isTarget_83
      · have c57_9 : x7.toInt = x8.toInt := (cv_eq rfl rfl).mp c57_9
        refine lv_iconst (v := 1) hx hb dX9_isTarget_60 (by decide) ?_
        refine lv_goto (tgt := 83) hx hb dX9_isTarget_61 (by decide) ?_
        exact W.zret (v := 1) hx hb hr rfl (fun t ht hW => ⟨1, rfl, (by decide), ht⟩) (fun _ h => absurd h List.not_mem_nil) dX9_isTarget_83
  · have c7_2 : x1.toInt = 1 := (cv_eq rfl (by decide)).mp c7_2
    refine lv_aload_n hx hb dX9_isTarget_10 rfl (lv_at hl 0 rfl) ?_
    refine va_get (D := (dC, dI)) (ci := 8) (v := .ref a0_30) (C := RX9) (T := TX9) (N := 44) hx hb hts inlX9 hown hK hP 0 rgL5_a6879b9 rfl 30 (by decide) (hts (.fieldLink RX9 51 "ClosedUntilModel" "ofPeople" "[I") qw_500) (fun _ h9 => h9) rfl dX9_isTarget_11 ?_
    refine lv_iload_n hx hb dX9_isTarget_14 rfl (lv_at hl 2 rfl) ?_
    refine va_iald hx hb hK hP 1 0 rgL5_8fa4d66 rgT4_b662ba5 (vinI (by omega) (by omega)) dX9_isTarget_15 ?_
    refine lv_topi (fun x10 e_x10 => ?_)
    have q_x10 := congrArg Int32.toInt e_x10
    have b_x10 := i32b x10
    refine lv_aload_n hx hb dX9_isTarget_16 rfl (lv_at hl 0 rfl) ?_
    refine va_get (D := (dC, dI)) (ci := 8) (v := .ref a0_33) (C := RX9) (T := TX9) (N := 44) hx hb hts inlX9 hown hK hP 0 rgL5_a6879b9 rfl 33 (by decide) (hts (.fieldLink RX9 60 "ClosedUntilModel" "whom" "[I") qw_508) (fun _ h9 => h9) rfl dX9_isTarget_17 ?_
    refine lv_iload_n hx hb dX9_isTarget_20 rfl (lv_at hl 1 rfl) ?_
    refine va_iald hx hb hK hP 4 3 rgL5_c0b45fd rgT4_a0d579d (vinI (by omega) (by omega)) dX9_isTarget_21 ?_
    refine lv_topi (fun x11 e_x11 => ?_)
    have q_x11 := congrArg Int32.toInt e_x11
    have b_x11 := i32b x11
    refine lv_ishr hx hb dX9_isTarget_22 ?_
    refine lv_topi (fun x12 e_x12 => ?_)
    refine lv_iconst (v := 1) hx hb dX9_isTarget_23 (by decide) ?_
    refine lv_iand hx hb dX9_isTarget_24 ?_
    refine lv_topi (fun x13 e_x13 => ?_)
    have e_x13 := ti_and e_x13 (show (1 : Int32).toInt = 1 by decide) (by decide)
    refine lv_iconst (v := 1) hx hb dX9_isTarget_25 (by decide) ?_
    refine lv_icmp_ne (tgt := 33) hx hb dX9_isTarget_26 (by decide) (fun c26_14 => ?_) (fun c26_14 => ?_)
    · have c26_14 : ¬ (x13.toInt = 1) := mt (cv_eq rfl (by decide)).mpr c26_14
      refine lv_iconst (v := 0) hx hb dX9_isTarget_33 (by decide) ?_
      exact W.zret (v := 0) hx hb hr rfl (fun t ht hW => ⟨0, rfl, (by decide), ht⟩) (fun _ h => absurd h List.not_mem_nil) dX9_isTarget_34
    · have c26_14 : x13.toInt = 1 := (cv_eq rfl (by decide)).mp c26_14
      refine lv_iconst (v := 1) hx hb dX9_isTarget_29 (by decide) ?_
      refine lv_goto (tgt := 34) hx hb dX9_isTarget_30 (by decide) ?_
      exact W.zret (v := 1) hx hb hr rfl (fun t ht hW => ⟨1, rfl, (by decide), ht⟩) (fun _ h => absurd h List.not_mem_nil) dX9_isTarget_34
set_option maxHeartbeats 4000000 in
set_option maxRecDepth 100000 in
theorem k_X9_targets (l : Launch) (dC : Nat → ClassId) (dI : Nat → Nat → Nat) (g : Gv) (a0 : Nat) (a1 : Int32) (a0_0 : Int32) (a0_1 : Int32) (a0_2 : Int32) (a0_3 : Int32) (a0_4 : Nat) (a0_5 : Int32) (a0_6 : Int32) (a0_7 : Int32) (a0_8 : Int32) (a0_9 : Int32) (a0_10 : Int32) (a0_11 : Int64) (a0_12 : Int32) (a0_13 : Int32) (a0_14 : Int32) (a0_15 : Int32) (a0_16 : Int32) (a0_17 : Int32) (a0_18 : Nat) (a0_19 : Nat) (a0_20 : Nat) (a0_21 : Nat) (a0_22 : Nat) (a0_23 : Nat) (a0_24 : Nat) (a0_25 : Nat) (a0_26 : Nat) (a0_27 : Nat) (a0_28 : Nat) (a0_29 : Nat) (a0_30 : Nat) (a0_31 : Nat) (a0_32 : Nat) (a0_33 : Nat) (a0_34 : Nat) (a0_35 : Nat) (a0_36 : Int64) (a0_37 : Int32) (a0_38 : Nat) (a0_39 : Nat) (a0_40 : Int32) (a0_41 : Nat) (a0_42 : Nat) (a0_43 : Nat) (a0_20_c : ClassId) (a0_20_f : Nat → Int32) (a0_30_c : ClassId) (a0_30_f : Nat → Int32) (a0_31_c : ClassId) (a0_31_f : Nat → Int32) (a0_32_c : ClassId) (a0_32_f : Nat → Int32) (a0_33_c : ClassId) (a0_33_f : Nat → Int32) (h_a0_5 : 0 ≤ a0_5.toInt ∧ a0_5.toInt ≤ 1000) (h_a0_6 : 0 ≤ a0_6.toInt ∧ a0_6.toInt ≤ 1000) (h_a0_7 : 0 ≤ a0_7.toInt ∧ a0_7.toInt ≤ 1000) (h_a0_8 : 0 ≤ a0_8.toInt ∧ a0_8.toInt ≤ 1000) (h_a0_17 : 0 ≤ a0_17.toInt ∧ a0_17.toInt ≤ 1) (h_a0_37 : (-1) ≤ a0_37.toInt ∧ a0_37.toInt ≤ 23) (h_a0_40 : 0 ≤ a0_40.toInt ∧ a0_40.toInt ≤ 12) (h_a0_20_f : vr 0 24 a0_20_f) (ha1r : 0 ≤ a1.toInt ∧ a1.toInt < 24) : Met l yX9_targets (.code yX9_targets cX9_targets 4 (some .int) :: TBL) ({ frames := 1, cells := 0, slots := 0, locals := 22 }) (va_Pc [.ref a0, .int a1] (fun U => va_P (dC, dI) vwCl [(a0, .inr (8, [.int a0_0, .int a0_1, .int a0_2, .int a0_3, .ref a0_4, .int a0_5, .int a0_6, .int a0_7, .int a0_8, .int a0_9, .int a0_10, .long a0_11, .int a0_12, .int a0_13, .int a0_14, .int a0_15, .int a0_16, .int a0_17, .ref a0_18, .ref a0_19, .ref a0_20, .ref a0_21, .ref a0_22, .ref a0_23, .ref a0_24, .ref a0_25, .ref a0_26, .ref a0_27, .ref a0_28, .ref a0_29, .ref a0_30, .ref a0_31, .ref a0_32, .ref a0_33, .ref a0_34, .ref a0_35, .long a0_36, .int a0_37, .ref a0_38, .ref a0_39, .int a0_40, .ref a0_41, .ref a0_42, .ref a0_43])), (a0_20, .inl (a0_20_c, 2, .inl a0_20_f)), (a0_30, .inl (a0_30_c, 48, .inl a0_30_f)), (a0_31, .inl (a0_31_c, 48, .inl a0_31_f)), (a0_32, .inl (a0_32_c, 24, .inl a0_32_f)), (a0_33, .inl (a0_33_c, 24, .inl a0_33_f))] U.heap ∧ va_K (dC, dI) vwCl [(a0_20_c, .int), (a0_30_c, .int), (a0_31_c, .int), (a0_32_c, .int), (a0_33_c, .int)] U ∧ Ev g (fun _ => False) U)) (vp_Si (fun (r : Int32) => True)) 0 0 (fun _ => False) := by
  refine Met.ofW (cc := cX9_targets) (maxL := 4) (ret := (some .int)) (by decide) rfl ?_
  intro p e s m args below meth c s₁ B hml hv
  obtain ⟨rfl, hP, hK, hE⟩ := hv
  have hx := B.exec
  have hb := B.bytes
  have hr := B.returns
  have hts0 := atoms_spec (ws := (.code yX9_targets cX9_targets 4 (some .int) :: TBL)) B.pre
  have hts := fun (w : Cond) (h : w ∈ TBL) => hts0 w (List.mem_cons_of_mem _ h)
  have hown : s.vm.findClass RX9 = some m.cls := findClass_of_methodNamed B.named
  have hlocks := B.notSynchronized
  have hN := hE.1
  have hS : va_S (fun _ => False) s.heap s.heap [] := va_S.rf
  replace hP : va_P (dC, dI) vwCl [(a0, .inr (8, [.int a0_0, .int a0_1, .int a0_2, .int a0_3, .ref a0_4, .int a0_5, .int a0_6, .int a0_7, .int a0_8, .int a0_9, .int a0_10, .long a0_11, .int a0_12, .int a0_13, .int a0_14, .int a0_15, .int a0_16, .int a0_17, .ref a0_18, .ref a0_19, .ref a0_20, .ref a0_21, .ref a0_22, .ref a0_23, .ref a0_24, .ref a0_25, .ref a0_26, .ref a0_27, .ref a0_28, .ref a0_29, .ref a0_30, .ref a0_31, .ref a0_32, .ref a0_33, .ref a0_34, .ref a0_35, .long a0_36, .int a0_37, .ref a0_38, .ref a0_39, .int a0_40, .ref a0_41, .ref a0_42, .ref a0_43])), (a0_20, .inl (a0_20_c, 2, .inl a0_20_f)), (a0_30, .inl (a0_30_c, 48, .inl a0_30_f)), (a0_31, .inl (a0_31_c, 48, .inl a0_31_f)), (a0_32, .inl (a0_32_c, 24, .inl a0_32_f)), (a0_33, .inl (a0_33_c, 24, .inl a0_33_f))] s.heap := hP
  have hl := lv_entry ([.ref a0, .int a1]) (n := 4) (Nat.le_of_ble_eq_true rfl)
  rw [lg_entry_eq]
  generalize (lg_sl ([.ref a0, .int a1]) ++ List.replicate (4 - (lg_sl ([.ref a0, .int a1])).length) Slot.unset).toArray = ls at hl ⊢
  have hl : lv_has ls 4 [(0, .ref a0), (1, .int a1)] := hl
  have b_a1 := i32b a1
  have b_a0_0 := i32b a0_0
  have b_a0_1 := i32b a0_1
  have b_a0_2 := i32b a0_2
  have b_a0_3 := i32b a0_3
  have b_a0_9 := i32b a0_9
  have b_a0_10 := i32b a0_10
  have b_a0_12 := i32b a0_12
  have b_a0_13 := i32b a0_13
  have b_a0_14 := i32b a0_14
  have b_a0_15 := i32b a0_15
  have b_a0_16 := i32b a0_16
  refine lv_iconst (v := 0) hx hb dX9_targets_0 (by decide) ?_
  refine lv_istore_n (lv' := [(2, .int 0), (0, .ref a0), (1, .int a1)]) hx hb dX9_targets_1 rfl hl (by decide) rfl (fun ls hl => ?_)
  refine lv_iconst (v := 0) hx hb dX9_targets_2 (by decide) ?_
  refine lv_istore_n (lv' := [(3, .int 0), (2, .int 0), (0, .ref a0), (1, .int a1)]) hx hb dX9_targets_3 rfl hl (by decide) rfl (fun ls hl => ?_)
  have qc0 : (0 : Int32).toInt = 0 := by decide
  refine wloop (fun n H locs ls => ∃ (l4_3 : Int32) (l4_2 : Int32), n = (2147483647 - l4_3.toInt).toNat ∧ (0 ≤ l4_3.toInt) ∧ lv_has ls 4 [(3, .int l4_3), (2, .int l4_2), (0, .ref a0), (1, .int a1)] ∧ H = s.heap ∧ locs = []) ?_ ((2147483647 - (0 : Int32).toInt).toNat) _ _ _ ⟨0, 0, rfl, (by omega), lv_sub hl [0, 1, 2, 3] rfl, rfl, rfl⟩
  intro n4 H locs ls hI ih4
  obtain ⟨l4_3, l4_2, hn4, g_l4_3, hl, rfl, rfl⟩ := hI
  have b_l4_3 := i32b l4_3
  have b_l4_2 := i32b l4_2
  refine lv_iload_n hx hb dX9_targets_4 rfl (lv_at hl 0 rfl) ?_
  refine lv_aload_n hx hb dX9_targets_5 rfl (lv_at hl 2 rfl) ?_
  refine va_get (D := (dC, dI)) (ci := 8) (v := .ref a0_20) (C := RX9) (T := TX9) (N := 44) hx hb hts inlX9 hown hK hP 0 rgL6_3f800dd rfl 20 (by decide) (hts (.fieldLink RX9 20 "ClosedUntilModel" "pieces" "[I") qw_439) (fun _ h9 => h9) rfl dX9_targets_6 ?_
  refine lv_iconst (v := 0) hx hb dX9_targets_9 (by decide) ?_
  refine va_iald hx hb hK hP 1 0 rgL6_a93a3d5 rgT5_dea851c (vin0 (by decide)) dX9_targets_10 ?_
  refine lv_topi (fun x1 e_x1 => ?_)
  have q_x1 : x1.toInt = (a0_20_f 0).toInt := congrArg Int32.toInt e_x1
  have b_x1 : 0 ≤ x1.toInt ∧ x1.toInt ≤ 24 := vr_at (lo := 0) (hi := 24) (f := a0_20_f) h_a0_20_f e_x1
  refine lv_icmp_ge (tgt := 39) hx hb dX9_targets_11 (by decide) (fun c11_2 => ?_) (fun c11_2 => ?_)
  · have c11_2 : x1.toInt ≤ l4_3.toInt := (cv_le rfl rfl).mp c11_2
    refine lv_iload_n hx hb dX9_targets_39 rfl (lv_at hl 1 rfl) ?_
    exact W.iret (v := l4_2) hx hb hr (fun t ht hW => ⟨l4_2, rfl, trivial, ht⟩) (fun _ h => absurd h List.not_mem_nil) dX9_targets_40
  · have c11_2 : ¬ (x1.toInt ≤ l4_3.toInt) := mt (cv_le rfl rfl).mpr c11_2
    refine lv_iload_n hx hb dX9_targets_14 rfl (lv_at hl 1 rfl) ?_
    refine lv_aload_n hx hb dX9_targets_15 rfl (lv_at hl 2 rfl) ?_
    refine lv_iload_n hx hb dX9_targets_16 rfl (lv_at hl 3 rfl) ?_
    refine lv_iload_n hx hb dX9_targets_17 rfl (lv_at hl 0 rfl) ?_
    have hPc := (rgP6_c3860e0 hP)
    have hKc := (rgK5_ac3f46d hK)
    refine vp_callSi ((va_runV (As := [.int a1, .int l4_3]) (rest := [.int l4_2]) ⟨hx, hb, hml, hown, hts⟩ (k_X9_isTarget l dC dI g (a0) (a1) (l4_3) (a0_0) (a0_1) (a0_2) (a0_3) (a0_4) (a0_5) (a0_6) (a0_7) (a0_8) (a0_9) (a0_10) (a0_11) (a0_12) (a0_13) (a0_14) (a0_15) (a0_16) (a0_17) (a0_18) (a0_19) (a0_20) (a0_21) (a0_22) (a0_23) (a0_24) (a0_25) (a0_26) (a0_27) (a0_28) (a0_29) (a0_30) (a0_31) (a0_32) (a0_33) (a0_34) (a0_35) (a0_36) (a0_37) (a0_38) (a0_39) (a0_40) (a0_41) (a0_42) (a0_43) (a0_30_c) (a0_30_f) (a0_31_c) (a0_31_f) (a0_32_c) (a0_32_f) (a0_33_c) (a0_33_f) (by omega) (by omega) (by omega) (by omega) (by omega) (by omega) (by omega) (by omega) (by omega)) (cwV 2 hts (gwV qw_511 qw_512 qw_513 qw_386 qw_510) rfl rfl rfl (by decide +kernel) ⟨Nat.le_of_ble_eq_true rfl, Nat.le_of_ble_eq_true rfl⟩) ⟨fun a U g9 mk q => ⟨q.1, q.2.1, va_K.moved (u := U) (U := U.calling g9 mk a) (Vm.Alike.refl U.vm) q.2.2.1, Ev.bl q.2.2.2⟩, va_recv hK hP (ci := 8) (q0 := 0) rfl rgL6_3f800dd, fun U hU hW => ⟨rfl, atB hU hPc, va_K.moved hW.alike hKc, hE.go hS (fun _ h => h.elim) hU hW⟩⟩ rfl rfl hl.1 rfl (lv_room (Nat.le_of_ble_eq_true rfl)) dX9_targets_18 ⟨Nat.le_of_ble_eq_true rfl, Nat.le_of_ble_eq_true rfl⟩)).run (fun r3 h_r3 => ?_)
    have h_r3 : (r3 = 0 ∨ r3 = 1) := h_r3
    have b_r3 := z01 (show r3 = 0 ∨ r3 = 1 from h_r3)
    refine lv_if_eq (tgt := 30) hx hb dX9_targets_21 (by decide) (fun c21_4 => ?_) (fun c21_4 => ?_)
    · have c21_4 : r3.toInt = 0 := (cv_eq rfl (by decide)).mp c21_4
      refine lv_iconst (v := 0) hx hb dX9_targets_30 (by decide) ?_
      refine lv_ior hx hb dX9_targets_31 ?_
      refine lv_topi (fun x5 e_x5 => ?_)
      refine lv_istore_n (lv' := [(2, .int x5), (3, .int l4_3), (0, .ref a0), (1, .int a1)]) hx hb dX9_targets_32 rfl hl (by decide) rfl (fun ls hl => ?_)
      obtain ⟨x6, e_x6⟩ : ∃ y : Int32, y = l4_3 + 1 := ⟨_, rfl⟩
      refine lv_iinc (v := x6) (lv' := [(3, .int x6), (2, .int x5), (0, .ref a0), (1, .int a1)]) hx hb dX9_targets_33 hl (k := 1) rfl (by rw [e_x6]; rfl) (by decide) rfl (fun ls hl => ?_)
      try have e_x6 := ti_add e_x6 rfl (show (1 : Int32).toInt = 1 by decide) (by omega)
      refine lv_goto (tgt := 4) hx hb dX9_targets_36 (by decide) ?_
      exact ih4 ((2147483647 - x6.toInt).toNat) _ _ _ (by omega) ⟨x6, x5, rfl, (by omega), lv_sub hl [0, 1, 2, 3] rfl, rfl, rfl⟩
    · have c21_4 : ¬ (r3.toInt = 0) := mt (cv_eq rfl (by decide)).mpr c21_4
      refine lv_iconst (v := 1) hx hb dX9_targets_24 (by decide) ?_
      refine lv_iload_n hx hb dX9_targets_25 rfl (lv_at hl 0 rfl) ?_
      refine lv_ishl hx hb dX9_targets_26 ?_
      refine lv_topi (fun x7 e_x7 => ?_)
      refine lv_goto (tgt := 31) hx hb dX9_targets_27 (by decide) ?_
      refine lv_ior hx hb dX9_targets_31 ?_
      refine lv_topi (fun x8 e_x8 => ?_)
      refine lv_istore_n (lv' := [(2, .int x8), (3, .int l4_3), (0, .ref a0), (1, .int a1)]) hx hb dX9_targets_32 rfl hl (by decide) rfl (fun ls hl => ?_)
      obtain ⟨x9, e_x9⟩ : ∃ y : Int32, y = l4_3 + 1 := ⟨_, rfl⟩
      refine lv_iinc (v := x9) (lv' := [(3, .int x9), (2, .int x8), (0, .ref a0), (1, .int a1)]) hx hb dX9_targets_33 hl (k := 1) rfl (by rw [e_x9]; rfl) (by decide) rfl (fun ls hl => ?_)
      try have e_x9 := ti_add e_x9 rfl (show (1 : Int32).toInt = 1 by decide) (by omega)
      refine lv_goto (tgt := 4) hx hb dX9_targets_36 (by decide) ?_
      exact ih4 ((2147483647 - x9.toInt).toNat) _ _ _ (by omega) ⟨x9, x8, rfl, (by omega), lv_sub hl [0, 1, 2, 3] rfl, rfl, rfl⟩
set_option maxHeartbeats 4000000 in
set_option maxRecDepth 100000 in
theorem k_X9_plainTerm (l : Launch) (dC : Nat → ClassId) (dI : Nat → Nat → Nat) (g : Gv) (sz : Nat) (a0 : Nat) (a1 : Int32) (a2 : Int32) (a0_0 : Int32) (a0_1 : Int32) (a0_2 : Int32) (a0_3 : Int32) (a0_4 : Nat) (a0_5 : Int32) (a0_6 : Int32) (a0_7 : Int32) (a0_8 : Int32) (a0_9 : Int32) (a0_10 : Int32) (a0_11 : Int64) (a0_12 : Int32) (a0_13 : Int32) (a0_14 : Int32) (a0_15 : Int32) (a0_16 : Int32) (a0_17 : Int32) (a0_18 : Nat) (a0_19 : Nat) (a0_20 : Nat) (a0_21 : Nat) (a0_22 : Nat) (a0_23 : Nat) (a0_24 : Nat) (a0_25 : Nat) (a0_26 : Nat) (a0_27 : Nat) (a0_28 : Nat) (a0_29 : Nat) (a0_30 : Nat) (a0_31 : Nat) (a0_32 : Nat) (a0_33 : Nat) (a0_34 : Nat) (a0_35 : Nat) (a0_36 : Int64) (a0_37 : Int32) (a0_38 : Nat) (a0_39 : Nat) (a0_40 : Int32) (a0_41 : Nat) (a0_42 : Nat) (a0_43 : Nat) (a0_23_c : ClassId) (a0_23_f : Nat → Int32) (a0_26_c : ClassId) (a0_26_f : Nat → Int32) (a0_29_c : ClassId) (a0_29_f : Nat → Int32) (a0_32_c : ClassId) (a0_32_f : Nat → Int32) (a0_33_c : ClassId) (a0_33_f : Nat → Int32) (a0_34_c : ClassId) (a0_34_f : Nat → Int32) (a0_38_c : ClassId) (a0_38_f : Nat → Int32) (cn : Int) (h_a0_5 : 0 ≤ a0_5.toInt ∧ a0_5.toInt ≤ 1000) (h_a0_6 : 0 ≤ a0_6.toInt ∧ a0_6.toInt ≤ 1000) (h_a0_7 : 0 ≤ a0_7.toInt ∧ a0_7.toInt ≤ 1000) (h_a0_8 : 0 ≤ a0_8.toInt ∧ a0_8.toInt ≤ 1000) (h_a0_17 : 0 ≤ a0_17.toInt ∧ a0_17.toInt ≤ 1) (h_a0_37 : (-1) ≤ a0_37.toInt ∧ a0_37.toInt ≤ 23) (h_a0_40 : 0 ≤ a0_40.toInt ∧ a0_40.toInt ≤ 12) (hcn : cn ≤ 12) (hmw : WOk a0_32_f a0_33_f 0 cn) (hcr : 0 ≤ a1.toInt ∧ a1.toInt < cn) (ha2r : 0 ≤ a2.toInt ∧ a2.toInt < 48) : Met l yX9_plainTerm (.code yX9_plainTerm cX9_plainTerm 4 (some .int) :: TBL) ({ frames := 4, cells := 0, slots := 0, locals := 90 }) (va_Pc [.ref a0, .int a1, .int a2] (fun U => U.heap.size = sz ∧ va_P (dC, dI) vwCl [(a0, .inr (8, [.int a0_0, .int a0_1, .int a0_2, .int a0_3, .ref a0_4, .int a0_5, .int a0_6, .int a0_7, .int a0_8, .int a0_9, .int a0_10, .long a0_11, .int a0_12, .int a0_13, .int a0_14, .int a0_15, .int a0_16, .int a0_17, .ref a0_18, .ref a0_19, .ref a0_20, .ref a0_21, .ref a0_22, .ref a0_23, .ref a0_24, .ref a0_25, .ref a0_26, .ref a0_27, .ref a0_28, .ref a0_29, .ref a0_30, .ref a0_31, .ref a0_32, .ref a0_33, .ref a0_34, .ref a0_35, .long a0_36, .int a0_37, .ref a0_38, .ref a0_39, .int a0_40, .ref a0_41, .ref a0_42, .ref a0_43])), (a0_23, .inl (a0_23_c, 16, .inl a0_23_f)), (a0_26, .inl (a0_26_c, 8, .inl a0_26_f)), (a0_29, .inl (a0_29_c, 48, .inl a0_29_f)), (a0_32, .inl (a0_32_c, 24, .inl a0_32_f)), (a0_33, .inl (a0_33_c, 24, .inl a0_33_f)), (a0_34, .inl (a0_34_c, 72, .inl a0_34_f)), (a0_38, .inl (a0_38_c, 176, .inl a0_38_f))] U.heap ∧ va_K (dC, dI) vwCl [(a0_23_c, .int), (a0_26_c, .int), (a0_29_c, .int), (a0_32_c, .int), (a0_33_c, .int), (a0_34_c, .int), (a0_38_c, .int)] U ∧ va_D (fun _ => True) [(a0, .inr (8, [.int a0_0, .int a0_1, .int a0_2, .int a0_3, .ref a0_4, .int a0_5, .int a0_6, .int a0_7, .int a0_8, .int a0_9, .int a0_10, .long a0_11, .int a0_12, .int a0_13, .int a0_14, .int a0_15, .int a0_16, .int a0_17, .ref a0_18, .ref a0_19, .ref a0_20, .ref a0_21, .ref a0_22, .ref a0_23, .ref a0_24, .ref a0_25, .ref a0_26, .ref a0_27, .ref a0_28, .ref a0_29, .ref a0_30, .ref a0_31, .ref a0_32, .ref a0_33, .ref a0_34, .ref a0_35, .long a0_36, .int a0_37, .ref a0_38, .ref a0_39, .int a0_40, .ref a0_41, .ref a0_42, .ref a0_43])), (a0_23, .inl (a0_23_c, 16, .inl a0_23_f)), (a0_26, .inl (a0_26_c, 8, .inl a0_26_f)), (a0_29, .inl (a0_29_c, 48, .inl a0_29_f)), (a0_32, .inl (a0_32_c, 24, .inl a0_32_f)), (a0_33, .inl (a0_33_c, 24, .inl a0_33_f)), (a0_34, .inl (a0_34_c, 72, .inl a0_34_f)), (a0_38, .inl (a0_38_c, 176, .inl a0_38_f))] ∧ Ev g (va_A [(a0, .inr (8, [.int a0_0, .int a0_1, .int a0_2, .int a0_3, .ref a0_4, .int a0_5, .int a0_6, .int a0_7, .int a0_8, .int a0_9, .int a0_10, .long a0_11, .int a0_12, .int a0_13, .int a0_14, .int a0_15, .int a0_16, .int a0_17, .ref a0_18, .ref a0_19, .ref a0_20, .ref a0_21, .ref a0_22, .ref a0_23, .ref a0_24, .ref a0_25, .ref a0_26, .ref a0_27, .ref a0_28, .ref a0_29, .ref a0_30, .ref a0_31, .ref a0_32, .ref a0_33, .ref a0_34, .ref a0_35, .long a0_36, .int a0_37, .ref a0_38, .ref a0_39, .int a0_40, .ref a0_41, .ref a0_42, .ref a0_43])), (a0_23, .inl (a0_23_c, 16, .inl a0_23_f)), (a0_26, .inl (a0_26_c, 8, .inl a0_26_f)), (a0_29, .inl (a0_29_c, 48, .inl a0_29_f)), (a0_32, .inl (a0_32_c, 24, .inl a0_32_f)), (a0_33, .inl (a0_33_c, 24, .inl a0_33_f)), (a0_34, .inl (a0_34_c, 72, .inl a0_34_f)), (a0_38, .inl (a0_38_c, 176, .inl a0_38_f))] sz) U)) (va_Qi (fun (r : Int32) (u : Int32) => u = r) (fun (u : Int32) (t : State) => ∃ (za0_1 : Int32) (za0_2 : Int32) (za0_3 : Int32), va_P (dC, dI) vwCl [(a0, .inr (8, [.int a0_0, .int za0_1, .int za0_2, .int za0_3, .ref a0_4, .int a0_5, .int a0_6, .int a0_7, .int a0_8, .int a0_9, .int a0_10, .long a0_11, .int a0_12, .int a0_13, .int a0_14, .int a0_15, .int a0_16, .int a0_17, .ref a0_18, .ref a0_19, .ref a0_20, .ref a0_21, .ref a0_22, .ref a0_23, .ref a0_24, .ref a0_25, .ref a0_26, .ref a0_27, .ref a0_28, .ref a0_29, .ref a0_30, .ref a0_31, .ref a0_32, .ref a0_33, .ref a0_34, .ref a0_35, .long a0_36, .int a0_37, .ref a0_38, .ref a0_39, .int a0_40, .ref a0_41, .ref a0_42, .ref a0_43])), (a0_23, .inl (a0_23_c, 16, .inl a0_23_f)), (a0_26, .inl (a0_26_c, 8, .inl a0_26_f)), (a0_29, .inl (a0_29_c, 48, .inl a0_29_f)), (a0_32, .inl (a0_32_c, 24, .inl a0_32_f)), (a0_33, .inl (a0_33_c, 24, .inl a0_33_f)), (a0_34, .inl (a0_34_c, 72, .inl a0_34_f)), (a0_38, .inl (a0_38_c, 176, .inl a0_38_f))] t.heap ∧ va_K (dC, dI) vwCl [] t ∧ va_D (va_A [(a0, .inr (8, [.int a0_0, .int a0_1, .int a0_2, .int a0_3, .ref a0_4, .int a0_5, .int a0_6, .int a0_7, .int a0_8, .int a0_9, .int a0_10, .long a0_11, .int a0_12, .int a0_13, .int a0_14, .int a0_15, .int a0_16, .int a0_17, .ref a0_18, .ref a0_19, .ref a0_20, .ref a0_21, .ref a0_22, .ref a0_23, .ref a0_24, .ref a0_25, .ref a0_26, .ref a0_27, .ref a0_28, .ref a0_29, .ref a0_30, .ref a0_31, .ref a0_32, .ref a0_33, .ref a0_34, .ref a0_35, .long a0_36, .int a0_37, .ref a0_38, .ref a0_39, .int a0_40, .ref a0_41, .ref a0_42, .ref a0_43])), (a0_23, .inl (a0_23_c, 16, .inl a0_23_f)), (a0_26, .inl (a0_26_c, 8, .inl a0_26_f)), (a0_29, .inl (a0_29_c, 48, .inl a0_29_f)), (a0_32, .inl (a0_32_c, 24, .inl a0_32_f)), (a0_33, .inl (a0_33_c, 24, .inl a0_33_f)), (a0_34, .inl (a0_34_c, 72, .inl a0_34_f)), (a0_38, .inl (a0_38_c, 176, .inl a0_38_f))] sz) [(a0, .inr (8, [.int a0_0, .int za0_1, .int za0_2, .int za0_3, .ref a0_4, .int a0_5, .int a0_6, .int a0_7, .int a0_8, .int a0_9, .int a0_10, .long a0_11, .int a0_12, .int a0_13, .int a0_14, .int a0_15, .int a0_16, .int a0_17, .ref a0_18, .ref a0_19, .ref a0_20, .ref a0_21, .ref a0_22, .ref a0_23, .ref a0_24, .ref a0_25, .ref a0_26, .ref a0_27, .ref a0_28, .ref a0_29, .ref a0_30, .ref a0_31, .ref a0_32, .ref a0_33, .ref a0_34, .ref a0_35, .long a0_36, .int a0_37, .ref a0_38, .ref a0_39, .int a0_40, .ref a0_41, .ref a0_42, .ref a0_43])), (a0_23, .inl (a0_23_c, 16, .inl a0_23_f)), (a0_26, .inl (a0_26_c, 8, .inl a0_26_f)), (a0_29, .inl (a0_29_c, 48, .inl a0_29_f)), (a0_32, .inl (a0_32_c, 24, .inl a0_32_f)), (a0_33, .inl (a0_33_c, 24, .inl a0_33_f)), (a0_34, .inl (a0_34_c, 72, .inl a0_34_f)), (a0_38, .inl (a0_38_c, 176, .inl a0_38_f))]) (va_A [(a0, .inr (8, [.int a0_0, .int a0_1, .int a0_2, .int a0_3, .ref a0_4, .int a0_5, .int a0_6, .int a0_7, .int a0_8, .int a0_9, .int a0_10, .long a0_11, .int a0_12, .int a0_13, .int a0_14, .int a0_15, .int a0_16, .int a0_17, .ref a0_18, .ref a0_19, .ref a0_20, .ref a0_21, .ref a0_22, .ref a0_23, .ref a0_24, .ref a0_25, .ref a0_26, .ref a0_27, .ref a0_28, .ref a0_29, .ref a0_30, .ref a0_31, .ref a0_32, .ref a0_33, .ref a0_34, .ref a0_35, .long a0_36, .int a0_37, .ref a0_38, .ref a0_39, .int a0_40, .ref a0_41, .ref a0_42, .ref a0_43])), (a0_23, .inl (a0_23_c, 16, .inl a0_23_f)), (a0_26, .inl (a0_26_c, 8, .inl a0_26_f)), (a0_29, .inl (a0_29_c, 48, .inl a0_29_f)), (a0_32, .inl (a0_32_c, 24, .inl a0_32_f)), (a0_33, .inl (a0_33_c, 24, .inl a0_33_f)), (a0_34, .inl (a0_34_c, 72, .inl a0_34_f)), (a0_38, .inl (a0_38_c, 176, .inl a0_38_f))] sz)) 0 0 (va_A [(a0, .inr (8, [.int a0_0, .int a0_1, .int a0_2, .int a0_3, .ref a0_4, .int a0_5, .int a0_6, .int a0_7, .int a0_8, .int a0_9, .int a0_10, .long a0_11, .int a0_12, .int a0_13, .int a0_14, .int a0_15, .int a0_16, .int a0_17, .ref a0_18, .ref a0_19, .ref a0_20, .ref a0_21, .ref a0_22, .ref a0_23, .ref a0_24, .ref a0_25, .ref a0_26, .ref a0_27, .ref a0_28, .ref a0_29, .ref a0_30, .ref a0_31, .ref a0_32, .ref a0_33, .ref a0_34, .ref a0_35, .long a0_36, .int a0_37, .ref a0_38, .ref a0_39, .int a0_40, .ref a0_41, .ref a0_42, .ref a0_43])), (a0_23, .inl (a0_23_c, 16, .inl a0_23_f)), (a0_26, .inl (a0_26_c, 8, .inl a0_26_f)), (a0_29, .inl (a0_29_c, 48, .inl a0_29_f)), (a0_32, .inl (a0_32_c, 24, .inl a0_32_f)), (a0_33, .inl (a0_33_c, 24, .inl a0_33_f)), (a0_34, .inl (a0_34_c, 72, .inl a0_34_f)), (a0_38, .inl (a0_38_c, 176, .inl a0_38_f))] sz) := by
  refine Met.ofW (cc := cX9_plainTerm) (maxL := 4) (ret := (some .int)) (by decide) rfl ?_
  intro p e s m args below meth c s₁ B hml hv
  obtain ⟨rfl, hsz, hP, hK, hD0, hE⟩ := hv
  have hx := B.exec
  have hb := B.bytes
  have hr := B.returns
  have hts0 := atoms_spec (ws := (.code yX9_plainTerm cX9_plainTerm 4 (some .int) :: TBL)) B.pre
  have hts := fun (w : Cond) (h : w ∈ TBL) => hts0 w (List.mem_cons_of_mem _ h)
  have hown : s.vm.findClass RX9 = some m.cls := findClass_of_methodNamed B.named
  have hlocks := B.notSynchronized
  have hN := hE.1
  subst hsz
  have hD := hD0.self (sz := s.heap.size)
  generalize hAe : va_A [(a0, .inr (8, [.int a0_0, .int a0_1, .int a0_2, .int a0_3, .ref a0_4, .int a0_5, .int a0_6, .int a0_7, .int a0_8, .int a0_9, .int a0_10, .long a0_11, .int a0_12, .int a0_13, .int a0_14, .int a0_15, .int a0_16, .int a0_17, .ref a0_18, .ref a0_19, .ref a0_20, .ref a0_21, .ref a0_22, .ref a0_23, .ref a0_24, .ref a0_25, .ref a0_26, .ref a0_27, .ref a0_28, .ref a0_29, .ref a0_30, .ref a0_31, .ref a0_32, .ref a0_33, .ref a0_34, .ref a0_35, .long a0_36, .int a0_37, .ref a0_38, .ref a0_39, .int a0_40, .ref a0_41, .ref a0_42, .ref a0_43])), (a0_23, .inl (a0_23_c, 16, .inl a0_23_f)), (a0_26, .inl (a0_26_c, 8, .inl a0_26_f)), (a0_29, .inl (a0_29_c, 48, .inl a0_29_f)), (a0_32, .inl (a0_32_c, 24, .inl a0_32_f)), (a0_33, .inl (a0_33_c, 24, .inl a0_33_f)), (a0_34, .inl (a0_34_c, 72, .inl a0_34_f)), (a0_38, .inl (a0_38_c, 176, .inl a0_38_f))] s.heap.size = A at hD hE ⊢
  have hA : ∀ q : Nat, s.heap.size ≤ q → A q := fun q h => by rw [← hAe]; exact Or.inr h
  have hS : va_S A s.heap s.heap [] := va_S.rf
  replace hP : va_P (dC, dI) vwCl [(a0, .inr (8, [.int a0_0, .int a0_1, .int a0_2, .int a0_3, .ref a0_4, .int a0_5, .int a0_6, .int a0_7, .int a0_8, .int a0_9, .int a0_10, .long a0_11, .int a0_12, .int a0_13, .int a0_14, .int a0_15, .int a0_16, .int a0_17, .ref a0_18, .ref a0_19, .ref a0_20, .ref a0_21, .ref a0_22, .ref a0_23, .ref a0_24, .ref a0_25, .ref a0_26, .ref a0_27, .ref a0_28, .ref a0_29, .ref a0_30, .ref a0_31, .ref a0_32, .ref a0_33, .ref a0_34, .ref a0_35, .long a0_36, .int a0_37, .ref a0_38, .ref a0_39, .int a0_40, .ref a0_41, .ref a0_42, .ref a0_43])), (a0_23, .inl (a0_23_c, 16, .inl a0_23_f)), (a0_26, .inl (a0_26_c, 8, .inl a0_26_f)), (a0_29, .inl (a0_29_c, 48, .inl a0_29_f)), (a0_32, .inl (a0_32_c, 24, .inl a0_32_f)), (a0_33, .inl (a0_33_c, 24, .inl a0_33_f)), (a0_34, .inl (a0_34_c, 72, .inl a0_34_f)), (a0_38, .inl (a0_38_c, 176, .inl a0_38_f))] s.heap := hP
  have hl := lv_entry ([.ref a0, .int a1, .int a2]) (n := 4) (Nat.le_of_ble_eq_true rfl)
  rw [lg_entry_eq]
  generalize (lg_sl ([.ref a0, .int a1, .int a2]) ++ List.replicate (4 - (lg_sl ([.ref a0, .int a1, .int a2])).length) Slot.unset).toArray = ls at hl ⊢
  have hl : lv_has ls 4 [(0, .ref a0), (1, .int a1), (2, .int a2)] := hl
  have b_a1 := i32b a1
  have b_a2 := i32b a2
  have b_a0_0 := i32b a0_0
  have b_a0_1 := i32b a0_1
  have b_a0_2 := i32b a0_2
  have b_a0_3 := i32b a0_3
  have b_a0_9 := i32b a0_9
  have b_a0_10 := i32b a0_10
  have b_a0_12 := i32b a0_12
  have b_a0_13 := i32b a0_13
  have b_a0_14 := i32b a0_14
  have b_a0_15 := i32b a0_15
  have b_a0_16 := i32b a0_16
  refine lv_aload_n hx hb dX9_plainTerm_0 rfl (lv_at hl 0 rfl) ?_
  refine va_get (D := (dC, dI)) (ci := 8) (v := .ref a0_32) (C := RX9) (T := TX9) (N := 44) hx hb hts inlX9 hown hK hP 0 rgL8_41f41bf rfl 32 (by decide) (hts (.fieldLink RX9 57 "ClosedUntilModel" "sort" "[I") qw_507) (fun _ h9 => h9) rfl dX9_plainTerm_1 ?_
  refine lv_iload_n hx hb dX9_plainTerm_4 rfl (lv_at hl 1 rfl) ?_
  refine va_iald hx hb hK hP 4 3 rgL8_074f9f3 rgT7_31013df (vinI (by omega) (by omega)) dX9_plainTerm_5 ?_
  refine lv_topi (fun x1 e_x1 => ?_)
  have q_x1 := congrArg Int32.toInt e_x1
  have b_x1 := i32b x1
  refine lv_iconst (v := 3) hx hb dX9_plainTerm_6 (by decide) ?_
  refine lv_icmp_ne (tgt := 19) hx hb dX9_plainTerm_7 (by decide) (fun c7_2 => ?_) (fun c7_2 => ?_)
  · have c7_2 : ¬ (x1.toInt = 3) := mt (cv_eq rfl (by decide)).mpr c7_2
    refine lv_aload_n hx hb dX9_plainTerm_19 rfl (lv_at hl 0 rfl) ?_
    refine va_get (D := (dC, dI)) (ci := 8) (v := .ref a0_32) (C := RX9) (T := TX9) (N := 44) hx hb hts inlX9 hown hK hP 0 rgL8_41f41bf rfl 32 (by decide) (hts (.fieldLink RX9 57 "ClosedUntilModel" "sort" "[I") qw_507) (fun _ h9 => h9) rfl dX9_plainTerm_20 ?_
    refine lv_iload_n hx hb dX9_plainTerm_23 rfl (lv_at hl 1 rfl) ?_
    refine va_iald hx hb hK hP 4 3 rgL8_074f9f3 rgT7_31013df (vinI (by omega) (by omega)) dX9_plainTerm_24 ?_
    refine lv_topi (fun x3 e_x3 => ?_)
    have q_x3 := congrArg Int32.toInt e_x3
    have b_x3 := i32b x3
    refine lv_if_ne (tgt := 47) hx hb dX9_plainTerm_25 (by decide) (fun c25_4 => ?_) (fun c25_4 => ?_)
    · have c25_4 : ¬ (x3.toInt = 0) := mt (cv_eq rfl (by decide)).mpr c25_4
      refine lv_aload_n hx hb dX9_plainTerm_47 rfl (lv_at hl 0 rfl) ?_
      refine va_get (D := (dC, dI)) (ci := 8) (v := .ref a0_32) (C := RX9) (T := TX9) (N := 44) hx hb hts inlX9 hown hK hP 0 rgL8_41f41bf rfl 32 (by decide) (hts (.fieldLink RX9 57 "ClosedUntilModel" "sort" "[I") qw_507) (fun _ h9 => h9) rfl dX9_plainTerm_48 ?_
      refine lv_iload_n hx hb dX9_plainTerm_51 rfl (lv_at hl 1 rfl) ?_
      refine va_iald hx hb hK hP 4 3 rgL8_074f9f3 rgT7_31013df (vinI (by omega) (by omega)) dX9_plainTerm_52 ?_
      refine lv_topi (fun x5 e_x5 => ?_)
      have q_x5 := congrArg Int32.toInt e_x5
      have b_x5 := i32b x5
      refine lv_iconst (v := 2) hx hb dX9_plainTerm_53 (by decide) ?_
      refine lv_icmp_ne (tgt := 81) hx hb dX9_plainTerm_54 (by decide) (fun c54_6 => ?_) (fun c54_6 => ?_)
      · have c54_6 : ¬ (x5.toInt = 2) := mt (cv_eq rfl (by decide)).mpr c54_6
        refine lv_aload_n hx hb dX9_plainTerm_81 rfl (lv_at hl 0 rfl) ?_
        refine va_get (D := (dC, dI)) (ci := 8) (v := .ref a0_38) (C := RX9) (T := TX9) (N := 44) hx hb hts inlX9 hown hK hP 0 rgL8_41f41bf rfl 38 (by decide) (hts (.fieldLink RX9 70 "ClosedUntilModel" "s" "[I") qw_502) (fun _ h9 => h9) rfl dX9_plainTerm_82 ?_
        refine lv_bipush (v := 24) hx hb dX9_plainTerm_85 (by decide) ?_
        refine lv_aload_n hx hb dX9_plainTerm_87 rfl (lv_at hl 0 rfl) ?_
        refine va_get (D := (dC, dI)) (ci := 8) (v := .ref a0_33) (C := RX9) (T := TX9) (N := 44) hx hb hts inlX9 hown hK hP 0 rgL8_41f41bf rfl 33 (by decide) (hts (.fieldLink RX9 60 "ClosedUntilModel" "whom" "[I") qw_508) (fun _ h9 => h9) rfl dX9_plainTerm_88 ?_
        refine lv_iload_n hx hb dX9_plainTerm_91 rfl (lv_at hl 1 rfl) ?_
        refine va_iald hx hb hK hP 5 4 rgL8_8ca47fb rgT7_285b095 (vinI (by omega) (by omega)) dX9_plainTerm_92 ?_
        refine lv_topi (fun x7 e_x7 => ?_)
        have q_x7 := congrArg Int32.toInt e_x7
        have b_x7 := i32b x7
        have hwu := WOk.use hmw (c := a1) (by omega) (by omega) e_x5 e_x7
        refine lv_iadd hx hb dX9_plainTerm_93 ?_
        refine lv_topi (fun x8 e_x8 => ?_)
        try have e_x8 := ti_add e_x8 (show (24 : Int32).toInt = 24 by decide) rfl (by omega)
        refine va_iald hx hb hK hP 7 6 rgL8_3b6b6c8 rgT7_aa56713 (vinI (by omega) (by omega)) dX9_plainTerm_94 ?_
        refine lv_topi (fun x9 e_x9 => ?_)
        have q_x9 := congrArg Int32.toInt e_x9
        have b_x9 := i32b x9
        refine lv_istore_n (lv' := [(3, .int x9), (0, .ref a0), (1, .int a1), (2, .int a2)]) hx hb dX9_plainTerm_95 rfl hl (by decide) rfl (fun ls hl => ?_)
        refine lv_iload_n hx hb dX9_plainTerm_96 rfl (lv_at hl 0 rfl) ?_
        refine lv_if_lt (tgt := 114) hx hb dX9_plainTerm_97 (by decide) (fun c97_10 => ?_) (fun c97_10 => ?_)
        · have c97_10 : x9.toInt < 0 := (cv_lt rfl (by decide)).mp c97_10
          refine lv_aload_n hx hb dX9_plainTerm_114 rfl (lv_at hl 1 rfl) ?_
          refine va_get (D := (dC, dI)) (ci := 8) (v := .ref a0_23) (C := RX9) (T := TX9) (N := 44) hx hb hts inlX9 hown hK hP 0 rgL8_41f41bf rfl 23 (by decide) (hts (.fieldLink RX9 30 "ClosedUntilModel" "birth" "[I") qw_514) (fun _ h9 => h9) rfl dX9_plainTerm_115 ?_
          refine lv_aload_n hx hb dX9_plainTerm_118 rfl (lv_at hl 1 rfl) ?_
          refine va_get (D := (dC, dI)) (ci := 8) (v := .ref a0_33) (C := RX9) (T := TX9) (N := 44) hx hb hts inlX9 hown hK hP 0 rgL8_41f41bf rfl 33 (by decide) (hts (.fieldLink RX9 60 "ClosedUntilModel" "whom" "[I") qw_508) (fun _ h9 => h9) rfl dX9_plainTerm_119 ?_
          refine lv_iload_n hx hb dX9_plainTerm_122 rfl (lv_at hl 2 rfl) ?_
          refine va_iald hx hb hK hP 5 4 rgL8_8ca47fb rgT7_285b095 (vinI (by omega) (by omega)) dX9_plainTerm_123 ?_
          refine lv_topi (fun x11 e_x11 => ?_)
          have q_x11 := congrArg Int32.toInt e_x11
          have b_x11 := i32b x11
          have hwu := WOk.use hmw (c := a1) (by omega) (by omega) e_x5 e_x11
          refine va_iald hx hb hK hP 1 0 rgL8_32bcc21 rgT7_9b9acb2 (vinI (by omega) (by omega)) dX9_plainTerm_124 ?_
          refine lv_topi (fun x12 e_x12 => ?_)
          have q_x12 := congrArg Int32.toInt e_x12
          have b_x12 := i32b x12
          refine lv_if_lt (tgt := 154) hx hb dX9_plainTerm_125 (by decide) (fun c125_13 => ?_) (fun c125_13 => ?_)
          · have c125_13 : x12.toInt < 0 := (cv_lt rfl (by decide)).mp c125_13
            refine lv_aload_n hx hb dX9_plainTerm_154 rfl (lv_at hl 1 rfl) ?_
            refine lv_aload_n hx hb dX9_plainTerm_155 rfl (lv_at hl 1 rfl) ?_
            refine va_get (D := (dC, dI)) (ci := 8) (v := .ref a0_29) (C := RX9) (T := TX9) (N := 44) hx hb hts inlX9 hown hK hP 0 rgL8_41f41bf rfl 29 (by decide) (hts (.fieldLink RX9 48 "ClosedUntilModel" "lastDay" "[I") qw_515) (fun _ h9 => h9) rfl dX9_plainTerm_156 ?_
            refine lv_iload_n hx hb dX9_plainTerm_159 rfl (lv_at hl 3 rfl) ?_
            refine va_iald hx hb hK hP 3 2 rgL8_73566b7 rgT7_4c44a40 (vinI (by omega) (by omega)) dX9_plainTerm_160 ?_
            refine lv_topi (fun x14 e_x14 => ?_)
            have q_x14 := congrArg Int32.toInt e_x14
            have b_x14 := i32b x14
            refine lv_aload_n hx hb dX9_plainTerm_161 rfl (lv_at hl 1 rfl) ?_
            refine va_get (D := (dC, dI)) (ci := 8) (v := .ref a0_34) (C := RX9) (T := TX9) (N := 44) hx hb hts inlX9 hown hK hP 0 rgL8_41f41bf rfl 34 (by decide) (hts (.fieldLink RX9 63 "ClosedUntilModel" "years" "[I") qw_516) (fun _ h9 => h9) rfl dX9_plainTerm_162 ?_
            refine lv_iconst (v := 3) hx hb dX9_plainTerm_165 (by decide) ?_
            refine lv_iload_n hx hb dX9_plainTerm_166 rfl (lv_at hl 2 rfl) ?_
            refine lv_imul hx hb dX9_plainTerm_167 ?_
            refine lv_topi (fun x15 e_x15 => ?_)
            try have e_x15 := ti_mul e_x15 (show (3 : Int32).toInt = 3 by decide) rfl (by omega)
            refine lv_iconst (v := 2) hx hb dX9_plainTerm_168 (by decide) ?_
            refine lv_iadd hx hb dX9_plainTerm_169 ?_
            refine lv_topi (fun x16 e_x16 => ?_)
            try have e_x16 := ti_add e_x16 rfl (show (2 : Int32).toInt = 2 by decide) (by omega)
            refine va_iald hx hb hK hP 6 5 rgL8_06e4aaa rgT7_3ac7fec (vinI (by omega) (by omega)) dX9_plainTerm_170 ?_
            refine lv_topi (fun x17 e_x17 => ?_)
            have q_x17 := congrArg Int32.toInt e_x17
            have b_x17 := i32b x17
            have hPc := (rgP8_82ce498 hP)
            have hKc := (rgK7_1b59772 hK)
            have hDc := (rgD8_dd76439 hD)
            have hFc := freeW hDc hS hA
            refine va_calli (va_runV (As := [.int x14, .int x17]) (rest := []) ⟨hx, hb, hml, hown, hts⟩ (k_X9_plusYears l dC dI g s.heap.size (a0) (x14) (x17) (a0_0) (a0_1) (a0_2) (a0_3) (a0_4) (a0_5) (a0_6) (a0_7) (a0_8) (a0_9) (a0_10) (a0_11) (a0_12) (a0_13) (a0_14) (a0_15) (a0_16) (a0_17) (a0_18) (a0_19) (a0_20) (a0_21) (a0_22) (a0_23) (a0_24) (a0_25) (a0_26) (a0_27) (a0_28) (a0_29) (a0_30) (a0_31) (a0_32) (a0_33) (a0_34) (a0_35) (a0_36) (a0_37) (a0_38) (a0_39) (a0_40) (a0_41) (a0_42) (a0_43) (by omega) (by omega) (by omega) (by omega) (by omega) (by omega) (by omega)) (cwV 2 hts (gwV qw_453 qw_454 qw_455 qw_386 qw_452) rfl rfl rfl (by decide +kernel) ⟨Nat.le_of_ble_eq_true rfl, Nat.le_of_ble_eq_true rfl⟩) ⟨fun a U g9 mk q => ⟨q.1, q.2.1, q.2.2.1, va_K.moved (u := U) (U := U.calling g9 mk a) (Vm.Alike.refl U.vm) q.2.2.2.1, q.2.2.2.2.1, Ev.bl q.2.2.2.2.2⟩, va_recv hK hP (ci := 8) (q0 := 0) rfl rgL8_41f41bf, fun U hU hW => ⟨rfl, by rw [hU], atB hU hPc, va_K.moved hW.alike hKc, hDc.weaken (fun _ _ _ _ => trivial), hE.go hS hFc hU hW⟩⟩ rfl rfl hl.1 rfl (lv_room (Nat.le_of_ble_eq_true rfl)) dX9_plainTerm_171 ⟨Nat.le_of_ble_eq_true rfl, Nat.le_of_ble_eq_true rfl⟩) hS (fun q _ h => hFc q h) hFc (fun r19 u18 t H1 locs ht hvm h_u18 hB hz1 hk1 hS => ?_)
            obtain ⟨za0_1_20, za0_2_21, za0_3_22, hP1, hK1, hD1⟩ := hB
            have hK1 := va_K.moved hvm.symm hK1
            have hJ9 := rgJ8_3415f12 hP hD hk1 hFc (atH ht hP1) hD1
            clear hP hD hPc hKc hDc hFc hP1 hD1 hk1 hz1
            obtain ⟨hP, hD⟩ := hJ9
            clear hK1
            generalize H1 = H at hP hS ⊢
            refine W.widen (k := 0) (n := 0) (Nat.le_of_ble_eq_true rfl) (Nat.le_of_ble_eq_true rfl) ?_
            have h_r19 := congrArg Int32.toInt h_u18
            have b_r19 := i32b r19
            refine W.widen (k := 0) (n := 0) (Nat.le_of_ble_eq_true rfl) (Nat.le_of_ble_eq_true rfl) ?_
            have hP9 := hP
            have hD9 := hD
            have hK9 := (rgK7_1b59772 hK)
            exact W.iret (v := r19) hx hb hr (fun t ht hW => ⟨⟨r19, r19, rfl, rfl, za0_1_20, za0_2_21, za0_3_22, atB ht hP9, va_K.moved hW.alike hK9, hD9⟩, hS.F ht⟩) hS.2.2 dX9_plainTerm_174
          · have c125_13 : ¬ (x12.toInt < 0) := mt (cv_lt rfl (by decide)).mpr c125_13
            refine lv_aload_n hx hb dX9_plainTerm_128 rfl (lv_at hl 1 rfl) ?_
            refine lv_aload_n hx hb dX9_plainTerm_129 rfl (lv_at hl 1 rfl) ?_
            refine va_get (D := (dC, dI)) (ci := 8) (v := .ref a0_23) (C := RX9) (T := TX9) (N := 44) hx hb hts inlX9 hown hK hP 0 rgL8_41f41bf rfl 23 (by decide) (hts (.fieldLink RX9 30 "ClosedUntilModel" "birth" "[I") qw_514) (fun _ h9 => h9) rfl dX9_plainTerm_130 ?_
            refine lv_aload_n hx hb dX9_plainTerm_133 rfl (lv_at hl 1 rfl) ?_
            refine va_get (D := (dC, dI)) (ci := 8) (v := .ref a0_33) (C := RX9) (T := TX9) (N := 44) hx hb hts inlX9 hown hK hP 0 rgL8_41f41bf rfl 33 (by decide) (hts (.fieldLink RX9 60 "ClosedUntilModel" "whom" "[I") qw_508) (fun _ h9 => h9) rfl dX9_plainTerm_134 ?_
            refine lv_iload_n hx hb dX9_plainTerm_137 rfl (lv_at hl 2 rfl) ?_
            refine va_iald hx hb hK hP 5 4 rgL8_8ca47fb rgT7_285b095 (vinI (by omega) (by omega)) dX9_plainTerm_138 ?_
            refine lv_topi (fun x23 e_x23 => ?_)
            have q_x23 := congrArg Int32.toInt e_x23
            have b_x23 := i32b x23
            have hwu := WOk.use hmw (c := a1) (by omega) (by omega) e_x5 e_x23
            refine va_iald hx hb hK hP 1 0 rgL8_32bcc21 rgT7_9b9acb2 (vinI (by omega) (by omega)) dX9_plainTerm_139 ?_
            refine lv_topi (fun x24 e_x24 => ?_)
            have q_x24 := congrArg Int32.toInt e_x24
            have b_x24 := i32b x24
            refine lv_aload_n hx hb dX9_plainTerm_140 rfl (lv_at hl 1 rfl) ?_
            refine va_get (D := (dC, dI)) (ci := 8) (v := .ref a0_34) (C := RX9) (T := TX9) (N := 44) hx hb hts inlX9 hown hK hP 0 rgL8_41f41bf rfl 34 (by decide) (hts (.fieldLink RX9 63 "ClosedUntilModel" "years" "[I") qw_516) (fun _ h9 => h9) rfl dX9_plainTerm_141 ?_
            refine lv_iconst (v := 3) hx hb dX9_plainTerm_144 (by decide) ?_
            refine lv_iload_n hx hb dX9_plainTerm_145 rfl (lv_at hl 2 rfl) ?_
            refine lv_imul hx hb dX9_plainTerm_146 ?_
            refine lv_topi (fun x25 e_x25 => ?_)
            try have e_x25 := ti_mul e_x25 (show (3 : Int32).toInt = 3 by decide) rfl (by omega)
            refine lv_iconst (v := 1) hx hb dX9_plainTerm_147 (by decide) ?_
            refine lv_iadd hx hb dX9_plainTerm_148 ?_
            refine lv_topi (fun x26 e_x26 => ?_)
            try have e_x26 := ti_add e_x26 rfl (show (1 : Int32).toInt = 1 by decide) (by omega)
            refine va_iald hx hb hK hP 6 5 rgL8_06e4aaa rgT7_3ac7fec (vinI (by omega) (by omega)) dX9_plainTerm_149 ?_
            refine lv_topi (fun x27 e_x27 => ?_)
            have q_x27 := congrArg Int32.toInt e_x27
            have b_x27 := i32b x27
            have hPc := (rgP8_82ce498 hP)
            have hKc := (rgK7_1b59772 hK)
            have hDc := (rgD8_dd76439 hD)
            have hFc := freeW hDc hS hA
            refine va_calli (va_runV (As := [.int x24, .int x27]) (rest := []) ⟨hx, hb, hml, hown, hts⟩ (k_X9_plusYears l dC dI g s.heap.size (a0) (x24) (x27) (a0_0) (a0_1) (a0_2) (a0_3) (a0_4) (a0_5) (a0_6) (a0_7) (a0_8) (a0_9) (a0_10) (a0_11) (a0_12) (a0_13) (a0_14) (a0_15) (a0_16) (a0_17) (a0_18) (a0_19) (a0_20) (a0_21) (a0_22) (a0_23) (a0_24) (a0_25) (a0_26) (a0_27) (a0_28) (a0_29) (a0_30) (a0_31) (a0_32) (a0_33) (a0_34) (a0_35) (a0_36) (a0_37) (a0_38) (a0_39) (a0_40) (a0_41) (a0_42) (a0_43) (by omega) (by omega) (by omega) (by omega) (by omega) (by omega) (by omega)) (cwV 2 hts (gwV qw_453 qw_454 qw_455 qw_386 qw_452) rfl rfl rfl (by decide +kernel) ⟨Nat.le_of_ble_eq_true rfl, Nat.le_of_ble_eq_true rfl⟩) ⟨fun a U g9 mk q => ⟨q.1, q.2.1, q.2.2.1, va_K.moved (u := U) (U := U.calling g9 mk a) (Vm.Alike.refl U.vm) q.2.2.2.1, q.2.2.2.2.1, Ev.bl q.2.2.2.2.2⟩, va_recv hK hP (ci := 8) (q0 := 0) rfl rgL8_41f41bf, fun U hU hW => ⟨rfl, by rw [hU], atB hU hPc, va_K.moved hW.alike hKc, hDc.weaken (fun _ _ _ _ => trivial), hE.go hS hFc hU hW⟩⟩ rfl rfl hl.1 rfl (lv_room (Nat.le_of_ble_eq_true rfl)) dX9_plainTerm_150 ⟨Nat.le_of_ble_eq_true rfl, Nat.le_of_ble_eq_true rfl⟩) hS (fun q _ h => hFc q h) hFc (fun r29 u28 t H1 locs ht hvm h_u28 hB hz1 hk1 hS => ?_)
            obtain ⟨za0_1_30, za0_2_31, za0_3_32, hP1, hK1, hD1⟩ := hB
            have hK1 := va_K.moved hvm.symm hK1
            have hJ9 := rgJ8_3415f12 hP hD hk1 hFc (atH ht hP1) hD1
            clear hP hD hPc hKc hDc hFc hP1 hD1 hk1 hz1
            obtain ⟨hP, hD⟩ := hJ9
            clear hK1
            generalize H1 = H at hP hS ⊢
            refine W.widen (k := 0) (n := 0) (Nat.le_of_ble_eq_true rfl) (Nat.le_of_ble_eq_true rfl) ?_
            have h_r29 := congrArg Int32.toInt h_u28
            have b_r29 := i32b r29
            refine W.widen (k := 0) (n := 0) (Nat.le_of_ble_eq_true rfl) (Nat.le_of_ble_eq_true rfl) ?_
            have hP9 := hP
            have hD9 := hD
            have hK9 := (rgK7_1b59772 hK)
            exact W.iret (v := r29) hx hb hr (fun t ht hW => ⟨⟨r29, r29, rfl, rfl, za0_1_30, za0_2_31, za0_3_32, atB ht hP9, va_K.moved hW.alike hK9, hD9⟩, hS.F ht⟩) hS.2.2 dX9_plainTerm_153
        · have c97_10 : ¬ (x9.toInt < 0) := mt (cv_lt rfl (by decide)).mpr c97_10
          refine lv_aload_n hx hb dX9_plainTerm_100 rfl (lv_at hl 1 rfl) ?_
          refine lv_iload_n hx hb dX9_plainTerm_101 rfl (lv_at hl 0 rfl) ?_
          refine lv_aload_n hx hb dX9_plainTerm_102 rfl (lv_at hl 1 rfl) ?_
          refine va_get (D := (dC, dI)) (ci := 8) (v := .ref a0_34) (C := RX9) (T := TX9) (N := 44) hx hb hts inlX9 hown hK hP 0 rgL8_41f41bf rfl 34 (by decide) (hts (.fieldLink RX9 63 "ClosedUntilModel" "years" "[I") qw_516) (fun _ h9 => h9) rfl dX9_plainTerm_103 ?_
          refine lv_iconst (v := 3) hx hb dX9_plainTerm_106 (by decide) ?_
          refine lv_iload_n hx hb dX9_plainTerm_107 rfl (lv_at hl 2 rfl) ?_
          refine lv_imul hx hb dX9_plainTerm_108 ?_
          refine lv_topi (fun x33 e_x33 => ?_)
          try have e_x33 := ti_mul e_x33 (show (3 : Int32).toInt = 3 by decide) rfl (by omega)
          refine va_iald hx hb hK hP 6 5 rgL8_06e4aaa rgT7_3ac7fec (vinI (by omega) (by omega)) dX9_plainTerm_109 ?_
          refine lv_topi (fun x34 e_x34 => ?_)
          have q_x34 := congrArg Int32.toInt e_x34
          have b_x34 := i32b x34
          have hPc := (rgP8_82ce498 hP)
          have hKc := (rgK7_1b59772 hK)
          have hDc := (rgD8_dd76439 hD)
          have hFc := freeW hDc hS hA
          refine va_calli (va_runV (As := [.int x9, .int x34]) (rest := []) ⟨hx, hb, hml, hown, hts⟩ (k_X9_plusYears l dC dI g s.heap.size (a0) (x9) (x34) (a0_0) (a0_1) (a0_2) (a0_3) (a0_4) (a0_5) (a0_6) (a0_7) (a0_8) (a0_9) (a0_10) (a0_11) (a0_12) (a0_13) (a0_14) (a0_15) (a0_16) (a0_17) (a0_18) (a0_19) (a0_20) (a0_21) (a0_22) (a0_23) (a0_24) (a0_25) (a0_26) (a0_27) (a0_28) (a0_29) (a0_30) (a0_31) (a0_32) (a0_33) (a0_34) (a0_35) (a0_36) (a0_37) (a0_38) (a0_39) (a0_40) (a0_41) (a0_42) (a0_43) (by omega) (by omega) (by omega) (by omega) (by omega) (by omega) (by omega)) (cwV 2 hts (gwV qw_453 qw_454 qw_455 qw_386 qw_452) rfl rfl rfl (by decide +kernel) ⟨Nat.le_of_ble_eq_true rfl, Nat.le_of_ble_eq_true rfl⟩) ⟨fun a U g9 mk q => ⟨q.1, q.2.1, q.2.2.1, va_K.moved (u := U) (U := U.calling g9 mk a) (Vm.Alike.refl U.vm) q.2.2.2.1, q.2.2.2.2.1, Ev.bl q.2.2.2.2.2⟩, va_recv hK hP (ci := 8) (q0 := 0) rfl rgL8_41f41bf, fun U hU hW => ⟨rfl, by rw [hU], atB hU hPc, va_K.moved hW.alike hKc, hDc.weaken (fun _ _ _ _ => trivial), hE.go hS hFc hU hW⟩⟩ rfl rfl hl.1 rfl (lv_room (Nat.le_of_ble_eq_true rfl)) dX9_plainTerm_110 ⟨Nat.le_of_ble_eq_true rfl, Nat.le_of_ble_eq_true rfl⟩) hS (fun q _ h => hFc q h) hFc (fun r36 u35 t H1 locs ht hvm h_u35 hB hz1 hk1 hS => ?_)
          obtain ⟨za0_1_37, za0_2_38, za0_3_39, hP1, hK1, hD1⟩ := hB
          have hK1 := va_K.moved hvm.symm hK1
          have hJ9 := rgJ8_3415f12 hP hD hk1 hFc (atH ht hP1) hD1
          clear hP hD hPc hKc hDc hFc hP1 hD1 hk1 hz1
          obtain ⟨hP, hD⟩ := hJ9
          clear hK1
          generalize H1 = H at hP hS ⊢
          refine W.widen (k := 0) (n := 0) (Nat.le_of_ble_eq_true rfl) (Nat.le_of_ble_eq_true rfl) ?_
          have h_r36 := congrArg Int32.toInt h_u35
          have b_r36 := i32b r36
          refine W.widen (k := 0) (n := 0) (Nat.le_of_ble_eq_true rfl) (Nat.le_of_ble_eq_true rfl) ?_
          have hP9 := hP
          have hD9 := hD
          have hK9 := (rgK7_1b59772 hK)
          exact W.iret (v := r36) hx hb hr (fun t ht hW => ⟨⟨r36, r36, rfl, rfl, za0_1_37, za0_2_38, za0_3_39, atB ht hP9, va_K.moved hW.alike hK9, hD9⟩, hS.F ht⟩) hS.2.2 dX9_plainTerm_113
      · have c54_6 : x5.toInt = 2 := (cv_eq rfl (by decide)).mp c54_6
        refine lv_aload_n hx hb dX9_plainTerm_57 rfl (lv_at hl 0 rfl) ?_
        refine lv_aload_n hx hb dX9_plainTerm_58 rfl (lv_at hl 0 rfl) ?_
        refine va_get (D := (dC, dI)) (ci := 8) (v := .ref a0_26) (C := RX9) (T := TX9) (N := 44) hx hb hts inlX9 hown hK hP 0 rgL8_41f41bf rfl 26 (by decide) (hts (.fieldLink RX9 39 "ClosedUntilModel" "depositDay" "[I") qw_517) (fun _ h9 => h9) rfl dX9_plainTerm_59 ?_
        refine lv_aload_n hx hb dX9_plainTerm_62 rfl (lv_at hl 0 rfl) ?_
        refine va_get (D := (dC, dI)) (ci := 8) (v := .ref a0_33) (C := RX9) (T := TX9) (N := 44) hx hb hts inlX9 hown hK hP 0 rgL8_41f41bf rfl 33 (by decide) (hts (.fieldLink RX9 60 "ClosedUntilModel" "whom" "[I") qw_508) (fun _ h9 => h9) rfl dX9_plainTerm_63 ?_
        refine lv_iload_n hx hb dX9_plainTerm_66 rfl (lv_at hl 1 rfl) ?_
        refine va_iald hx hb hK hP 5 4 rgL8_8ca47fb rgT7_285b095 (vinI (by omega) (by omega)) dX9_plainTerm_67 ?_
        refine lv_topi (fun x40 e_x40 => ?_)
        have q_x40 := congrArg Int32.toInt e_x40
        have b_x40 := i32b x40
        have hwu := WOk.use hmw (c := a1) (by omega) (by omega) e_x5 e_x40
        refine va_iald hx hb hK hP 2 1 rgL8_443bc0d rgT7_961d295 (vinI (by omega) (by omega)) dX9_plainTerm_68 ?_
        refine lv_topi (fun x41 e_x41 => ?_)
        have q_x41 := congrArg Int32.toInt e_x41
        have b_x41 := i32b x41
        refine lv_aload_n hx hb dX9_plainTerm_69 rfl (lv_at hl 0 rfl) ?_
        refine va_get (D := (dC, dI)) (ci := 8) (v := .ref a0_34) (C := RX9) (T := TX9) (N := 44) hx hb hts inlX9 hown hK hP 0 rgL8_41f41bf rfl 34 (by decide) (hts (.fieldLink RX9 63 "ClosedUntilModel" "years" "[I") qw_516) (fun _ h9 => h9) rfl dX9_plainTerm_70 ?_
        refine lv_iconst (v := 3) hx hb dX9_plainTerm_73 (by decide) ?_
        refine lv_iload_n hx hb dX9_plainTerm_74 rfl (lv_at hl 1 rfl) ?_
        refine lv_imul hx hb dX9_plainTerm_75 ?_
        refine lv_topi (fun x42 e_x42 => ?_)
        try have e_x42 := ti_mul e_x42 (show (3 : Int32).toInt = 3 by decide) rfl (by omega)
        refine va_iald hx hb hK hP 6 5 rgL8_06e4aaa rgT7_3ac7fec (vinI (by omega) (by omega)) dX9_plainTerm_76 ?_
        refine lv_topi (fun x43 e_x43 => ?_)
        have q_x43 := congrArg Int32.toInt e_x43
        have b_x43 := i32b x43
        have hPc := (rgP8_82ce498 hP)
        have hKc := (rgK7_1b59772 hK)
        have hDc := (rgD8_dd76439 hD)
        have hFc := freeW hDc hS hA
        refine va_calli (va_runV (As := [.int x41, .int x43]) (rest := []) ⟨hx, hb, hml, hown, hts⟩ (k_X9_plusYears l dC dI g s.heap.size (a0) (x41) (x43) (a0_0) (a0_1) (a0_2) (a0_3) (a0_4) (a0_5) (a0_6) (a0_7) (a0_8) (a0_9) (a0_10) (a0_11) (a0_12) (a0_13) (a0_14) (a0_15) (a0_16) (a0_17) (a0_18) (a0_19) (a0_20) (a0_21) (a0_22) (a0_23) (a0_24) (a0_25) (a0_26) (a0_27) (a0_28) (a0_29) (a0_30) (a0_31) (a0_32) (a0_33) (a0_34) (a0_35) (a0_36) (a0_37) (a0_38) (a0_39) (a0_40) (a0_41) (a0_42) (a0_43) (by omega) (by omega) (by omega) (by omega) (by omega) (by omega) (by omega)) (cwV 2 hts (gwV qw_453 qw_454 qw_455 qw_386 qw_452) rfl rfl rfl (by decide +kernel) ⟨Nat.le_of_ble_eq_true rfl, Nat.le_of_ble_eq_true rfl⟩) ⟨fun a U g9 mk q => ⟨q.1, q.2.1, q.2.2.1, va_K.moved (u := U) (U := U.calling g9 mk a) (Vm.Alike.refl U.vm) q.2.2.2.1, q.2.2.2.2.1, Ev.bl q.2.2.2.2.2⟩, va_recv hK hP (ci := 8) (q0 := 0) rfl rgL8_41f41bf, fun U hU hW => ⟨rfl, by rw [hU], atB hU hPc, va_K.moved hW.alike hKc, hDc.weaken (fun _ _ _ _ => trivial), hE.go hS hFc hU hW⟩⟩ rfl rfl hl.1 rfl (lv_room (Nat.le_of_ble_eq_true rfl)) dX9_plainTerm_77 ⟨Nat.le_of_ble_eq_true rfl, Nat.le_of_ble_eq_true rfl⟩) hS (fun q _ h => hFc q h) hFc (fun r45 u44 t H1 locs ht hvm h_u44 hB hz1 hk1 hS => ?_)
        obtain ⟨za0_1_46, za0_2_47, za0_3_48, hP1, hK1, hD1⟩ := hB
        have hK1 := va_K.moved hvm.symm hK1
        have hJ9 := rgJ8_3415f12 hP hD hk1 hFc (atH ht hP1) hD1
        clear hP hD hPc hKc hDc hFc hP1 hD1 hk1 hz1
        obtain ⟨hP, hD⟩ := hJ9
        clear hK1
        generalize H1 = H at hP hS ⊢
        refine W.widen (k := 0) (n := 0) (Nat.le_of_ble_eq_true rfl) (Nat.le_of_ble_eq_true rfl) ?_
        have h_r45 := congrArg Int32.toInt h_u44
        have b_r45 := i32b r45
        refine W.widen (k := 0) (n := 0) (Nat.le_of_ble_eq_true rfl) (Nat.le_of_ble_eq_true rfl) ?_
        have hP9 := hP
        have hD9 := hD
        have hK9 := (rgK7_1b59772 hK)
        exact W.iret (v := r45) hx hb hr (fun t ht hW => ⟨⟨r45, r45, rfl, rfl, za0_1_46, za0_2_47, za0_3_48, atB ht hP9, va_K.moved hW.alike hK9, hD9⟩, hS.F ht⟩) hS.2.2 dX9_plainTerm_80
    · have c25_4 : x3.toInt = 0 := (cv_eq rfl (by decide)).mp c25_4
      refine lv_aload_n hx hb dX9_plainTerm_28 rfl (lv_at hl 0 rfl) ?_
      refine lv_aload_n hx hb dX9_plainTerm_29 rfl (lv_at hl 0 rfl) ?_
      refine va_get (D := (dC, dI)) (ci := 8) (v := .ref a0_29) (C := RX9) (T := TX9) (N := 44) hx hb hts inlX9 hown hK hP 0 rgL8_41f41bf rfl 29 (by decide) (hts (.fieldLink RX9 48 "ClosedUntilModel" "lastDay" "[I") qw_515) (fun _ h9 => h9) rfl dX9_plainTerm_30 ?_
      refine lv_iload_n hx hb dX9_plainTerm_33 rfl (lv_at hl 2 rfl) ?_
      refine va_iald hx hb hK hP 3 2 rgL8_73566b7 rgT7_4c44a40 (vinI (by omega) (by omega)) dX9_plainTerm_34 ?_
      refine lv_topi (fun x49 e_x49 => ?_)
      have q_x49 := congrArg Int32.toInt e_x49
      have b_x49 := i32b x49
      refine lv_aload_n hx hb dX9_plainTerm_35 rfl (lv_at hl 0 rfl) ?_
      refine va_get (D := (dC, dI)) (ci := 8) (v := .ref a0_34) (C := RX9) (T := TX9) (N := 44) hx hb hts inlX9 hown hK hP 0 rgL8_41f41bf rfl 34 (by decide) (hts (.fieldLink RX9 63 "ClosedUntilModel" "years" "[I") qw_516) (fun _ h9 => h9) rfl dX9_plainTerm_36 ?_
      refine lv_iconst (v := 3) hx hb dX9_plainTerm_39 (by decide) ?_
      refine lv_iload_n hx hb dX9_plainTerm_40 rfl (lv_at hl 1 rfl) ?_
      refine lv_imul hx hb dX9_plainTerm_41 ?_
      refine lv_topi (fun x50 e_x50 => ?_)
      try have e_x50 := ti_mul e_x50 (show (3 : Int32).toInt = 3 by decide) rfl (by omega)
      refine va_iald hx hb hK hP 6 5 rgL8_06e4aaa rgT7_3ac7fec (vinI (by omega) (by omega)) dX9_plainTerm_42 ?_
      refine lv_topi (fun x51 e_x51 => ?_)
      have q_x51 := congrArg Int32.toInt e_x51
      have b_x51 := i32b x51
      have hPc := (rgP8_82ce498 hP)
      have hKc := (rgK7_1b59772 hK)
      have hDc := (rgD8_dd76439 hD)
      have hFc := freeW hDc hS hA
      refine va_calli (va_runV (As := [.int x49, .int x51]) (rest := []) ⟨hx, hb, hml, hown, hts⟩ (k_X9_plusYears l dC dI g s.heap.size (a0) (x49) (x51) (a0_0) (a0_1) (a0_2) (a0_3) (a0_4) (a0_5) (a0_6) (a0_7) (a0_8) (a0_9) (a0_10) (a0_11) (a0_12) (a0_13) (a0_14) (a0_15) (a0_16) (a0_17) (a0_18) (a0_19) (a0_20) (a0_21) (a0_22) (a0_23) (a0_24) (a0_25) (a0_26) (a0_27) (a0_28) (a0_29) (a0_30) (a0_31) (a0_32) (a0_33) (a0_34) (a0_35) (a0_36) (a0_37) (a0_38) (a0_39) (a0_40) (a0_41) (a0_42) (a0_43) (by omega) (by omega) (by omega) (by omega) (by omega) (by omega) (by omega)) (cwV 2 hts (gwV qw_453 qw_454 qw_455 qw_386 qw_452) rfl rfl rfl (by decide +kernel) ⟨Nat.le_of_ble_eq_true rfl, Nat.le_of_ble_eq_true rfl⟩) ⟨fun a U g9 mk q => ⟨q.1, q.2.1, q.2.2.1, va_K.moved (u := U) (U := U.calling g9 mk a) (Vm.Alike.refl U.vm) q.2.2.2.1, q.2.2.2.2.1, Ev.bl q.2.2.2.2.2⟩, va_recv hK hP (ci := 8) (q0 := 0) rfl rgL8_41f41bf, fun U hU hW => ⟨rfl, by rw [hU], atB hU hPc, va_K.moved hW.alike hKc, hDc.weaken (fun _ _ _ _ => trivial), hE.go hS hFc hU hW⟩⟩ rfl rfl hl.1 rfl (lv_room (Nat.le_of_ble_eq_true rfl)) dX9_plainTerm_43 ⟨Nat.le_of_ble_eq_true rfl, Nat.le_of_ble_eq_true rfl⟩) hS (fun q _ h => hFc q h) hFc (fun r53 u52 t H1 locs ht hvm h_u52 hB hz1 hk1 hS => ?_)
      obtain ⟨za0_1_54, za0_2_55, za0_3_56, hP1, hK1, hD1⟩ := hB
      have hK1 := va_K.moved hvm.symm hK1
      have hJ9 := rgJ8_3415f12 hP hD hk1 hFc (atH ht hP1) hD1
      clear hP hD hPc hKc hDc hFc hP1 hD1 hk1 hz1
      obtain ⟨hP, hD⟩ := hJ9
      clear hK1
      generalize H1 = H at hP hS ⊢
      refine W.widen (k := 0) (n := 0) (Nat.le_of_ble_eq_true rfl) (Nat.le_of_ble_eq_true rfl) ?_
      have h_r53 := congrArg Int32.toInt h_u52
      have b_r53 := i32b r53
      refine W.widen (k := 0) (n := 0) (Nat.le_of_ble_eq_true rfl) (Nat.le_of_ble_eq_true rfl) ?_
      have hP9 := hP
      have hD9 := hD
      have hK9 := (rgK7_1b59772 hK)
      exact W.iret (v := r53) hx hb hr (fun t ht hW => ⟨⟨r53, r53, rfl, rfl, za0_1_54, za0_2_55, za0_3_56, atB ht hP9, va_K.moved hW.alike hK9, hD9⟩, hS.F ht⟩) hS.2.2 dX9_plainTerm_46
  · have c7_2 : x1.toInt = 3 := (cv_eq rfl (by decide)).mp c7_2
    refine lv_aload_n hx hb dX9_plainTerm_10 rfl (lv_at hl 0 rfl) ?_
    refine va_get (D := (dC, dI)) (ci := 8) (v := .ref a0_34) (C := RX9) (T := TX9) (N := 44) hx hb hts inlX9 hown hK hP 0 rgL8_41f41bf rfl 34 (by decide) (hts (.fieldLink RX9 63 "ClosedUntilModel" "years" "[I") qw_516) (fun _ h9 => h9) rfl dX9_plainTerm_11 ?_
    refine lv_iconst (v := 3) hx hb dX9_plainTerm_14 (by decide) ?_
    refine lv_iload_n hx hb dX9_plainTerm_15 rfl (lv_at hl 1 rfl) ?_
    refine lv_imul hx hb dX9_plainTerm_16 ?_
    refine lv_topi (fun x57 e_x57 => ?_)
    try have e_x57 := ti_mul e_x57 (show (3 : Int32).toInt = 3 by decide) rfl (by omega)
    refine va_iald hx hb hK hP 6 5 rgL8_06e4aaa rgT7_3ac7fec (vinI (by omega) (by omega)) dX9_plainTerm_17 ?_
    refine lv_topi (fun x58 e_x58 => ?_)
    have q_x58 := congrArg Int32.toInt e_x58
    have b_x58 := i32b x58
    refine W.widen (k := 0) (n := 0) (Nat.le_of_ble_eq_true rfl) (Nat.le_of_ble_eq_true rfl) ?_
    have hP9 := hP
    have hD9 := hD
    have hK9 := (rgK7_1b59772 hK)
    exact W.iret (v := x58) hx hb hr (fun t ht hW => ⟨⟨x58, x58, rfl, rfl, a0_1, a0_2, a0_3, atB ht hP9, va_K.moved hW.alike hK9, hD9⟩, hS.F ht⟩) hS.2.2 dX9_plainTerm_18
set_option maxHeartbeats 4000000 in
set_option maxRecDepth 100000 in
theorem k_X9_termOf (l : Launch) (dC : Nat → ClassId) (dI : Nat → Nat → Nat) (g : Gv) (sz : Nat) (a0 : Nat) (a1 : Int32) (a2 : Int32) (a0_0 : Int32) (a0_1 : Int32) (a0_2 : Int32) (a0_3 : Int32) (a0_4 : Nat) (a0_5 : Int32) (a0_6 : Int32) (a0_7 : Int32) (a0_8 : Int32) (a0_9 : Int32) (a0_10 : Int32) (a0_11 : Int64) (a0_12 : Int32) (a0_13 : Int32) (a0_14 : Int32) (a0_15 : Int32) (a0_16 : Int32) (a0_17 : Int32) (a0_18 : Nat) (a0_19 : Nat) (a0_20 : Nat) (a0_21 : Nat) (a0_22 : Nat) (a0_23 : Nat) (a0_24 : Nat) (a0_25 : Nat) (a0_26 : Nat) (a0_27 : Nat) (a0_28 : Nat) (a0_29 : Nat) (a0_30 : Nat) (a0_31 : Nat) (a0_32 : Nat) (a0_33 : Nat) (a0_34 : Nat) (a0_35 : Nat) (a0_36 : Int64) (a0_37 : Int32) (a0_38 : Nat) (a0_39 : Nat) (a0_40 : Int32) (a0_41 : Nat) (a0_42 : Nat) (a0_43 : Nat) (a0_23_c : ClassId) (a0_23_f : Nat → Int32) (a0_26_c : ClassId) (a0_26_f : Nat → Int32) (a0_29_c : ClassId) (a0_29_f : Nat → Int32) (a0_32_c : ClassId) (a0_32_f : Nat → Int32) (a0_33_c : ClassId) (a0_33_f : Nat → Int32) (a0_34_c : ClassId) (a0_34_f : Nat → Int32) (a0_35_c : ClassId) (a0_35_f : Nat → Int32) (a0_38_c : ClassId) (a0_38_f : Nat → Int32) (cn : Int) (h_a0_5 : 0 ≤ a0_5.toInt ∧ a0_5.toInt ≤ 1000) (h_a0_6 : 0 ≤ a0_6.toInt ∧ a0_6.toInt ≤ 1000) (h_a0_7 : 0 ≤ a0_7.toInt ∧ a0_7.toInt ≤ 1000) (h_a0_8 : 0 ≤ a0_8.toInt ∧ a0_8.toInt ≤ 1000) (h_a0_17 : 0 ≤ a0_17.toInt ∧ a0_17.toInt ≤ 1) (h_a0_37 : (-1) ≤ a0_37.toInt ∧ a0_37.toInt ≤ 23) (h_a0_40 : 0 ≤ a0_40.toInt ∧ a0_40.toInt ≤ 12) (hcn : cn ≤ 12) (hmw : WOk a0_32_f a0_33_f 0 cn) (hcr : 0 ≤ a1.toInt ∧ a1.toInt < cn) (ha2r : 0 ≤ a2.toInt ∧ a2.toInt < 48) (hmo : MO a0_38_f 0) : Met l yX9_termOf (.code yX9_termOf cX9_termOf 7 (some .int) :: TBL) ({ frames := 5, cells := 0, slots := 0, locals := 113 }) (va_Pc [.ref a0, .int a1, .int a2] (fun U => U.heap.size = sz ∧ va_P (dC, dI) vwCl [(a0, .inr (8, [.int a0_0, .int a0_1, .int a0_2, .int a0_3, .ref a0_4, .int a0_5, .int a0_6, .int a0_7, .int a0_8, .int a0_9, .int a0_10, .long a0_11, .int a0_12, .int a0_13, .int a0_14, .int a0_15, .int a0_16, .int a0_17, .ref a0_18, .ref a0_19, .ref a0_20, .ref a0_21, .ref a0_22, .ref a0_23, .ref a0_24, .ref a0_25, .ref a0_26, .ref a0_27, .ref a0_28, .ref a0_29, .ref a0_30, .ref a0_31, .ref a0_32, .ref a0_33, .ref a0_34, .ref a0_35, .long a0_36, .int a0_37, .ref a0_38, .ref a0_39, .int a0_40, .ref a0_41, .ref a0_42, .ref a0_43])), (a0_23, .inl (a0_23_c, 16, .inl a0_23_f)), (a0_26, .inl (a0_26_c, 8, .inl a0_26_f)), (a0_29, .inl (a0_29_c, 48, .inl a0_29_f)), (a0_32, .inl (a0_32_c, 24, .inl a0_32_f)), (a0_33, .inl (a0_33_c, 24, .inl a0_33_f)), (a0_34, .inl (a0_34_c, 72, .inl a0_34_f)), (a0_35, .inl (a0_35_c, 24, .inl a0_35_f)), (a0_38, .inl (a0_38_c, 176, .inl a0_38_f))] U.heap ∧ va_K (dC, dI) vwCl [(a0_23_c, .int), (a0_26_c, .int), (a0_29_c, .int), (a0_32_c, .int), (a0_33_c, .int), (a0_34_c, .int), (a0_35_c, .boolean), (a0_38_c, .int)] U ∧ va_D (fun _ => True) [(a0, .inr (8, [.int a0_0, .int a0_1, .int a0_2, .int a0_3, .ref a0_4, .int a0_5, .int a0_6, .int a0_7, .int a0_8, .int a0_9, .int a0_10, .long a0_11, .int a0_12, .int a0_13, .int a0_14, .int a0_15, .int a0_16, .int a0_17, .ref a0_18, .ref a0_19, .ref a0_20, .ref a0_21, .ref a0_22, .ref a0_23, .ref a0_24, .ref a0_25, .ref a0_26, .ref a0_27, .ref a0_28, .ref a0_29, .ref a0_30, .ref a0_31, .ref a0_32, .ref a0_33, .ref a0_34, .ref a0_35, .long a0_36, .int a0_37, .ref a0_38, .ref a0_39, .int a0_40, .ref a0_41, .ref a0_42, .ref a0_43])), (a0_23, .inl (a0_23_c, 16, .inl a0_23_f)), (a0_26, .inl (a0_26_c, 8, .inl a0_26_f)), (a0_29, .inl (a0_29_c, 48, .inl a0_29_f)), (a0_32, .inl (a0_32_c, 24, .inl a0_32_f)), (a0_33, .inl (a0_33_c, 24, .inl a0_33_f)), (a0_34, .inl (a0_34_c, 72, .inl a0_34_f)), (a0_35, .inl (a0_35_c, 24, .inl a0_35_f)), (a0_38, .inl (a0_38_c, 176, .inl a0_38_f))] ∧ Ev g (va_A [(a0, .inr (8, [.int a0_0, .int a0_1, .int a0_2, .int a0_3, .ref a0_4, .int a0_5, .int a0_6, .int a0_7, .int a0_8, .int a0_9, .int a0_10, .long a0_11, .int a0_12, .int a0_13, .int a0_14, .int a0_15, .int a0_16, .int a0_17, .ref a0_18, .ref a0_19, .ref a0_20, .ref a0_21, .ref a0_22, .ref a0_23, .ref a0_24, .ref a0_25, .ref a0_26, .ref a0_27, .ref a0_28, .ref a0_29, .ref a0_30, .ref a0_31, .ref a0_32, .ref a0_33, .ref a0_34, .ref a0_35, .long a0_36, .int a0_37, .ref a0_38, .ref a0_39, .int a0_40, .ref a0_41, .ref a0_42, .ref a0_43])), (a0_23, .inl (a0_23_c, 16, .inl a0_23_f)), (a0_26, .inl (a0_26_c, 8, .inl a0_26_f)), (a0_29, .inl (a0_29_c, 48, .inl a0_29_f)), (a0_32, .inl (a0_32_c, 24, .inl a0_32_f)), (a0_33, .inl (a0_33_c, 24, .inl a0_33_f)), (a0_34, .inl (a0_34_c, 72, .inl a0_34_f)), (a0_35, .inl (a0_35_c, 24, .inl a0_35_f)), (a0_38, .inl (a0_38_c, 176, .inl a0_38_f))] sz) U)) (va_Qi (fun (r : Int32) (u : Int32) => u = r) (fun (u : Int32) (t : State) => ∃ (za0_1 : Int32) (za0_2 : Int32) (za0_3 : Int32), va_P (dC, dI) vwCl [(a0, .inr (8, [.int a0_0, .int za0_1, .int za0_2, .int za0_3, .ref a0_4, .int a0_5, .int a0_6, .int a0_7, .int a0_8, .int a0_9, .int a0_10, .long a0_11, .int a0_12, .int a0_13, .int a0_14, .int a0_15, .int a0_16, .int a0_17, .ref a0_18, .ref a0_19, .ref a0_20, .ref a0_21, .ref a0_22, .ref a0_23, .ref a0_24, .ref a0_25, .ref a0_26, .ref a0_27, .ref a0_28, .ref a0_29, .ref a0_30, .ref a0_31, .ref a0_32, .ref a0_33, .ref a0_34, .ref a0_35, .long a0_36, .int a0_37, .ref a0_38, .ref a0_39, .int a0_40, .ref a0_41, .ref a0_42, .ref a0_43])), (a0_23, .inl (a0_23_c, 16, .inl a0_23_f)), (a0_26, .inl (a0_26_c, 8, .inl a0_26_f)), (a0_29, .inl (a0_29_c, 48, .inl a0_29_f)), (a0_32, .inl (a0_32_c, 24, .inl a0_32_f)), (a0_33, .inl (a0_33_c, 24, .inl a0_33_f)), (a0_34, .inl (a0_34_c, 72, .inl a0_34_f)), (a0_35, .inl (a0_35_c, 24, .inl a0_35_f)), (a0_38, .inl (a0_38_c, 176, .inl a0_38_f))] t.heap ∧ va_K (dC, dI) vwCl [] t ∧ va_D (va_A [(a0, .inr (8, [.int a0_0, .int a0_1, .int a0_2, .int a0_3, .ref a0_4, .int a0_5, .int a0_6, .int a0_7, .int a0_8, .int a0_9, .int a0_10, .long a0_11, .int a0_12, .int a0_13, .int a0_14, .int a0_15, .int a0_16, .int a0_17, .ref a0_18, .ref a0_19, .ref a0_20, .ref a0_21, .ref a0_22, .ref a0_23, .ref a0_24, .ref a0_25, .ref a0_26, .ref a0_27, .ref a0_28, .ref a0_29, .ref a0_30, .ref a0_31, .ref a0_32, .ref a0_33, .ref a0_34, .ref a0_35, .long a0_36, .int a0_37, .ref a0_38, .ref a0_39, .int a0_40, .ref a0_41, .ref a0_42, .ref a0_43])), (a0_23, .inl (a0_23_c, 16, .inl a0_23_f)), (a0_26, .inl (a0_26_c, 8, .inl a0_26_f)), (a0_29, .inl (a0_29_c, 48, .inl a0_29_f)), (a0_32, .inl (a0_32_c, 24, .inl a0_32_f)), (a0_33, .inl (a0_33_c, 24, .inl a0_33_f)), (a0_34, .inl (a0_34_c, 72, .inl a0_34_f)), (a0_35, .inl (a0_35_c, 24, .inl a0_35_f)), (a0_38, .inl (a0_38_c, 176, .inl a0_38_f))] sz) [(a0, .inr (8, [.int a0_0, .int za0_1, .int za0_2, .int za0_3, .ref a0_4, .int a0_5, .int a0_6, .int a0_7, .int a0_8, .int a0_9, .int a0_10, .long a0_11, .int a0_12, .int a0_13, .int a0_14, .int a0_15, .int a0_16, .int a0_17, .ref a0_18, .ref a0_19, .ref a0_20, .ref a0_21, .ref a0_22, .ref a0_23, .ref a0_24, .ref a0_25, .ref a0_26, .ref a0_27, .ref a0_28, .ref a0_29, .ref a0_30, .ref a0_31, .ref a0_32, .ref a0_33, .ref a0_34, .ref a0_35, .long a0_36, .int a0_37, .ref a0_38, .ref a0_39, .int a0_40, .ref a0_41, .ref a0_42, .ref a0_43])), (a0_23, .inl (a0_23_c, 16, .inl a0_23_f)), (a0_26, .inl (a0_26_c, 8, .inl a0_26_f)), (a0_29, .inl (a0_29_c, 48, .inl a0_29_f)), (a0_32, .inl (a0_32_c, 24, .inl a0_32_f)), (a0_33, .inl (a0_33_c, 24, .inl a0_33_f)), (a0_34, .inl (a0_34_c, 72, .inl a0_34_f)), (a0_35, .inl (a0_35_c, 24, .inl a0_35_f)), (a0_38, .inl (a0_38_c, 176, .inl a0_38_f))]) (va_A [(a0, .inr (8, [.int a0_0, .int a0_1, .int a0_2, .int a0_3, .ref a0_4, .int a0_5, .int a0_6, .int a0_7, .int a0_8, .int a0_9, .int a0_10, .long a0_11, .int a0_12, .int a0_13, .int a0_14, .int a0_15, .int a0_16, .int a0_17, .ref a0_18, .ref a0_19, .ref a0_20, .ref a0_21, .ref a0_22, .ref a0_23, .ref a0_24, .ref a0_25, .ref a0_26, .ref a0_27, .ref a0_28, .ref a0_29, .ref a0_30, .ref a0_31, .ref a0_32, .ref a0_33, .ref a0_34, .ref a0_35, .long a0_36, .int a0_37, .ref a0_38, .ref a0_39, .int a0_40, .ref a0_41, .ref a0_42, .ref a0_43])), (a0_23, .inl (a0_23_c, 16, .inl a0_23_f)), (a0_26, .inl (a0_26_c, 8, .inl a0_26_f)), (a0_29, .inl (a0_29_c, 48, .inl a0_29_f)), (a0_32, .inl (a0_32_c, 24, .inl a0_32_f)), (a0_33, .inl (a0_33_c, 24, .inl a0_33_f)), (a0_34, .inl (a0_34_c, 72, .inl a0_34_f)), (a0_35, .inl (a0_35_c, 24, .inl a0_35_f)), (a0_38, .inl (a0_38_c, 176, .inl a0_38_f))] sz)) 0 0 (va_A [(a0, .inr (8, [.int a0_0, .int a0_1, .int a0_2, .int a0_3, .ref a0_4, .int a0_5, .int a0_6, .int a0_7, .int a0_8, .int a0_9, .int a0_10, .long a0_11, .int a0_12, .int a0_13, .int a0_14, .int a0_15, .int a0_16, .int a0_17, .ref a0_18, .ref a0_19, .ref a0_20, .ref a0_21, .ref a0_22, .ref a0_23, .ref a0_24, .ref a0_25, .ref a0_26, .ref a0_27, .ref a0_28, .ref a0_29, .ref a0_30, .ref a0_31, .ref a0_32, .ref a0_33, .ref a0_34, .ref a0_35, .long a0_36, .int a0_37, .ref a0_38, .ref a0_39, .int a0_40, .ref a0_41, .ref a0_42, .ref a0_43])), (a0_23, .inl (a0_23_c, 16, .inl a0_23_f)), (a0_26, .inl (a0_26_c, 8, .inl a0_26_f)), (a0_29, .inl (a0_29_c, 48, .inl a0_29_f)), (a0_32, .inl (a0_32_c, 24, .inl a0_32_f)), (a0_33, .inl (a0_33_c, 24, .inl a0_33_f)), (a0_34, .inl (a0_34_c, 72, .inl a0_34_f)), (a0_35, .inl (a0_35_c, 24, .inl a0_35_f)), (a0_38, .inl (a0_38_c, 176, .inl a0_38_f))] sz) := by
  refine Met.ofW (cc := cX9_termOf) (maxL := 7) (ret := (some .int)) (by decide) rfl ?_
  intro p e s m args below meth c s₁ B hml hv
  obtain ⟨rfl, hsz, hP, hK, hD0, hE⟩ := hv
  have hx := B.exec
  have hb := B.bytes
  have hr := B.returns
  have hts0 := atoms_spec (ws := (.code yX9_termOf cX9_termOf 7 (some .int) :: TBL)) B.pre
  have hts := fun (w : Cond) (h : w ∈ TBL) => hts0 w (List.mem_cons_of_mem _ h)
  have hown : s.vm.findClass RX9 = some m.cls := findClass_of_methodNamed B.named
  have hlocks := B.notSynchronized
  have hN := hE.1
  subst hsz
  have hD := hD0.self (sz := s.heap.size)
  generalize hAe : va_A [(a0, .inr (8, [.int a0_0, .int a0_1, .int a0_2, .int a0_3, .ref a0_4, .int a0_5, .int a0_6, .int a0_7, .int a0_8, .int a0_9, .int a0_10, .long a0_11, .int a0_12, .int a0_13, .int a0_14, .int a0_15, .int a0_16, .int a0_17, .ref a0_18, .ref a0_19, .ref a0_20, .ref a0_21, .ref a0_22, .ref a0_23, .ref a0_24, .ref a0_25, .ref a0_26, .ref a0_27, .ref a0_28, .ref a0_29, .ref a0_30, .ref a0_31, .ref a0_32, .ref a0_33, .ref a0_34, .ref a0_35, .long a0_36, .int a0_37, .ref a0_38, .ref a0_39, .int a0_40, .ref a0_41, .ref a0_42, .ref a0_43])), (a0_23, .inl (a0_23_c, 16, .inl a0_23_f)), (a0_26, .inl (a0_26_c, 8, .inl a0_26_f)), (a0_29, .inl (a0_29_c, 48, .inl a0_29_f)), (a0_32, .inl (a0_32_c, 24, .inl a0_32_f)), (a0_33, .inl (a0_33_c, 24, .inl a0_33_f)), (a0_34, .inl (a0_34_c, 72, .inl a0_34_f)), (a0_35, .inl (a0_35_c, 24, .inl a0_35_f)), (a0_38, .inl (a0_38_c, 176, .inl a0_38_f))] s.heap.size = A at hD hE ⊢
  have hA : ∀ q : Nat, s.heap.size ≤ q → A q := fun q h => by rw [← hAe]; exact Or.inr h
  have hS : va_S A s.heap s.heap [] := va_S.rf
  replace hP : va_P (dC, dI) vwCl [(a0, .inr (8, [.int a0_0, .int a0_1, .int a0_2, .int a0_3, .ref a0_4, .int a0_5, .int a0_6, .int a0_7, .int a0_8, .int a0_9, .int a0_10, .long a0_11, .int a0_12, .int a0_13, .int a0_14, .int a0_15, .int a0_16, .int a0_17, .ref a0_18, .ref a0_19, .ref a0_20, .ref a0_21, .ref a0_22, .ref a0_23, .ref a0_24, .ref a0_25, .ref a0_26, .ref a0_27, .ref a0_28, .ref a0_29, .ref a0_30, .ref a0_31, .ref a0_32, .ref a0_33, .ref a0_34, .ref a0_35, .long a0_36, .int a0_37, .ref a0_38, .ref a0_39, .int a0_40, .ref a0_41, .ref a0_42, .ref a0_43])), (a0_23, .inl (a0_23_c, 16, .inl a0_23_f)), (a0_26, .inl (a0_26_c, 8, .inl a0_26_f)), (a0_29, .inl (a0_29_c, 48, .inl a0_29_f)), (a0_32, .inl (a0_32_c, 24, .inl a0_32_f)), (a0_33, .inl (a0_33_c, 24, .inl a0_33_f)), (a0_34, .inl (a0_34_c, 72, .inl a0_34_f)), (a0_35, .inl (a0_35_c, 24, .inl a0_35_f)), (a0_38, .inl (a0_38_c, 176, .inl a0_38_f))] s.heap := hP
  have hl := lv_entry ([.ref a0, .int a1, .int a2]) (n := 7) (Nat.le_of_ble_eq_true rfl)
  rw [lg_entry_eq]
  generalize (lg_sl ([.ref a0, .int a1, .int a2]) ++ List.replicate (7 - (lg_sl ([.ref a0, .int a1, .int a2])).length) Slot.unset).toArray = ls at hl ⊢
  have hl : lv_has ls 7 [(0, .ref a0), (1, .int a1), (2, .int a2)] := hl
  have b_a1 := i32b a1
  have b_a2 := i32b a2
  have b_a0_0 := i32b a0_0
  have b_a0_1 := i32b a0_1
  have b_a0_2 := i32b a0_2
  have b_a0_3 := i32b a0_3
  have b_a0_9 := i32b a0_9
  have b_a0_10 := i32b a0_10
  have b_a0_12 := i32b a0_12
  have b_a0_13 := i32b a0_13
  have b_a0_14 := i32b a0_14
  have b_a0_15 := i32b a0_15
  have b_a0_16 := i32b a0_16
  refine lv_aload_n hx hb dX9_termOf_0 rfl (lv_at hl 0 rfl) ?_
  refine lv_iload_n hx hb dX9_termOf_1 rfl (lv_at hl 1 rfl) ?_
  refine lv_iload_n hx hb dX9_termOf_2 rfl (lv_at hl 2 rfl) ?_
  have hPc := (rgP9_4c7e336 hP)
  have hKc := (rgK8_4886f59 hK)
  have hDc := (rgD9_a7a0835 hD)
  have hFc := freeW hDc hS hA
  refine va_calli (va_runV (As := [.int a1, .int a2]) (rest := []) ⟨hx, hb, hml, hown, hts⟩ (k_X9_plainTerm l dC dI g s.heap.size (a0) (a1) (a2) (a0_0) (a0_1) (a0_2) (a0_3) (a0_4) (a0_5) (a0_6) (a0_7) (a0_8) (a0_9) (a0_10) (a0_11) (a0_12) (a0_13) (a0_14) (a0_15) (a0_16) (a0_17) (a0_18) (a0_19) (a0_20) (a0_21) (a0_22) (a0_23) (a0_24) (a0_25) (a0_26) (a0_27) (a0_28) (a0_29) (a0_30) (a0_31) (a0_32) (a0_33) (a0_34) (a0_35) (a0_36) (a0_37) (a0_38) (a0_39) (a0_40) (a0_41) (a0_42) (a0_43) (a0_23_c) (a0_23_f) (a0_26_c) (a0_26_f) (a0_29_c) (a0_29_f) (a0_32_c) (a0_32_f) (a0_33_c) (a0_33_f) (a0_34_c) (a0_34_f) (a0_38_c) (a0_38_f) (cn) (by omega) (by omega) (by omega) (by omega) (by omega) (by omega) (by omega) (by omega) (by assumption) (by omega) (by omega)) (cwV 2 hts (gwV qw_519 qw_520 qw_521 qw_386 qw_518) rfl rfl rfl (by decide +kernel) ⟨Nat.le_of_ble_eq_true rfl, Nat.le_of_ble_eq_true rfl⟩) ⟨fun a U g9 mk q => ⟨q.1, q.2.1, q.2.2.1, va_K.moved (u := U) (U := U.calling g9 mk a) (Vm.Alike.refl U.vm) q.2.2.2.1, q.2.2.2.2.1, Ev.bl q.2.2.2.2.2⟩, va_recv hK hP (ci := 8) (q0 := 0) rfl rgL9_97de23c, fun U hU hW => ⟨rfl, by rw [hU], atB hU hPc, va_K.moved hW.alike hKc, hDc.weaken (fun _ _ _ _ => trivial), hE.go hS hFc hU hW⟩⟩ rfl rfl hl.1 rfl (lv_room (Nat.le_of_ble_eq_true rfl)) dX9_termOf_3 ⟨Nat.le_of_ble_eq_true rfl, Nat.le_of_ble_eq_true rfl⟩) hS (fun q _ h => hFc q h) hFc (fun r2 u1 t H1 locs ht hvm h_u1 hB hz1 hk1 hS => ?_)
  obtain ⟨za0_1_3, za0_2_4, za0_3_5, hP1, hK1, hD1⟩ := hB
  have hK1 := va_K.moved hvm.symm hK1
  have hJ9 := rgJ9_a5e34bc hP hD hk1 hFc (atH ht hP1) hD1
  clear hP hD hPc hKc hDc hFc hP1 hD1 hk1 hz1
  obtain ⟨hP, hD⟩ := hJ9
  clear hK1
  generalize H1 = H at hP hS ⊢
  refine W.widen (k := 0) (n := 0) (Nat.le_of_ble_eq_true rfl) (Nat.le_of_ble_eq_true rfl) ?_
  have h_r2 := congrArg Int32.toInt h_u1
  have b_r2 := i32b r2
  refine lv_istore_n (lv' := [(3, .int r2), (0, .ref a0), (1, .int a1), (2, .int a2)]) hx hb dX9_termOf_6 rfl hl (by decide) rfl (fun ls hl => ?_)
  refine lv_aload_n hx hb dX9_termOf_7 rfl (lv_at hl 1 rfl) ?_
  refine va_get (D := (dC, dI)) (ci := 8) (v := .ref a0_35) (C := RX9) (T := TX9) (N := 44) hx hb hts inlX9 hown hK hP 0 rgL9_97de23c rfl 35 (by decide) (hts (.fieldLink RX9 66 "ClosedUntilModel" "isWhole" "[Z") qw_522) (fun _ h9 => h9) rfl dX9_termOf_8 ?_
  refine lv_iload_n hx hb dX9_termOf_11 rfl (lv_at hl 2 rfl) ?_
  refine va_zald hx hb hK hP 7 6 rgL9_1eb08b1 rgT8_f259fe9 (vinI (by omega) (by omega)) dX9_termOf_12 ?_
  refine lv_topi (fun x6 e_x6 => ?_)
  have b_x6 := i32b x6
  refine lv_if_eq (tgt := 22) hx hb dX9_termOf_13 (by decide) (fun c13_7 => ?_) (fun c13_7 => ?_)
  · have c13_7 : x6.toInt = 0 := (cv_eq rfl (by decide)).mp c13_7
    refine lv_iconst (v := 0) hx hb dX9_termOf_22 (by decide) ?_
    refine lv_istore (lv' := [(4, .int 0), (3, .int r2), (0, .ref a0), (1, .int a1), (2, .int a2)]) hx hb dX9_termOf_23 hl (by decide) rfl (fun ls hl => ?_)
    have qc0 : (0 : Int32).toInt = 0 := by decide
    refine wloop (fun n H locs ls => ∃ (l25_4 : Int32) (l25_3 : Int32) (f25_0_1 : Int32) (f25_0_2 : Int32) (f25_0_3 : Int32), n = (2147483647 - l25_4.toInt).toNat ∧ (0 ≤ l25_4.toInt) ∧ lv_has ls 7 [(4, .int l25_4), (3, .int l25_3), (0, .ref a0), (1, .int a1), (2, .int a2)] ∧ va_P (dC, dI) vwCl [(a0, .inr (8, [.int a0_0, .int f25_0_1, .int f25_0_2, .int f25_0_3, .ref a0_4, .int a0_5, .int a0_6, .int a0_7, .int a0_8, .int a0_9, .int a0_10, .long a0_11, .int a0_12, .int a0_13, .int a0_14, .int a0_15, .int a0_16, .int a0_17, .ref a0_18, .ref a0_19, .ref a0_20, .ref a0_21, .ref a0_22, .ref a0_23, .ref a0_24, .ref a0_25, .ref a0_26, .ref a0_27, .ref a0_28, .ref a0_29, .ref a0_30, .ref a0_31, .ref a0_32, .ref a0_33, .ref a0_34, .ref a0_35, .long a0_36, .int a0_37, .ref a0_38, .ref a0_39, .int a0_40, .ref a0_41, .ref a0_42, .ref a0_43])), (a0_23, .inl (a0_23_c, 16, .inl a0_23_f)), (a0_26, .inl (a0_26_c, 8, .inl a0_26_f)), (a0_29, .inl (a0_29_c, 48, .inl a0_29_f)), (a0_32, .inl (a0_32_c, 24, .inl a0_32_f)), (a0_33, .inl (a0_33_c, 24, .inl a0_33_f)), (a0_34, .inl (a0_34_c, 72, .inl a0_34_f)), (a0_35, .inl (a0_35_c, 24, .inl a0_35_f)), (a0_38, .inl (a0_38_c, 176, .inl a0_38_f))] H ∧ va_D A [(a0, .inr (8, [.int a0_0, .int f25_0_1, .int f25_0_2, .int f25_0_3, .ref a0_4, .int a0_5, .int a0_6, .int a0_7, .int a0_8, .int a0_9, .int a0_10, .long a0_11, .int a0_12, .int a0_13, .int a0_14, .int a0_15, .int a0_16, .int a0_17, .ref a0_18, .ref a0_19, .ref a0_20, .ref a0_21, .ref a0_22, .ref a0_23, .ref a0_24, .ref a0_25, .ref a0_26, .ref a0_27, .ref a0_28, .ref a0_29, .ref a0_30, .ref a0_31, .ref a0_32, .ref a0_33, .ref a0_34, .ref a0_35, .long a0_36, .int a0_37, .ref a0_38, .ref a0_39, .int a0_40, .ref a0_41, .ref a0_42, .ref a0_43])), (a0_23, .inl (a0_23_c, 16, .inl a0_23_f)), (a0_26, .inl (a0_26_c, 8, .inl a0_26_f)), (a0_29, .inl (a0_29_c, 48, .inl a0_29_f)), (a0_32, .inl (a0_32_c, 24, .inl a0_32_f)), (a0_33, .inl (a0_33_c, 24, .inl a0_33_f)), (a0_34, .inl (a0_34_c, 72, .inl a0_34_f)), (a0_35, .inl (a0_35_c, 24, .inl a0_35_f)), (a0_38, .inl (a0_38_c, 176, .inl a0_38_f))] ∧ va_S A s.heap H locs) ?_ ((2147483647 - (0 : Int32).toInt).toNat) _ _ _ ⟨0, r2, za0_1_3, za0_2_4, za0_3_5, rfl, (by omega), lv_sub hl [0, 1, 2, 3, 4] rfl, hP, hD, hS⟩
    intro n25 H locs ls hI ih25
    obtain ⟨l25_4, l25_3, f25_0_1, f25_0_2, f25_0_3, hn25, g_l25_4, hl, hP, hD, hS⟩ := hI
    have b_l25_4 := i32b l25_4
    have b_l25_3 := i32b l25_3
    have b_f25_0_1 := i32b f25_0_1
    have b_f25_0_2 := i32b f25_0_2
    have b_f25_0_3 := i32b f25_0_3
    refine lv_iload hx hb dX9_termOf_25 (lv_at hl 0 rfl) ?_
    refine lv_aload_n hx hb dX9_termOf_27 rfl (lv_at hl 2 rfl) ?_
    refine va_get (D := (dC, dI)) (ci := 8) (v := .ref a0_38) (C := RX9) (T := TX9) (N := 44) hx hb hts inlX9 hown hK hP 0 rgL9_97de23c rfl 38 (by decide) (hts (.fieldLink RX9 70 "ClosedUntilModel" "s" "[I") qw_502) (fun _ h9 => h9) rfl dX9_termOf_28 ?_
    refine lv_bipush (v := 44) hx hb dX9_termOf_31 (by decide) ?_
    refine lv_iload_n hx hb dX9_termOf_33 rfl (lv_at hl 3 rfl) ?_
    refine lv_iadd hx hb dX9_termOf_34 ?_
    refine lv_topi (fun x8 e_x8 => ?_)
    try have e_x8 := ti_add e_x8 (show (44 : Int32).toInt = 44 by decide) rfl (by omega)
    refine va_iald hx hb hK hP 8 7 rgL9_852c3b0 rgT8_bb76198 (vinI (by omega) (by omega)) dX9_termOf_35 ?_
    refine lv_topi (fun x9 e_x9 => ?_)
    have q_x9 := congrArg Int32.toInt e_x9
    have b_x9 := i32b x9
    have hm5 := MO.at hmo (c := a1) (by omega) (by omega) (by omega) e_x9
    refine lv_icmp_ge (tgt := 114) hx hb dX9_termOf_36 (by decide) (fun c36_10 => ?_) (fun c36_10 => ?_)
    · have c36_10 : x9.toInt ≤ l25_4.toInt := (cv_le rfl rfl).mp c36_10
      refine lv_aload_n hx hb dX9_termOf_114 rfl (lv_at hl 2 rfl) ?_
      refine va_get (D := (dC, dI)) (ci := 8) (v := .ref a0_38) (C := RX9) (T := TX9) (N := 44) hx hb hts inlX9 hown hK hP 0 rgL9_97de23c rfl 38 (by decide) (hts (.fieldLink RX9 70 "ClosedUntilModel" "s" "[I") qw_502) (fun _ h9 => h9) rfl dX9_termOf_115 ?_
      refine lv_bipush (v := 32) hx hb dX9_termOf_118 (by decide) ?_
      refine lv_iload_n hx hb dX9_termOf_120 rfl (lv_at hl 3 rfl) ?_
      refine lv_iadd hx hb dX9_termOf_121 ?_
      refine lv_topi (fun x11 e_x11 => ?_)
      try have e_x11 := ti_add e_x11 (show (32 : Int32).toInt = 32 by decide) rfl (by omega)
      refine va_iald hx hb hK hP 8 7 rgL9_852c3b0 rgT8_bb76198 (vinI (by omega) (by omega)) dX9_termOf_122 ?_
      refine lv_topi (fun x12 e_x12 => ?_)
      have q_x12 := congrArg Int32.toInt e_x12
      have b_x12 := i32b x12
      refine lv_istore (lv' := [(4, .int x12), (3, .int l25_3), (0, .ref a0), (1, .int a1), (2, .int a2)]) hx hb dX9_termOf_123 hl (by decide) rfl (fun ls hl => ?_)
      refine lv_iload hx hb dX9_termOf_125 (lv_at hl 0 rfl) ?_
      refine lv_if_lt (tgt := 141) hx hb dX9_termOf_127 (by decide) (fun c127_13 => ?_) (fun c127_13 => ?_)
      · have c127_13 : x12.toInt < 0 := (cv_lt rfl (by decide)).mp c127_13
        refine lv_iload_n hx hb dX9_termOf_141 rfl (lv_at hl 1 rfl) ?_
        refine W.widen (k := 0) (n := 0) (Nat.le_of_ble_eq_true rfl) (Nat.le_of_ble_eq_true rfl) ?_
        have hP9 := hP
        have hD9 := hD
        have hK9 := (rgK8_e0dc46b hK)
        exact W.iret (v := l25_3) hx hb hr (fun t ht hW => ⟨⟨l25_3, l25_3, rfl, rfl, f25_0_1, f25_0_2, f25_0_3, atB ht hP9, va_K.moved hW.alike hK9, hD9⟩, hS.F ht⟩) hS.2.2 dX9_termOf_142
      · have c127_13 : ¬ (x12.toInt < 0) := mt (cv_lt rfl (by decide)).mpr c127_13
        refine lv_iload hx hb dX9_termOf_130 (lv_at hl 0 rfl) ?_
        refine lv_iload_n hx hb dX9_termOf_132 rfl (lv_at hl 1 rfl) ?_
        refine lv_icmp_ge (tgt := 141) hx hb dX9_termOf_133 (by decide) (fun c133_14 => ?_) (fun c133_14 => ?_)
        · have c133_14 : l25_3.toInt ≤ x12.toInt := (cv_le rfl rfl).mp c133_14
          refine lv_iload_n hx hb dX9_termOf_141 rfl (lv_at hl 1 rfl) ?_
          refine W.widen (k := 0) (n := 0) (Nat.le_of_ble_eq_true rfl) (Nat.le_of_ble_eq_true rfl) ?_
          have hP9 := hP
          have hD9 := hD
          have hK9 := (rgK8_e0dc46b hK)
          exact W.iret (v := l25_3) hx hb hr (fun t ht hW => ⟨⟨l25_3, l25_3, rfl, rfl, f25_0_1, f25_0_2, f25_0_3, atB ht hP9, va_K.moved hW.alike hK9, hD9⟩, hS.F ht⟩) hS.2.2 dX9_termOf_142
        · have c133_14 : ¬ (l25_3.toInt ≤ x12.toInt) := mt (cv_le rfl rfl).mpr c133_14
          refine lv_iload hx hb dX9_termOf_136 (lv_at hl 0 rfl) ?_
          refine lv_goto (tgt := 142) hx hb dX9_termOf_138 (by decide) ?_
          refine W.widen (k := 0) (n := 0) (Nat.le_of_ble_eq_true rfl) (Nat.le_of_ble_eq_true rfl) ?_
          have hP9 := hP
          have hD9 := hD
          have hK9 := (rgK8_e0dc46b hK)
          exact W.iret (v := x12) hx hb hr (fun t ht hW => ⟨⟨x12, x12, rfl, rfl, f25_0_1, f25_0_2, f25_0_3, atB ht hP9, va_K.moved hW.alike hK9, hD9⟩, hS.F ht⟩) hS.2.2 dX9_termOf_142
    · have c36_10 : ¬ (x9.toInt ≤ l25_4.toInt) := mt (cv_le rfl rfl).mpr c36_10
      refine lv_aload_n hx hb dX9_termOf_39 rfl (lv_at hl 2 rfl) ?_
      refine va_get (D := (dC, dI)) (ci := 8) (v := .ref a0_38) (C := RX9) (T := TX9) (N := 44) hx hb hts inlX9 hown hK hP 0 rgL9_97de23c rfl 38 (by decide) (hts (.fieldLink RX9 70 "ClosedUntilModel" "s" "[I") qw_502) (fun _ h9 => h9) rfl dX9_termOf_40 ?_
      refine lv_bipush (v := 56) hx hb dX9_termOf_43 (by decide) ?_
      refine lv_bipush (v := 10) hx hb dX9_termOf_45 (by decide) ?_
      refine lv_iload_n hx hb dX9_termOf_47 rfl (lv_at hl 3 rfl) ?_
      refine lv_imul hx hb dX9_termOf_48 ?_
      refine lv_topi (fun x15 e_x15 => ?_)
      try have e_x15 := ti_mul e_x15 (show (10 : Int32).toInt = 10 by decide) rfl (by omega)
      refine lv_iadd hx hb dX9_termOf_49 ?_
      refine lv_topi (fun x16 e_x16 => ?_)
      try have e_x16 := ti_add e_x16 (show (56 : Int32).toInt = 56 by decide) rfl (by omega)
      refine lv_iconst (v := 2) hx hb dX9_termOf_50 (by decide) ?_
      refine lv_iload hx hb dX9_termOf_51 (lv_at hl 0 rfl) ?_
      refine lv_imul hx hb dX9_termOf_53 ?_
      refine lv_topi (fun x17 e_x17 => ?_)
      try have e_x17 := ti_mul e_x17 (show (2 : Int32).toInt = 2 by decide) rfl (by omega)
      refine lv_iadd hx hb dX9_termOf_54 ?_
      refine lv_topi (fun x18 e_x18 => ?_)
      try have e_x18 := ti_add e_x18 rfl rfl (by omega)
      refine va_iald hx hb hK hP 8 7 rgL9_852c3b0 rgT8_bb76198 (vinI (by omega) (by omega)) dX9_termOf_55 ?_
      refine lv_topi (fun x19 e_x19 => ?_)
      have q_x19 := congrArg Int32.toInt e_x19
      have b_x19 := i32b x19
      refine lv_istore (lv' := [(5, .int x19), (4, .int l25_4), (3, .int l25_3), (0, .ref a0), (1, .int a1), (2, .int a2)]) hx hb dX9_termOf_56 hl (by decide) rfl (fun ls hl => ?_)
      refine lv_iload_n hx hb dX9_termOf_58 rfl (lv_at hl 2 rfl) ?_
      refine lv_iload hx hb dX9_termOf_59 (lv_at hl 0 rfl) ?_
      refine lv_icmp_gt (tgt := 67) hx hb dX9_termOf_61 (by decide) (fun c61_20 => ?_) (fun c61_20 => ?_)
      · have c61_20 : x19.toInt < l25_3.toInt := (cv_lt rfl rfl).mp c61_20
        refine lv_aload_n hx hb dX9_termOf_67 rfl (lv_at hl 3 rfl) ?_
        refine lv_iload_n hx hb dX9_termOf_68 rfl (lv_at hl 2 rfl) ?_
        refine lv_aload_n hx hb dX9_termOf_69 rfl (lv_at hl 3 rfl) ?_
        refine va_get (D := (dC, dI)) (ci := 8) (v := .ref a0_38) (C := RX9) (T := TX9) (N := 44) hx hb hts inlX9 hown hK hP 0 rgL9_97de23c rfl 38 (by decide) (hts (.fieldLink RX9 70 "ClosedUntilModel" "s" "[I") qw_502) (fun _ h9 => h9) rfl dX9_termOf_70 ?_
        refine lv_bipush (v := 56) hx hb dX9_termOf_73 (by decide) ?_
        refine lv_bipush (v := 10) hx hb dX9_termOf_75 (by decide) ?_
        refine lv_iload_n hx hb dX9_termOf_77 rfl (lv_at hl 4 rfl) ?_
        refine lv_imul hx hb dX9_termOf_78 ?_
        refine lv_topi (fun x21 e_x21 => ?_)
        try have e_x21 := ti_mul e_x21 (show (10 : Int32).toInt = 10 by decide) rfl (by omega)
        refine lv_iadd hx hb dX9_termOf_79 ?_
        refine lv_topi (fun x22 e_x22 => ?_)
        try have e_x22 := ti_add e_x22 (show (56 : Int32).toInt = 56 by decide) rfl (by omega)
        refine lv_iconst (v := 2) hx hb dX9_termOf_80 (by decide) ?_
        refine lv_iload hx hb dX9_termOf_81 (lv_at hl 1 rfl) ?_
        refine lv_imul hx hb dX9_termOf_83 ?_
        refine lv_topi (fun x23 e_x23 => ?_)
        try have e_x23 := ti_mul e_x23 (show (2 : Int32).toInt = 2 by decide) rfl (by omega)
        refine lv_iadd hx hb dX9_termOf_84 ?_
        refine lv_topi (fun x24 e_x24 => ?_)
        try have e_x24 := ti_add e_x24 rfl rfl (by omega)
        refine lv_iconst (v := 1) hx hb dX9_termOf_85 (by decide) ?_
        refine lv_iadd hx hb dX9_termOf_86 ?_
        refine lv_topi (fun x25 e_x25 => ?_)
        try have e_x25 := ti_add e_x25 rfl (show (1 : Int32).toInt = 1 by decide) (by omega)
        refine va_iald hx hb hK hP 8 7 rgL9_852c3b0 rgT8_bb76198 (vinI (by omega) (by omega)) dX9_termOf_87 ?_
        refine lv_topi (fun x26 e_x26 => ?_)
        have q_x26 := congrArg Int32.toInt e_x26
        have b_x26 := i32b x26
        have hPc := (rgP9_cb41b5f hP)
        have hKc := (rgK8_e0dc46b hK)
        have hDc := (rgD9_428f3ed hD)
        have hFc := freeW hDc hS hA
        refine va_calli (va_runV (As := [.int l25_3, .int x26]) (rest := []) ⟨hx, hb, hml, hown, hts⟩ (k_X9_plusYears l dC dI g H.size (a0) (l25_3) (x26) (a0_0) (f25_0_1) (f25_0_2) (f25_0_3) (a0_4) (a0_5) (a0_6) (a0_7) (a0_8) (a0_9) (a0_10) (a0_11) (a0_12) (a0_13) (a0_14) (a0_15) (a0_16) (a0_17) (a0_18) (a0_19) (a0_20) (a0_21) (a0_22) (a0_23) (a0_24) (a0_25) (a0_26) (a0_27) (a0_28) (a0_29) (a0_30) (a0_31) (a0_32) (a0_33) (a0_34) (a0_35) (a0_36) (a0_37) (a0_38) (a0_39) (a0_40) (a0_41) (a0_42) (a0_43) (by omega) (by omega) (by omega) (by omega) (by omega) (by omega) (by omega)) (cwV 2 hts (gwV qw_453 qw_454 qw_455 qw_386 qw_452) rfl rfl rfl (by decide +kernel) ⟨Nat.le_of_ble_eq_true rfl, Nat.le_of_ble_eq_true rfl⟩) ⟨fun a U g9 mk q => ⟨q.1, q.2.1, q.2.2.1, va_K.moved (u := U) (U := U.calling g9 mk a) (Vm.Alike.refl U.vm) q.2.2.2.1, q.2.2.2.2.1, Ev.bl q.2.2.2.2.2⟩, va_recv hK hP (ci := 8) (q0 := 0) rfl rgL9_97de23c, fun U hU hW => ⟨rfl, by rw [hU], atB hU hPc, va_K.moved hW.alike hKc, hDc.weaken (fun _ _ _ _ => trivial), hE.go hS hFc hU hW⟩⟩ rfl rfl hl.1 rfl (lv_room (Nat.le_of_ble_eq_true rfl)) dX9_termOf_88 ⟨Nat.le_of_ble_eq_true rfl, Nat.le_of_ble_eq_true rfl⟩) hS (fun q _ h => hFc q h) hFc (fun r28 u27 t H1 locs ht hvm h_u27 hB hz1 hk1 hS => ?_)
        obtain ⟨za0_1_29, za0_2_30, za0_3_31, hP1, hK1, hD1⟩ := hB
        have hK1 := va_K.moved hvm.symm hK1
        have hJ9 := rgJ9_deacaee hP hD hk1 hFc (atH ht hP1) hD1
        clear hP hD hPc hKc hDc hFc hP1 hD1 hk1 hz1
        obtain ⟨hP, hD⟩ := hJ9
        clear hK1
        generalize H1 = H at hP hS ⊢
        refine W.widen (k := 0) (n := 0) (Nat.le_of_ble_eq_true rfl) (Nat.le_of_ble_eq_true rfl) ?_
        have h_r28 := congrArg Int32.toInt h_u27
        have b_r28 := i32b r28
        refine lv_istore (lv' := [(6, .int r28), (5, .int x19), (4, .int l25_4), (3, .int l25_3), (0, .ref a0), (1, .int a1), (2, .int a2)]) hx hb dX9_termOf_91 hl (by decide) rfl (fun ls hl => ?_)
        refine lv_iload hx hb dX9_termOf_93 (lv_at hl 0 rfl) ?_
        refine lv_iload hx hb dX9_termOf_95 (lv_at hl 1 rfl) ?_
        refine lv_icmp_ge (tgt := 105) hx hb dX9_termOf_97 (by decide) (fun c97_32 => ?_) (fun c97_32 => ?_)
        · have c97_32 : x19.toInt ≤ r28.toInt := (cv_le rfl rfl).mp c97_32
          refine lv_iload hx hb dX9_termOf_105 (lv_at hl 0 rfl) ?_
          refine lv_istore_n (lv' := [(3, .int r28), (6, .int r28), (5, .int x19), (4, .int l25_4), (0, .ref a0), (1, .int a1), (2, .int a2)]) hx hb dX9_termOf_107 rfl hl (by decide) rfl (fun ls hl => ?_)
          obtain ⟨x33, e_x33⟩ : ∃ y : Int32, y = l25_4 + 1 := ⟨_, rfl⟩
          refine lv_iinc (v := x33) (lv' := [(4, .int x33), (3, .int r28), (6, .int r28), (5, .int x19), (0, .ref a0), (1, .int a1), (2, .int a2)]) hx hb dX9_termOf_108 hl (k := 3) rfl (by rw [e_x33]; rfl) (by decide) rfl (fun ls hl => ?_)
          try have e_x33 := ti_add e_x33 rfl (show (1 : Int32).toInt = 1 by decide) (by omega)
          refine lv_goto (tgt := 25) hx hb dX9_termOf_111 (by decide) ?_
          exact ih25 ((2147483647 - x33.toInt).toNat) _ _ _ (by omega) ⟨x33, r28, za0_1_29, za0_2_30, za0_3_31, rfl, (by omega), lv_sub hl [0, 1, 4, 5, 6] rfl, hP, hD, hS⟩
        · have c97_32 : ¬ (x19.toInt ≤ r28.toInt) := mt (cv_le rfl rfl).mpr c97_32
          refine lv_iload hx hb dX9_termOf_100 (lv_at hl 1 rfl) ?_
          refine lv_goto (tgt := 107) hx hb dX9_termOf_102 (by decide) ?_
          refine lv_istore_n (lv' := [(3, .int x19), (6, .int r28), (5, .int x19), (4, .int l25_4), (0, .ref a0), (1, .int a1), (2, .int a2)]) hx hb dX9_termOf_107 rfl hl (by decide) rfl (fun ls hl => ?_)
          obtain ⟨x34, e_x34⟩ : ∃ y : Int32, y = l25_4 + 1 := ⟨_, rfl⟩
          refine lv_iinc (v := x34) (lv' := [(4, .int x34), (3, .int x19), (6, .int r28), (5, .int x19), (0, .ref a0), (1, .int a1), (2, .int a2)]) hx hb dX9_termOf_108 hl (k := 3) rfl (by rw [e_x34]; rfl) (by decide) rfl (fun ls hl => ?_)
          try have e_x34 := ti_add e_x34 rfl (show (1 : Int32).toInt = 1 by decide) (by omega)
          refine lv_goto (tgt := 25) hx hb dX9_termOf_111 (by decide) ?_
          exact ih25 ((2147483647 - x34.toInt).toNat) _ _ _ (by omega) ⟨x34, x19, za0_1_29, za0_2_30, za0_3_31, rfl, (by omega), lv_sub hl [0, 1, 4, 5, 6] rfl, hP, hD, hS⟩
      · have c61_20 : ¬ (x19.toInt < l25_3.toInt) := mt (cv_lt rfl rfl).mpr c61_20
        refine lv_goto (tgt := 108) hx hb dX9_termOf_64 (by decide) ?_
        obtain ⟨x35, e_x35⟩ : ∃ y : Int32, y = l25_4 + 1 := ⟨_, rfl⟩
        refine lv_iinc (v := x35) (lv' := [(4, .int x35), (5, .int x19), (3, .int l25_3), (0, .ref a0), (1, .int a1), (2, .int a2)]) hx hb dX9_termOf_108 hl (k := 1) rfl (by rw [e_x35]; rfl) (by decide) rfl (fun ls hl => ?_)
        try have e_x35 := ti_add e_x35 rfl (show (1 : Int32).toInt = 1 by decide) (by omega)
        refine lv_goto (tgt := 25) hx hb dX9_termOf_111 (by decide) ?_
        exact ih25 ((2147483647 - x35.toInt).toNat) _ _ _ (by omega) ⟨x35, l25_3, f25_0_1, f25_0_2, f25_0_3, rfl, (by omega), lv_sub hl [0, 2, 3, 4, 5] rfl, hP, hD, hS⟩
  · have c13_7 : ¬ (x6.toInt = 0) := mt (cv_eq rfl (by decide)).mpr c13_7
    refine lv_aload_n hx hb dX9_termOf_16 rfl (lv_at hl 1 rfl) ?_
    refine lv_iload_n hx hb dX9_termOf_17 rfl (lv_at hl 0 rfl) ?_
    have hPc := (rgP9_cb41b5f hP)
    have hKc := (rgK8_e0dc46b hK)
    have hDc := (rgD9_428f3ed hD)
    have hFc := freeW hDc hS hA
    refine va_calli (va_runV (As := [.int r2]) (rest := []) ⟨hx, hb, hml, hown, hts⟩ (k_X9_yearBehind l dC dI g H.size (a0) (r2) (a0_0) (za0_1_3) (za0_2_4) (za0_3_5) (a0_4) (a0_5) (a0_6) (a0_7) (a0_8) (a0_9) (a0_10) (a0_11) (a0_12) (a0_13) (a0_14) (a0_15) (a0_16) (a0_17) (a0_18) (a0_19) (a0_20) (a0_21) (a0_22) (a0_23) (a0_24) (a0_25) (a0_26) (a0_27) (a0_28) (a0_29) (a0_30) (a0_31) (a0_32) (a0_33) (a0_34) (a0_35) (a0_36) (a0_37) (a0_38) (a0_39) (a0_40) (a0_41) (a0_42) (a0_43) (by omega) (by omega) (by omega) (by omega) (by omega) (by omega) (by omega)) (cwV 1 hts (gwV qw_524 qw_525 qw_526 qw_386 qw_523) rfl rfl rfl (by decide +kernel) ⟨Nat.le_of_ble_eq_true rfl, Nat.le_of_ble_eq_true rfl⟩) ⟨fun a U g9 mk q => ⟨q.1, q.2.1, q.2.2.1, va_K.moved (u := U) (U := U.calling g9 mk a) (Vm.Alike.refl U.vm) q.2.2.2.1, q.2.2.2.2.1, Ev.bl q.2.2.2.2.2⟩, va_recv hK hP (ci := 8) (q0 := 0) rfl rgL9_97de23c, fun U hU hW => ⟨rfl, by rw [hU], atB hU hPc, va_K.moved hW.alike hKc, hDc.weaken (fun _ _ _ _ => trivial), hE.go hS hFc hU hW⟩⟩ rfl rfl hl.1 rfl (lv_room (Nat.le_of_ble_eq_true rfl)) dX9_termOf_18 ⟨Nat.le_of_ble_eq_true rfl, Nat.le_of_ble_eq_true rfl⟩) hS (fun q _ h => hFc q h) hFc (fun r37 u36 t H1 locs ht hvm h_u36 hB hz1 hk1 hS => ?_)
    obtain ⟨za0_1_38, za0_2_39, za0_3_40, hP1, hK1, hD1⟩ := hB
    have hK1 := va_K.moved hvm.symm hK1
    have hJ9 := rgJ9_deacaee hP hD hk1 hFc (atH ht hP1) hD1
    clear hP hD hPc hKc hDc hFc hP1 hD1 hk1 hz1
    obtain ⟨hP, hD⟩ := hJ9
    clear hK1
    generalize H1 = H at hP hS ⊢
    refine W.widen (k := 0) (n := 0) (Nat.le_of_ble_eq_true rfl) (Nat.le_of_ble_eq_true rfl) ?_
    have h_r37 := congrArg Int32.toInt h_u36
    have b_r37 := i32b r37
    refine lv_istore_n (lv' := [(3, .int r37), (0, .ref a0), (1, .int a1), (2, .int a2)]) hx hb dX9_termOf_21 rfl hl (by decide) rfl (fun ls hl => ?_)
    refine lv_iconst (v := 0) hx hb dX9_termOf_22 (by decide) ?_
    refine lv_istore (lv' := [(4, .int 0), (3, .int r37), (0, .ref a0), (1, .int a1), (2, .int a2)]) hx hb dX9_termOf_23 hl (by decide) rfl (fun ls hl => ?_)
    have qc0 : (0 : Int32).toInt = 0 := by decide
    refine wloop (fun n H locs ls => ∃ (l25_4 : Int32) (l25_3 : Int32) (f25_0_1 : Int32) (f25_0_2 : Int32) (f25_0_3 : Int32), n = (2147483647 - l25_4.toInt).toNat ∧ (0 ≤ l25_4.toInt) ∧ lv_has ls 7 [(4, .int l25_4), (3, .int l25_3), (0, .ref a0), (1, .int a1), (2, .int a2)] ∧ va_P (dC, dI) vwCl [(a0, .inr (8, [.int a0_0, .int f25_0_1, .int f25_0_2, .int f25_0_3, .ref a0_4, .int a0_5, .int a0_6, .int a0_7, .int a0_8, .int a0_9, .int a0_10, .long a0_11, .int a0_12, .int a0_13, .int a0_14, .int a0_15, .int a0_16, .int a0_17, .ref a0_18, .ref a0_19, .ref a0_20, .ref a0_21, .ref a0_22, .ref a0_23, .ref a0_24, .ref a0_25, .ref a0_26, .ref a0_27, .ref a0_28, .ref a0_29, .ref a0_30, .ref a0_31, .ref a0_32, .ref a0_33, .ref a0_34, .ref a0_35, .long a0_36, .int a0_37, .ref a0_38, .ref a0_39, .int a0_40, .ref a0_41, .ref a0_42, .ref a0_43])), (a0_23, .inl (a0_23_c, 16, .inl a0_23_f)), (a0_26, .inl (a0_26_c, 8, .inl a0_26_f)), (a0_29, .inl (a0_29_c, 48, .inl a0_29_f)), (a0_32, .inl (a0_32_c, 24, .inl a0_32_f)), (a0_33, .inl (a0_33_c, 24, .inl a0_33_f)), (a0_34, .inl (a0_34_c, 72, .inl a0_34_f)), (a0_35, .inl (a0_35_c, 24, .inl a0_35_f)), (a0_38, .inl (a0_38_c, 176, .inl a0_38_f))] H ∧ va_D A [(a0, .inr (8, [.int a0_0, .int f25_0_1, .int f25_0_2, .int f25_0_3, .ref a0_4, .int a0_5, .int a0_6, .int a0_7, .int a0_8, .int a0_9, .int a0_10, .long a0_11, .int a0_12, .int a0_13, .int a0_14, .int a0_15, .int a0_16, .int a0_17, .ref a0_18, .ref a0_19, .ref a0_20, .ref a0_21, .ref a0_22, .ref a0_23, .ref a0_24, .ref a0_25, .ref a0_26, .ref a0_27, .ref a0_28, .ref a0_29, .ref a0_30, .ref a0_31, .ref a0_32, .ref a0_33, .ref a0_34, .ref a0_35, .long a0_36, .int a0_37, .ref a0_38, .ref a0_39, .int a0_40, .ref a0_41, .ref a0_42, .ref a0_43])), (a0_23, .inl (a0_23_c, 16, .inl a0_23_f)), (a0_26, .inl (a0_26_c, 8, .inl a0_26_f)), (a0_29, .inl (a0_29_c, 48, .inl a0_29_f)), (a0_32, .inl (a0_32_c, 24, .inl a0_32_f)), (a0_33, .inl (a0_33_c, 24, .inl a0_33_f)), (a0_34, .inl (a0_34_c, 72, .inl a0_34_f)), (a0_35, .inl (a0_35_c, 24, .inl a0_35_f)), (a0_38, .inl (a0_38_c, 176, .inl a0_38_f))] ∧ va_S A s.heap H locs) ?_ ((2147483647 - (0 : Int32).toInt).toNat) _ _ _ ⟨0, r37, za0_1_38, za0_2_39, za0_3_40, rfl, (by omega), lv_sub hl [0, 1, 2, 3, 4] rfl, hP, hD, hS⟩
    intro n25 H locs ls hI ih25
    obtain ⟨l25_4, l25_3, f25_0_1, f25_0_2, f25_0_3, hn25, g_l25_4, hl, hP, hD, hS⟩ := hI
    have b_l25_4 := i32b l25_4
    have b_l25_3 := i32b l25_3
    have b_f25_0_1 := i32b f25_0_1
    have b_f25_0_2 := i32b f25_0_2
    have b_f25_0_3 := i32b f25_0_3
    refine lv_iload hx hb dX9_termOf_25 (lv_at hl 0 rfl) ?_
    refine lv_aload_n hx hb dX9_termOf_27 rfl (lv_at hl 2 rfl) ?_
    refine va_get (D := (dC, dI)) (ci := 8) (v := .ref a0_38) (C := RX9) (T := TX9) (N := 44) hx hb hts inlX9 hown hK hP 0 rgL9_97de23c rfl 38 (by decide) (hts (.fieldLink RX9 70 "ClosedUntilModel" "s" "[I") qw_502) (fun _ h9 => h9) rfl dX9_termOf_28 ?_
    refine lv_bipush (v := 44) hx hb dX9_termOf_31 (by decide) ?_
    refine lv_iload_n hx hb dX9_termOf_33 rfl (lv_at hl 3 rfl) ?_
    refine lv_iadd hx hb dX9_termOf_34 ?_
    refine lv_topi (fun x41 e_x41 => ?_)
    try have e_x41 := ti_add e_x41 (show (44 : Int32).toInt = 44 by decide) rfl (by omega)
    refine va_iald hx hb hK hP 8 7 rgL9_852c3b0 rgT8_bb76198 (vinI (by omega) (by omega)) dX9_termOf_35 ?_
    refine lv_topi (fun x42 e_x42 => ?_)
    have q_x42 := congrArg Int32.toInt e_x42
    have b_x42 := i32b x42
    have hm5 := MO.at hmo (c := a1) (by omega) (by omega) (by omega) e_x42
    refine lv_icmp_ge (tgt := 114) hx hb dX9_termOf_36 (by decide) (fun c36_43 => ?_) (fun c36_43 => ?_)
    · have c36_43 : x42.toInt ≤ l25_4.toInt := (cv_le rfl rfl).mp c36_43
      refine lv_aload_n hx hb dX9_termOf_114 rfl (lv_at hl 2 rfl) ?_
      refine va_get (D := (dC, dI)) (ci := 8) (v := .ref a0_38) (C := RX9) (T := TX9) (N := 44) hx hb hts inlX9 hown hK hP 0 rgL9_97de23c rfl 38 (by decide) (hts (.fieldLink RX9 70 "ClosedUntilModel" "s" "[I") qw_502) (fun _ h9 => h9) rfl dX9_termOf_115 ?_
      refine lv_bipush (v := 32) hx hb dX9_termOf_118 (by decide) ?_
      refine lv_iload_n hx hb dX9_termOf_120 rfl (lv_at hl 3 rfl) ?_
      refine lv_iadd hx hb dX9_termOf_121 ?_
      refine lv_topi (fun x44 e_x44 => ?_)
      try have e_x44 := ti_add e_x44 (show (32 : Int32).toInt = 32 by decide) rfl (by omega)
      refine va_iald hx hb hK hP 8 7 rgL9_852c3b0 rgT8_bb76198 (vinI (by omega) (by omega)) dX9_termOf_122 ?_
      refine lv_topi (fun x45 e_x45 => ?_)
      have q_x45 := congrArg Int32.toInt e_x45
      have b_x45 := i32b x45
      refine lv_istore (lv' := [(4, .int x45), (3, .int l25_3), (0, .ref a0), (1, .int a1), (2, .int a2)]) hx hb dX9_termOf_123 hl (by decide) rfl (fun ls hl => ?_)
      refine lv_iload hx hb dX9_termOf_125 (lv_at hl 0 rfl) ?_
      refine lv_if_lt (tgt := 141) hx hb dX9_termOf_127 (by decide) (fun c127_46 => ?_) (fun c127_46 => ?_)
      · have c127_46 : x45.toInt < 0 := (cv_lt rfl (by decide)).mp c127_46
        refine lv_iload_n hx hb dX9_termOf_141 rfl (lv_at hl 1 rfl) ?_
        refine W.widen (k := 0) (n := 0) (Nat.le_of_ble_eq_true rfl) (Nat.le_of_ble_eq_true rfl) ?_
        have hP9 := hP
        have hD9 := hD
        have hK9 := (rgK8_e0dc46b hK)
        exact W.iret (v := l25_3) hx hb hr (fun t ht hW => ⟨⟨l25_3, l25_3, rfl, rfl, f25_0_1, f25_0_2, f25_0_3, atB ht hP9, va_K.moved hW.alike hK9, hD9⟩, hS.F ht⟩) hS.2.2 dX9_termOf_142
      · have c127_46 : ¬ (x45.toInt < 0) := mt (cv_lt rfl (by decide)).mpr c127_46
        refine lv_iload hx hb dX9_termOf_130 (lv_at hl 0 rfl) ?_
        refine lv_iload_n hx hb dX9_termOf_132 rfl (lv_at hl 1 rfl) ?_
        refine lv_icmp_ge (tgt := 141) hx hb dX9_termOf_133 (by decide) (fun c133_47 => ?_) (fun c133_47 => ?_)
        · have c133_47 : l25_3.toInt ≤ x45.toInt := (cv_le rfl rfl).mp c133_47
          refine lv_iload_n hx hb dX9_termOf_141 rfl (lv_at hl 1 rfl) ?_
          refine W.widen (k := 0) (n := 0) (Nat.le_of_ble_eq_true rfl) (Nat.le_of_ble_eq_true rfl) ?_
          have hP9 := hP
          have hD9 := hD
          have hK9 := (rgK8_e0dc46b hK)
          exact W.iret (v := l25_3) hx hb hr (fun t ht hW => ⟨⟨l25_3, l25_3, rfl, rfl, f25_0_1, f25_0_2, f25_0_3, atB ht hP9, va_K.moved hW.alike hK9, hD9⟩, hS.F ht⟩) hS.2.2 dX9_termOf_142
        · have c133_47 : ¬ (l25_3.toInt ≤ x45.toInt) := mt (cv_le rfl rfl).mpr c133_47
          refine lv_iload hx hb dX9_termOf_136 (lv_at hl 0 rfl) ?_
          refine lv_goto (tgt := 142) hx hb dX9_termOf_138 (by decide) ?_
          refine W.widen (k := 0) (n := 0) (Nat.le_of_ble_eq_true rfl) (Nat.le_of_ble_eq_true rfl) ?_
          have hP9 := hP
          have hD9 := hD
          have hK9 := (rgK8_e0dc46b hK)
          exact W.iret (v := x45) hx hb hr (fun t ht hW => ⟨⟨x45, x45, rfl, rfl, f25_0_1, f25_0_2, f25_0_3, atB ht hP9, va_K.moved hW.alike hK9, hD9⟩, hS.F ht⟩) hS.2.2 dX9_termOf_142
    · have c36_43 : ¬ (x42.toInt ≤ l25_4.toInt) := mt (cv_le rfl rfl).mpr c36_43
      refine lv_aload_n hx hb dX9_termOf_39 rfl (lv_at hl 2 rfl) ?_
      refine va_get (D := (dC, dI)) (ci := 8) (v := .ref a0_38) (C := RX9) (T := TX9) (N := 44) hx hb hts inlX9 hown hK hP 0 rgL9_97de23c rfl 38 (by decide) (hts (.fieldLink RX9 70 "ClosedUntilModel" "s" "[I") qw_502) (fun _ h9 => h9) rfl dX9_termOf_40 ?_
      refine lv_bipush (v := 56) hx hb dX9_termOf_43 (by decide) ?_
      refine lv_bipush (v := 10) hx hb dX9_termOf_45 (by decide) ?_
      refine lv_iload_n hx hb dX9_termOf_47 rfl (lv_at hl 3 rfl) ?_
      refine lv_imul hx hb dX9_termOf_48 ?_
      refine lv_topi (fun x48 e_x48 => ?_)
      try have e_x48 := ti_mul e_x48 (show (10 : Int32).toInt = 10 by decide) rfl (by omega)
      refine lv_iadd hx hb dX9_termOf_49 ?_
      refine lv_topi (fun x49 e_x49 => ?_)
      try have e_x49 := ti_add e_x49 (show (56 : Int32).toInt = 56 by decide) rfl (by omega)
      refine lv_iconst (v := 2) hx hb dX9_termOf_50 (by decide) ?_
      refine lv_iload hx hb dX9_termOf_51 (lv_at hl 0 rfl) ?_
      refine lv_imul hx hb dX9_termOf_53 ?_
      refine lv_topi (fun x50 e_x50 => ?_)
      try have e_x50 := ti_mul e_x50 (show (2 : Int32).toInt = 2 by decide) rfl (by omega)
      refine lv_iadd hx hb dX9_termOf_54 ?_
      refine lv_topi (fun x51 e_x51 => ?_)
      try have e_x51 := ti_add e_x51 rfl rfl (by omega)
      refine va_iald hx hb hK hP 8 7 rgL9_852c3b0 rgT8_bb76198 (vinI (by omega) (by omega)) dX9_termOf_55 ?_
      refine lv_topi (fun x52 e_x52 => ?_)
      have q_x52 := congrArg Int32.toInt e_x52
      have b_x52 := i32b x52
      refine lv_istore (lv' := [(5, .int x52), (4, .int l25_4), (3, .int l25_3), (0, .ref a0), (1, .int a1), (2, .int a2)]) hx hb dX9_termOf_56 hl (by decide) rfl (fun ls hl => ?_)
      refine lv_iload_n hx hb dX9_termOf_58 rfl (lv_at hl 2 rfl) ?_
      refine lv_iload hx hb dX9_termOf_59 (lv_at hl 0 rfl) ?_
      refine lv_icmp_gt (tgt := 67) hx hb dX9_termOf_61 (by decide) (fun c61_53 => ?_) (fun c61_53 => ?_)
      · have c61_53 : x52.toInt < l25_3.toInt := (cv_lt rfl rfl).mp c61_53
        refine lv_aload_n hx hb dX9_termOf_67 rfl (lv_at hl 3 rfl) ?_
        refine lv_iload_n hx hb dX9_termOf_68 rfl (lv_at hl 2 rfl) ?_
        refine lv_aload_n hx hb dX9_termOf_69 rfl (lv_at hl 3 rfl) ?_
        refine va_get (D := (dC, dI)) (ci := 8) (v := .ref a0_38) (C := RX9) (T := TX9) (N := 44) hx hb hts inlX9 hown hK hP 0 rgL9_97de23c rfl 38 (by decide) (hts (.fieldLink RX9 70 "ClosedUntilModel" "s" "[I") qw_502) (fun _ h9 => h9) rfl dX9_termOf_70 ?_
        refine lv_bipush (v := 56) hx hb dX9_termOf_73 (by decide) ?_
        refine lv_bipush (v := 10) hx hb dX9_termOf_75 (by decide) ?_
        refine lv_iload_n hx hb dX9_termOf_77 rfl (lv_at hl 4 rfl) ?_
        refine lv_imul hx hb dX9_termOf_78 ?_
        refine lv_topi (fun x54 e_x54 => ?_)
        try have e_x54 := ti_mul e_x54 (show (10 : Int32).toInt = 10 by decide) rfl (by omega)
        refine lv_iadd hx hb dX9_termOf_79 ?_
        refine lv_topi (fun x55 e_x55 => ?_)
        try have e_x55 := ti_add e_x55 (show (56 : Int32).toInt = 56 by decide) rfl (by omega)
        refine lv_iconst (v := 2) hx hb dX9_termOf_80 (by decide) ?_
        refine lv_iload hx hb dX9_termOf_81 (lv_at hl 1 rfl) ?_
        refine lv_imul hx hb dX9_termOf_83 ?_
        refine lv_topi (fun x56 e_x56 => ?_)
        try have e_x56 := ti_mul e_x56 (show (2 : Int32).toInt = 2 by decide) rfl (by omega)
        refine lv_iadd hx hb dX9_termOf_84 ?_
        refine lv_topi (fun x57 e_x57 => ?_)
        try have e_x57 := ti_add e_x57 rfl rfl (by omega)
        refine lv_iconst (v := 1) hx hb dX9_termOf_85 (by decide) ?_
        refine lv_iadd hx hb dX9_termOf_86 ?_
        refine lv_topi (fun x58 e_x58 => ?_)
        try have e_x58 := ti_add e_x58 rfl (show (1 : Int32).toInt = 1 by decide) (by omega)
        refine va_iald hx hb hK hP 8 7 rgL9_852c3b0 rgT8_bb76198 (vinI (by omega) (by omega)) dX9_termOf_87 ?_
        refine lv_topi (fun x59 e_x59 => ?_)
        have q_x59 := congrArg Int32.toInt e_x59
        have b_x59 := i32b x59
        have hPc := (rgP9_cb41b5f hP)
        have hKc := (rgK8_e0dc46b hK)
        have hDc := (rgD9_428f3ed hD)
        have hFc := freeW hDc hS hA
        refine va_calli (va_runV (As := [.int l25_3, .int x59]) (rest := []) ⟨hx, hb, hml, hown, hts⟩ (k_X9_plusYears l dC dI g H.size (a0) (l25_3) (x59) (a0_0) (f25_0_1) (f25_0_2) (f25_0_3) (a0_4) (a0_5) (a0_6) (a0_7) (a0_8) (a0_9) (a0_10) (a0_11) (a0_12) (a0_13) (a0_14) (a0_15) (a0_16) (a0_17) (a0_18) (a0_19) (a0_20) (a0_21) (a0_22) (a0_23) (a0_24) (a0_25) (a0_26) (a0_27) (a0_28) (a0_29) (a0_30) (a0_31) (a0_32) (a0_33) (a0_34) (a0_35) (a0_36) (a0_37) (a0_38) (a0_39) (a0_40) (a0_41) (a0_42) (a0_43) (by omega) (by omega) (by omega) (by omega) (by omega) (by omega) (by omega)) (cwV 2 hts (gwV qw_453 qw_454 qw_455 qw_386 qw_452) rfl rfl rfl (by decide +kernel) ⟨Nat.le_of_ble_eq_true rfl, Nat.le_of_ble_eq_true rfl⟩) ⟨fun a U g9 mk q => ⟨q.1, q.2.1, q.2.2.1, va_K.moved (u := U) (U := U.calling g9 mk a) (Vm.Alike.refl U.vm) q.2.2.2.1, q.2.2.2.2.1, Ev.bl q.2.2.2.2.2⟩, va_recv hK hP (ci := 8) (q0 := 0) rfl rgL9_97de23c, fun U hU hW => ⟨rfl, by rw [hU], atB hU hPc, va_K.moved hW.alike hKc, hDc.weaken (fun _ _ _ _ => trivial), hE.go hS hFc hU hW⟩⟩ rfl rfl hl.1 rfl (lv_room (Nat.le_of_ble_eq_true rfl)) dX9_termOf_88 ⟨Nat.le_of_ble_eq_true rfl, Nat.le_of_ble_eq_true rfl⟩) hS (fun q _ h => hFc q h) hFc (fun r61 u60 t H1 locs ht hvm h_u60 hB hz1 hk1 hS => ?_)
        obtain ⟨za0_1_62, za0_2_63, za0_3_64, hP1, hK1, hD1⟩ := hB
        have hK1 := va_K.moved hvm.symm hK1
        have hJ9 := rgJ9_deacaee hP hD hk1 hFc (atH ht hP1) hD1
        clear hP hD hPc hKc hDc hFc hP1 hD1 hk1 hz1
        obtain ⟨hP, hD⟩ := hJ9
        clear hK1
        generalize H1 = H at hP hS ⊢
        refine W.widen (k := 0) (n := 0) (Nat.le_of_ble_eq_true rfl) (Nat.le_of_ble_eq_true rfl) ?_
        have h_r61 := congrArg Int32.toInt h_u60
        have b_r61 := i32b r61
        refine lv_istore (lv' := [(6, .int r61), (5, .int x52), (4, .int l25_4), (3, .int l25_3), (0, .ref a0), (1, .int a1), (2, .int a2)]) hx hb dX9_termOf_91 hl (by decide) rfl (fun ls hl => ?_)
        refine lv_iload hx hb dX9_termOf_93 (lv_at hl 0 rfl) ?_
        refine lv_iload hx hb dX9_termOf_95 (lv_at hl 1 rfl) ?_
        refine lv_icmp_ge (tgt := 105) hx hb dX9_termOf_97 (by decide) (fun c97_65 => ?_) (fun c97_65 => ?_)
        · have c97_65 : x52.toInt ≤ r61.toInt := (cv_le rfl rfl).mp c97_65
          refine lv_iload hx hb dX9_termOf_105 (lv_at hl 0 rfl) ?_
          refine lv_istore_n (lv' := [(3, .int r61), (6, .int r61), (5, .int x52), (4, .int l25_4), (0, .ref a0), (1, .int a1), (2, .int a2)]) hx hb dX9_termOf_107 rfl hl (by decide) rfl (fun ls hl => ?_)
          obtain ⟨x66, e_x66⟩ : ∃ y : Int32, y = l25_4 + 1 := ⟨_, rfl⟩
          refine lv_iinc (v := x66) (lv' := [(4, .int x66), (3, .int r61), (6, .int r61), (5, .int x52), (0, .ref a0), (1, .int a1), (2, .int a2)]) hx hb dX9_termOf_108 hl (k := 3) rfl (by rw [e_x66]; rfl) (by decide) rfl (fun ls hl => ?_)
          try have e_x66 := ti_add e_x66 rfl (show (1 : Int32).toInt = 1 by decide) (by omega)
          refine lv_goto (tgt := 25) hx hb dX9_termOf_111 (by decide) ?_
          exact ih25 ((2147483647 - x66.toInt).toNat) _ _ _ (by omega) ⟨x66, r61, za0_1_62, za0_2_63, za0_3_64, rfl, (by omega), lv_sub hl [0, 1, 4, 5, 6] rfl, hP, hD, hS⟩
        · have c97_65 : ¬ (x52.toInt ≤ r61.toInt) := mt (cv_le rfl rfl).mpr c97_65
          refine lv_iload hx hb dX9_termOf_100 (lv_at hl 1 rfl) ?_
          refine lv_goto (tgt := 107) hx hb dX9_termOf_102 (by decide) ?_
          refine lv_istore_n (lv' := [(3, .int x52), (6, .int r61), (5, .int x52), (4, .int l25_4), (0, .ref a0), (1, .int a1), (2, .int a2)]) hx hb dX9_termOf_107 rfl hl (by decide) rfl (fun ls hl => ?_)
          obtain ⟨x67, e_x67⟩ : ∃ y : Int32, y = l25_4 + 1 := ⟨_, rfl⟩
          refine lv_iinc (v := x67) (lv' := [(4, .int x67), (3, .int x52), (6, .int r61), (5, .int x52), (0, .ref a0), (1, .int a1), (2, .int a2)]) hx hb dX9_termOf_108 hl (k := 3) rfl (by rw [e_x67]; rfl) (by decide) rfl (fun ls hl => ?_)
          try have e_x67 := ti_add e_x67 rfl (show (1 : Int32).toInt = 1 by decide) (by omega)
          refine lv_goto (tgt := 25) hx hb dX9_termOf_111 (by decide) ?_
          exact ih25 ((2147483647 - x67.toInt).toNat) _ _ _ (by omega) ⟨x67, x52, za0_1_62, za0_2_63, za0_3_64, rfl, (by omega), lv_sub hl [0, 1, 4, 5, 6] rfl, hP, hD, hS⟩
      · have c61_53 : ¬ (x52.toInt < l25_3.toInt) := mt (cv_lt rfl rfl).mpr c61_53
        refine lv_goto (tgt := 108) hx hb dX9_termOf_64 (by decide) ?_
        obtain ⟨x68, e_x68⟩ : ∃ y : Int32, y = l25_4 + 1 := ⟨_, rfl⟩
        refine lv_iinc (v := x68) (lv' := [(4, .int x68), (5, .int x52), (3, .int l25_3), (0, .ref a0), (1, .int a1), (2, .int a2)]) hx hb dX9_termOf_108 hl (k := 1) rfl (by rw [e_x68]; rfl) (by decide) rfl (fun ls hl => ?_)
        try have e_x68 := ti_add e_x68 rfl (show (1 : Int32).toInt = 1 by decide) (by omega)
        refine lv_goto (tgt := 25) hx hb dX9_termOf_111 (by decide) ?_
        exact ih25 ((2147483647 - x68.toInt).toNat) _ _ _ (by omega) ⟨x68, l25_3, f25_0_1, f25_0_2, f25_0_3, rfl, (by omega), lv_sub hl [0, 2, 3, 4, 5] rfl, hP, hD, hS⟩
set_option maxHeartbeats 4000000 in
set_option maxRecDepth 100000 in
theorem k_X9_endsOf (l : Launch) (dC : Nat → ClassId) (dI : Nat → Nat → Nat) (g : Gv) (sz : Nat) (a0 : Nat) (a1 : Int32) (a2 : Int32) (a0_0 : Int32) (a0_1 : Int32) (a0_2 : Int32) (a0_3 : Int32) (a0_4 : Nat) (a0_5 : Int32) (a0_6 : Int32) (a0_7 : Int32) (a0_8 : Int32) (a0_9 : Int32) (a0_10 : Int32) (a0_11 : Int64) (a0_12 : Int32) (a0_13 : Int32) (a0_14 : Int32) (a0_15 : Int32) (a0_16 : Int32) (a0_17 : Int32) (a0_18 : Nat) (a0_19 : Nat) (a0_20 : Nat) (a0_21 : Nat) (a0_22 : Nat) (a0_23 : Nat) (a0_24 : Nat) (a0_25 : Nat) (a0_26 : Nat) (a0_27 : Nat) (a0_28 : Nat) (a0_29 : Nat) (a0_30 : Nat) (a0_31 : Nat) (a0_32 : Nat) (a0_33 : Nat) (a0_34 : Nat) (a0_35 : Nat) (a0_36 : Int64) (a0_37 : Int32) (a0_38 : Nat) (a0_39 : Nat) (a0_40 : Int32) (a0_41 : Nat) (a0_42 : Nat) (a0_43 : Nat) (a0_23_c : ClassId) (a0_23_f : Nat → Int32) (a0_26_c : ClassId) (a0_26_f : Nat → Int32) (a0_29_c : ClassId) (a0_29_f : Nat → Int32) (a0_30_c : ClassId) (a0_30_f : Nat → Int32) (a0_31_c : ClassId) (a0_31_f : Nat → Int32) (a0_32_c : ClassId) (a0_32_f : Nat → Int32) (a0_33_c : ClassId) (a0_33_f : Nat → Int32) (a0_34_c : ClassId) (a0_34_f : Nat → Int32) (a0_35_c : ClassId) (a0_35_f : Nat → Int32) (a0_38_c : ClassId) (a0_38_f : Nat → Int32) (nn : Int) (cn : Int) (h_a0_5 : 0 ≤ a0_5.toInt ∧ a0_5.toInt ≤ 1000) (h_a0_6 : 0 ≤ a0_6.toInt ∧ a0_6.toInt ≤ 1000) (h_a0_7 : 0 ≤ a0_7.toInt ∧ a0_7.toInt ≤ 1000) (h_a0_8 : 0 ≤ a0_8.toInt ∧ a0_8.toInt ≤ 1000) (h_a0_17 : 0 ≤ a0_17.toInt ∧ a0_17.toInt ≤ 1) (h_a0_37 : (-1) ≤ a0_37.toInt ∧ a0_37.toInt ≤ 23) (h_a0_40 : 0 ≤ a0_40.toInt ∧ a0_40.toInt ≤ 12) (hnn : nn ≤ 24) (hms : RowOk nn a0_38_f 0) (hcn : cn ≤ 12) (hmw : WOk a0_32_f a0_33_f 0 cn) (hcr : 0 ≤ a1.toInt ∧ a1.toInt < cn) (hpc : 0 ≤ a2.toInt ∧ a2.toInt < nn) : Met l yX9_endsOf (.code yX9_endsOf cX9_endsOf 6 (some .int) :: TBL) ({ frames := 6, cells := 0, slots := 0, locals := 139 }) (va_Pc [.ref a0, .int a1, .int a2] (fun U => U.heap.size = sz ∧ va_P (dC, dI) vwCl [(a0, .inr (8, [.int a0_0, .int a0_1, .int a0_2, .int a0_3, .ref a0_4, .int a0_5, .int a0_6, .int a0_7, .int a0_8, .int a0_9, .int a0_10, .long a0_11, .int a0_12, .int a0_13, .int a0_14, .int a0_15, .int a0_16, .int a0_17, .ref a0_18, .ref a0_19, .ref a0_20, .ref a0_21, .ref a0_22, .ref a0_23, .ref a0_24, .ref a0_25, .ref a0_26, .ref a0_27, .ref a0_28, .ref a0_29, .ref a0_30, .ref a0_31, .ref a0_32, .ref a0_33, .ref a0_34, .ref a0_35, .long a0_36, .int a0_37, .ref a0_38, .ref a0_39, .int a0_40, .ref a0_41, .ref a0_42, .ref a0_43])), (a0_23, .inl (a0_23_c, 16, .inl a0_23_f)), (a0_26, .inl (a0_26_c, 8, .inl a0_26_f)), (a0_29, .inl (a0_29_c, 48, .inl a0_29_f)), (a0_30, .inl (a0_30_c, 48, .inl a0_30_f)), (a0_31, .inl (a0_31_c, 48, .inl a0_31_f)), (a0_32, .inl (a0_32_c, 24, .inl a0_32_f)), (a0_33, .inl (a0_33_c, 24, .inl a0_33_f)), (a0_34, .inl (a0_34_c, 72, .inl a0_34_f)), (a0_35, .inl (a0_35_c, 24, .inl a0_35_f)), (a0_38, .inl (a0_38_c, 176, .inl a0_38_f))] U.heap ∧ va_K (dC, dI) vwCl [(a0_23_c, .int), (a0_26_c, .int), (a0_29_c, .int), (a0_30_c, .int), (a0_31_c, .int), (a0_32_c, .int), (a0_33_c, .int), (a0_34_c, .int), (a0_35_c, .boolean), (a0_38_c, .int)] U ∧ va_D (fun _ => True) [(a0, .inr (8, [.int a0_0, .int a0_1, .int a0_2, .int a0_3, .ref a0_4, .int a0_5, .int a0_6, .int a0_7, .int a0_8, .int a0_9, .int a0_10, .long a0_11, .int a0_12, .int a0_13, .int a0_14, .int a0_15, .int a0_16, .int a0_17, .ref a0_18, .ref a0_19, .ref a0_20, .ref a0_21, .ref a0_22, .ref a0_23, .ref a0_24, .ref a0_25, .ref a0_26, .ref a0_27, .ref a0_28, .ref a0_29, .ref a0_30, .ref a0_31, .ref a0_32, .ref a0_33, .ref a0_34, .ref a0_35, .long a0_36, .int a0_37, .ref a0_38, .ref a0_39, .int a0_40, .ref a0_41, .ref a0_42, .ref a0_43])), (a0_23, .inl (a0_23_c, 16, .inl a0_23_f)), (a0_26, .inl (a0_26_c, 8, .inl a0_26_f)), (a0_29, .inl (a0_29_c, 48, .inl a0_29_f)), (a0_30, .inl (a0_30_c, 48, .inl a0_30_f)), (a0_31, .inl (a0_31_c, 48, .inl a0_31_f)), (a0_32, .inl (a0_32_c, 24, .inl a0_32_f)), (a0_33, .inl (a0_33_c, 24, .inl a0_33_f)), (a0_34, .inl (a0_34_c, 72, .inl a0_34_f)), (a0_35, .inl (a0_35_c, 24, .inl a0_35_f)), (a0_38, .inl (a0_38_c, 176, .inl a0_38_f))] ∧ Ev g (va_A [(a0, .inr (8, [.int a0_0, .int a0_1, .int a0_2, .int a0_3, .ref a0_4, .int a0_5, .int a0_6, .int a0_7, .int a0_8, .int a0_9, .int a0_10, .long a0_11, .int a0_12, .int a0_13, .int a0_14, .int a0_15, .int a0_16, .int a0_17, .ref a0_18, .ref a0_19, .ref a0_20, .ref a0_21, .ref a0_22, .ref a0_23, .ref a0_24, .ref a0_25, .ref a0_26, .ref a0_27, .ref a0_28, .ref a0_29, .ref a0_30, .ref a0_31, .ref a0_32, .ref a0_33, .ref a0_34, .ref a0_35, .long a0_36, .int a0_37, .ref a0_38, .ref a0_39, .int a0_40, .ref a0_41, .ref a0_42, .ref a0_43])), (a0_23, .inl (a0_23_c, 16, .inl a0_23_f)), (a0_26, .inl (a0_26_c, 8, .inl a0_26_f)), (a0_29, .inl (a0_29_c, 48, .inl a0_29_f)), (a0_30, .inl (a0_30_c, 48, .inl a0_30_f)), (a0_31, .inl (a0_31_c, 48, .inl a0_31_f)), (a0_32, .inl (a0_32_c, 24, .inl a0_32_f)), (a0_33, .inl (a0_33_c, 24, .inl a0_33_f)), (a0_34, .inl (a0_34_c, 72, .inl a0_34_f)), (a0_35, .inl (a0_35_c, 24, .inl a0_35_f)), (a0_38, .inl (a0_38_c, 176, .inl a0_38_f))] sz) U)) (va_Qi (fun (r : Int32) (u : Int32) => u = r) (fun (u : Int32) (t : State) => ∃ (za0_1 : Int32) (za0_2 : Int32) (za0_3 : Int32), va_P (dC, dI) vwCl [(a0, .inr (8, [.int a0_0, .int za0_1, .int za0_2, .int za0_3, .ref a0_4, .int a0_5, .int a0_6, .int a0_7, .int a0_8, .int a0_9, .int a0_10, .long a0_11, .int a0_12, .int a0_13, .int a0_14, .int a0_15, .int a0_16, .int a0_17, .ref a0_18, .ref a0_19, .ref a0_20, .ref a0_21, .ref a0_22, .ref a0_23, .ref a0_24, .ref a0_25, .ref a0_26, .ref a0_27, .ref a0_28, .ref a0_29, .ref a0_30, .ref a0_31, .ref a0_32, .ref a0_33, .ref a0_34, .ref a0_35, .long a0_36, .int a0_37, .ref a0_38, .ref a0_39, .int a0_40, .ref a0_41, .ref a0_42, .ref a0_43])), (a0_23, .inl (a0_23_c, 16, .inl a0_23_f)), (a0_26, .inl (a0_26_c, 8, .inl a0_26_f)), (a0_29, .inl (a0_29_c, 48, .inl a0_29_f)), (a0_30, .inl (a0_30_c, 48, .inl a0_30_f)), (a0_31, .inl (a0_31_c, 48, .inl a0_31_f)), (a0_32, .inl (a0_32_c, 24, .inl a0_32_f)), (a0_33, .inl (a0_33_c, 24, .inl a0_33_f)), (a0_34, .inl (a0_34_c, 72, .inl a0_34_f)), (a0_35, .inl (a0_35_c, 24, .inl a0_35_f)), (a0_38, .inl (a0_38_c, 176, .inl a0_38_f))] t.heap ∧ va_K (dC, dI) vwCl [] t ∧ va_D (va_A [(a0, .inr (8, [.int a0_0, .int a0_1, .int a0_2, .int a0_3, .ref a0_4, .int a0_5, .int a0_6, .int a0_7, .int a0_8, .int a0_9, .int a0_10, .long a0_11, .int a0_12, .int a0_13, .int a0_14, .int a0_15, .int a0_16, .int a0_17, .ref a0_18, .ref a0_19, .ref a0_20, .ref a0_21, .ref a0_22, .ref a0_23, .ref a0_24, .ref a0_25, .ref a0_26, .ref a0_27, .ref a0_28, .ref a0_29, .ref a0_30, .ref a0_31, .ref a0_32, .ref a0_33, .ref a0_34, .ref a0_35, .long a0_36, .int a0_37, .ref a0_38, .ref a0_39, .int a0_40, .ref a0_41, .ref a0_42, .ref a0_43])), (a0_23, .inl (a0_23_c, 16, .inl a0_23_f)), (a0_26, .inl (a0_26_c, 8, .inl a0_26_f)), (a0_29, .inl (a0_29_c, 48, .inl a0_29_f)), (a0_30, .inl (a0_30_c, 48, .inl a0_30_f)), (a0_31, .inl (a0_31_c, 48, .inl a0_31_f)), (a0_32, .inl (a0_32_c, 24, .inl a0_32_f)), (a0_33, .inl (a0_33_c, 24, .inl a0_33_f)), (a0_34, .inl (a0_34_c, 72, .inl a0_34_f)), (a0_35, .inl (a0_35_c, 24, .inl a0_35_f)), (a0_38, .inl (a0_38_c, 176, .inl a0_38_f))] sz) [(a0, .inr (8, [.int a0_0, .int za0_1, .int za0_2, .int za0_3, .ref a0_4, .int a0_5, .int a0_6, .int a0_7, .int a0_8, .int a0_9, .int a0_10, .long a0_11, .int a0_12, .int a0_13, .int a0_14, .int a0_15, .int a0_16, .int a0_17, .ref a0_18, .ref a0_19, .ref a0_20, .ref a0_21, .ref a0_22, .ref a0_23, .ref a0_24, .ref a0_25, .ref a0_26, .ref a0_27, .ref a0_28, .ref a0_29, .ref a0_30, .ref a0_31, .ref a0_32, .ref a0_33, .ref a0_34, .ref a0_35, .long a0_36, .int a0_37, .ref a0_38, .ref a0_39, .int a0_40, .ref a0_41, .ref a0_42, .ref a0_43])), (a0_23, .inl (a0_23_c, 16, .inl a0_23_f)), (a0_26, .inl (a0_26_c, 8, .inl a0_26_f)), (a0_29, .inl (a0_29_c, 48, .inl a0_29_f)), (a0_30, .inl (a0_30_c, 48, .inl a0_30_f)), (a0_31, .inl (a0_31_c, 48, .inl a0_31_f)), (a0_32, .inl (a0_32_c, 24, .inl a0_32_f)), (a0_33, .inl (a0_33_c, 24, .inl a0_33_f)), (a0_34, .inl (a0_34_c, 72, .inl a0_34_f)), (a0_35, .inl (a0_35_c, 24, .inl a0_35_f)), (a0_38, .inl (a0_38_c, 176, .inl a0_38_f))]) (va_A [(a0, .inr (8, [.int a0_0, .int a0_1, .int a0_2, .int a0_3, .ref a0_4, .int a0_5, .int a0_6, .int a0_7, .int a0_8, .int a0_9, .int a0_10, .long a0_11, .int a0_12, .int a0_13, .int a0_14, .int a0_15, .int a0_16, .int a0_17, .ref a0_18, .ref a0_19, .ref a0_20, .ref a0_21, .ref a0_22, .ref a0_23, .ref a0_24, .ref a0_25, .ref a0_26, .ref a0_27, .ref a0_28, .ref a0_29, .ref a0_30, .ref a0_31, .ref a0_32, .ref a0_33, .ref a0_34, .ref a0_35, .long a0_36, .int a0_37, .ref a0_38, .ref a0_39, .int a0_40, .ref a0_41, .ref a0_42, .ref a0_43])), (a0_23, .inl (a0_23_c, 16, .inl a0_23_f)), (a0_26, .inl (a0_26_c, 8, .inl a0_26_f)), (a0_29, .inl (a0_29_c, 48, .inl a0_29_f)), (a0_30, .inl (a0_30_c, 48, .inl a0_30_f)), (a0_31, .inl (a0_31_c, 48, .inl a0_31_f)), (a0_32, .inl (a0_32_c, 24, .inl a0_32_f)), (a0_33, .inl (a0_33_c, 24, .inl a0_33_f)), (a0_34, .inl (a0_34_c, 72, .inl a0_34_f)), (a0_35, .inl (a0_35_c, 24, .inl a0_35_f)), (a0_38, .inl (a0_38_c, 176, .inl a0_38_f))] sz)) 0 0 (va_A [(a0, .inr (8, [.int a0_0, .int a0_1, .int a0_2, .int a0_3, .ref a0_4, .int a0_5, .int a0_6, .int a0_7, .int a0_8, .int a0_9, .int a0_10, .long a0_11, .int a0_12, .int a0_13, .int a0_14, .int a0_15, .int a0_16, .int a0_17, .ref a0_18, .ref a0_19, .ref a0_20, .ref a0_21, .ref a0_22, .ref a0_23, .ref a0_24, .ref a0_25, .ref a0_26, .ref a0_27, .ref a0_28, .ref a0_29, .ref a0_30, .ref a0_31, .ref a0_32, .ref a0_33, .ref a0_34, .ref a0_35, .long a0_36, .int a0_37, .ref a0_38, .ref a0_39, .int a0_40, .ref a0_41, .ref a0_42, .ref a0_43])), (a0_23, .inl (a0_23_c, 16, .inl a0_23_f)), (a0_26, .inl (a0_26_c, 8, .inl a0_26_f)), (a0_29, .inl (a0_29_c, 48, .inl a0_29_f)), (a0_30, .inl (a0_30_c, 48, .inl a0_30_f)), (a0_31, .inl (a0_31_c, 48, .inl a0_31_f)), (a0_32, .inl (a0_32_c, 24, .inl a0_32_f)), (a0_33, .inl (a0_33_c, 24, .inl a0_33_f)), (a0_34, .inl (a0_34_c, 72, .inl a0_34_f)), (a0_35, .inl (a0_35_c, 24, .inl a0_35_f)), (a0_38, .inl (a0_38_c, 176, .inl a0_38_f))] sz) := by
  refine Met.ofW (cc := cX9_endsOf) (maxL := 6) (ret := (some .int)) (by decide) rfl ?_
  intro p e s m args below meth c s₁ B hml hv
  obtain ⟨rfl, hsz, hP, hK, hD0, hE⟩ := hv
  have hx := B.exec
  have hb := B.bytes
  have hr := B.returns
  have hts0 := atoms_spec (ws := (.code yX9_endsOf cX9_endsOf 6 (some .int) :: TBL)) B.pre
  have hts := fun (w : Cond) (h : w ∈ TBL) => hts0 w (List.mem_cons_of_mem _ h)
  have hown : s.vm.findClass RX9 = some m.cls := findClass_of_methodNamed B.named
  have hlocks := B.notSynchronized
  have hN := hE.1
  subst hsz
  have hD := hD0.self (sz := s.heap.size)
  generalize hAe : va_A [(a0, .inr (8, [.int a0_0, .int a0_1, .int a0_2, .int a0_3, .ref a0_4, .int a0_5, .int a0_6, .int a0_7, .int a0_8, .int a0_9, .int a0_10, .long a0_11, .int a0_12, .int a0_13, .int a0_14, .int a0_15, .int a0_16, .int a0_17, .ref a0_18, .ref a0_19, .ref a0_20, .ref a0_21, .ref a0_22, .ref a0_23, .ref a0_24, .ref a0_25, .ref a0_26, .ref a0_27, .ref a0_28, .ref a0_29, .ref a0_30, .ref a0_31, .ref a0_32, .ref a0_33, .ref a0_34, .ref a0_35, .long a0_36, .int a0_37, .ref a0_38, .ref a0_39, .int a0_40, .ref a0_41, .ref a0_42, .ref a0_43])), (a0_23, .inl (a0_23_c, 16, .inl a0_23_f)), (a0_26, .inl (a0_26_c, 8, .inl a0_26_f)), (a0_29, .inl (a0_29_c, 48, .inl a0_29_f)), (a0_30, .inl (a0_30_c, 48, .inl a0_30_f)), (a0_31, .inl (a0_31_c, 48, .inl a0_31_f)), (a0_32, .inl (a0_32_c, 24, .inl a0_32_f)), (a0_33, .inl (a0_33_c, 24, .inl a0_33_f)), (a0_34, .inl (a0_34_c, 72, .inl a0_34_f)), (a0_35, .inl (a0_35_c, 24, .inl a0_35_f)), (a0_38, .inl (a0_38_c, 176, .inl a0_38_f))] s.heap.size = A at hD hE ⊢
  have hA : ∀ q : Nat, s.heap.size ≤ q → A q := fun q h => by rw [← hAe]; exact Or.inr h
  have hS : va_S A s.heap s.heap [] := va_S.rf
  replace hP : va_P (dC, dI) vwCl [(a0, .inr (8, [.int a0_0, .int a0_1, .int a0_2, .int a0_3, .ref a0_4, .int a0_5, .int a0_6, .int a0_7, .int a0_8, .int a0_9, .int a0_10, .long a0_11, .int a0_12, .int a0_13, .int a0_14, .int a0_15, .int a0_16, .int a0_17, .ref a0_18, .ref a0_19, .ref a0_20, .ref a0_21, .ref a0_22, .ref a0_23, .ref a0_24, .ref a0_25, .ref a0_26, .ref a0_27, .ref a0_28, .ref a0_29, .ref a0_30, .ref a0_31, .ref a0_32, .ref a0_33, .ref a0_34, .ref a0_35, .long a0_36, .int a0_37, .ref a0_38, .ref a0_39, .int a0_40, .ref a0_41, .ref a0_42, .ref a0_43])), (a0_23, .inl (a0_23_c, 16, .inl a0_23_f)), (a0_26, .inl (a0_26_c, 8, .inl a0_26_f)), (a0_29, .inl (a0_29_c, 48, .inl a0_29_f)), (a0_30, .inl (a0_30_c, 48, .inl a0_30_f)), (a0_31, .inl (a0_31_c, 48, .inl a0_31_f)), (a0_32, .inl (a0_32_c, 24, .inl a0_32_f)), (a0_33, .inl (a0_33_c, 24, .inl a0_33_f)), (a0_34, .inl (a0_34_c, 72, .inl a0_34_f)), (a0_35, .inl (a0_35_c, 24, .inl a0_35_f)), (a0_38, .inl (a0_38_c, 176, .inl a0_38_f))] s.heap := hP
  have hl := lv_entry ([.ref a0, .int a1, .int a2]) (n := 6) (Nat.le_of_ble_eq_true rfl)
  rw [lg_entry_eq]
  generalize (lg_sl ([.ref a0, .int a1, .int a2]) ++ List.replicate (6 - (lg_sl ([.ref a0, .int a1, .int a2])).length) Slot.unset).toArray = ls at hl ⊢
  have hl : lv_has ls 6 [(0, .ref a0), (1, .int a1), (2, .int a2)] := hl
  have b_a1 := i32b a1
  have b_a2 := i32b a2
  have b_a0_0 := i32b a0_0
  have b_a0_1 := i32b a0_1
  have b_a0_2 := i32b a0_2
  have b_a0_3 := i32b a0_3
  have b_a0_9 := i32b a0_9
  have b_a0_10 := i32b a0_10
  have b_a0_12 := i32b a0_12
  have b_a0_13 := i32b a0_13
  have b_a0_14 := i32b a0_14
  have b_a0_15 := i32b a0_15
  have b_a0_16 := i32b a0_16
  have hms0 := hms
  obtain ⟨⟨rk, hrk⟩, hmo⟩ := hms0
  refine lv_iconst (v := (-1)) hx hb dX9_endsOf_0 (by decide) ?_
  refine lv_istore_n (lv' := [(3, .int (-1)), (0, .ref a0), (1, .int a1), (2, .int a2)]) hx hb dX9_endsOf_1 rfl hl (by decide) rfl (fun ls hl => ?_)
  refine lv_iload_n hx hb dX9_endsOf_2 rfl (lv_at hl 3 rfl) ?_
  refine lv_istore (lv' := [(4, .int a2), (3, .int (-1)), (0, .ref a0), (1, .int a1), (2, .int a2)]) hx hb dX9_endsOf_3 hl (by decide) rfl (fun ls hl => ?_)
  have qcm1 : ((-1) : Int32).toInt = (-1) := by decide
  refine wloop (fun n H locs ls => ∃ (l5_4 : Int32) (l5_3 : Int32) (f5_0_1 : Int32) (f5_0_2 : Int32) (f5_0_3 : Int32), n = fm rk l5_4 ∧ (l5_4.toInt = -1 ∨ (0 ≤ l5_4.toInt ∧ l5_4.toInt < nn)) ∧ lv_has ls 6 [(4, .int l5_4), (3, .int l5_3), (0, .ref a0), (1, .int a1), (2, .int a2)] ∧ va_P (dC, dI) vwCl [(a0, .inr (8, [.int a0_0, .int f5_0_1, .int f5_0_2, .int f5_0_3, .ref a0_4, .int a0_5, .int a0_6, .int a0_7, .int a0_8, .int a0_9, .int a0_10, .long a0_11, .int a0_12, .int a0_13, .int a0_14, .int a0_15, .int a0_16, .int a0_17, .ref a0_18, .ref a0_19, .ref a0_20, .ref a0_21, .ref a0_22, .ref a0_23, .ref a0_24, .ref a0_25, .ref a0_26, .ref a0_27, .ref a0_28, .ref a0_29, .ref a0_30, .ref a0_31, .ref a0_32, .ref a0_33, .ref a0_34, .ref a0_35, .long a0_36, .int a0_37, .ref a0_38, .ref a0_39, .int a0_40, .ref a0_41, .ref a0_42, .ref a0_43])), (a0_23, .inl (a0_23_c, 16, .inl a0_23_f)), (a0_26, .inl (a0_26_c, 8, .inl a0_26_f)), (a0_29, .inl (a0_29_c, 48, .inl a0_29_f)), (a0_30, .inl (a0_30_c, 48, .inl a0_30_f)), (a0_31, .inl (a0_31_c, 48, .inl a0_31_f)), (a0_32, .inl (a0_32_c, 24, .inl a0_32_f)), (a0_33, .inl (a0_33_c, 24, .inl a0_33_f)), (a0_34, .inl (a0_34_c, 72, .inl a0_34_f)), (a0_35, .inl (a0_35_c, 24, .inl a0_35_f)), (a0_38, .inl (a0_38_c, 176, .inl a0_38_f))] H ∧ va_D A [(a0, .inr (8, [.int a0_0, .int f5_0_1, .int f5_0_2, .int f5_0_3, .ref a0_4, .int a0_5, .int a0_6, .int a0_7, .int a0_8, .int a0_9, .int a0_10, .long a0_11, .int a0_12, .int a0_13, .int a0_14, .int a0_15, .int a0_16, .int a0_17, .ref a0_18, .ref a0_19, .ref a0_20, .ref a0_21, .ref a0_22, .ref a0_23, .ref a0_24, .ref a0_25, .ref a0_26, .ref a0_27, .ref a0_28, .ref a0_29, .ref a0_30, .ref a0_31, .ref a0_32, .ref a0_33, .ref a0_34, .ref a0_35, .long a0_36, .int a0_37, .ref a0_38, .ref a0_39, .int a0_40, .ref a0_41, .ref a0_42, .ref a0_43])), (a0_23, .inl (a0_23_c, 16, .inl a0_23_f)), (a0_26, .inl (a0_26_c, 8, .inl a0_26_f)), (a0_29, .inl (a0_29_c, 48, .inl a0_29_f)), (a0_30, .inl (a0_30_c, 48, .inl a0_30_f)), (a0_31, .inl (a0_31_c, 48, .inl a0_31_f)), (a0_32, .inl (a0_32_c, 24, .inl a0_32_f)), (a0_33, .inl (a0_33_c, 24, .inl a0_33_f)), (a0_34, .inl (a0_34_c, 72, .inl a0_34_f)), (a0_35, .inl (a0_35_c, 24, .inl a0_35_f)), (a0_38, .inl (a0_38_c, 176, .inl a0_38_f))] ∧ va_S A s.heap H locs) ?_ (fm rk a2) _ _ _ ⟨a2, (-1), a0_1, a0_2, a0_3, rfl, (by omega), lv_sub hl [0, 1, 2, 3, 4] rfl, hP, hD, hS⟩
  intro n5 H locs ls hI ih5
  obtain ⟨l5_4, l5_3, f5_0_1, f5_0_2, f5_0_3, hn5, gx5_0, hl, hP, hD, hS⟩ := hI
  have b_l5_4 := i32b l5_4
  have b_l5_3 := i32b l5_3
  have b_f5_0_1 := i32b f5_0_1
  have b_f5_0_2 := i32b f5_0_2
  have b_f5_0_3 := i32b f5_0_3
  refine lv_iload hx hb dX9_endsOf_5 (lv_at hl 0 rfl) ?_
  refine lv_iconst (v := (-1)) hx hb dX9_endsOf_7 (by decide) ?_
  refine lv_icmp_eq (tgt := 58) hx hb dX9_endsOf_8 (by decide) (fun c8_1 => ?_) (fun c8_1 => ?_)
  · have c8_1 : l5_4.toInt = (-1) := (cv_eq rfl (by decide)).mp c8_1
    refine lv_iload_n hx hb dX9_endsOf_58 rfl (lv_at hl 1 rfl) ?_
    refine W.widen (k := 0) (n := 0) (Nat.le_of_ble_eq_true rfl) (Nat.le_of_ble_eq_true rfl) ?_
    have hP9 := hP
    have hD9 := hD
    have hK9 := (rgK10_59b8e2b hK)
    exact W.iret (v := l5_3) hx hb hr (fun t ht hW => ⟨⟨l5_3, l5_3, rfl, rfl, f5_0_1, f5_0_2, f5_0_3, atB ht hP9, va_K.moved hW.alike hK9, hD9⟩, hS.F ht⟩) hS.2.2 dX9_endsOf_59
  · have c8_1 : ¬ (l5_4.toInt = (-1)) := mt (cv_eq rfl (by decide)).mpr c8_1
    refine lv_aload_n hx hb dX9_endsOf_11 rfl (lv_at hl 2 rfl) ?_
    refine lv_iload_n hx hb dX9_endsOf_12 rfl (lv_at hl 3 rfl) ?_
    refine lv_iload hx hb dX9_endsOf_13 (lv_at hl 0 rfl) ?_
    have hPc := (rgP11_7d92a6e hP)
    have hKc := (rgK10_57def4a hK)
    refine vp_callSi ((va_runV (As := [.int a1, .int l5_4]) (rest := []) ⟨hx, hb, hml, hown, hts⟩ (k_X9_isTarget l dC dI g (a0) (a1) (l5_4) (a0_0) (f5_0_1) (f5_0_2) (f5_0_3) (a0_4) (a0_5) (a0_6) (a0_7) (a0_8) (a0_9) (a0_10) (a0_11) (a0_12) (a0_13) (a0_14) (a0_15) (a0_16) (a0_17) (a0_18) (a0_19) (a0_20) (a0_21) (a0_22) (a0_23) (a0_24) (a0_25) (a0_26) (a0_27) (a0_28) (a0_29) (a0_30) (a0_31) (a0_32) (a0_33) (a0_34) (a0_35) (a0_36) (a0_37) (a0_38) (a0_39) (a0_40) (a0_41) (a0_42) (a0_43) (a0_30_c) (a0_30_f) (a0_31_c) (a0_31_f) (a0_32_c) (a0_32_f) (a0_33_c) (a0_33_f) (by omega) (by omega) (by omega) (by omega) (by omega) (by omega) (by omega) (by omega) (by omega)) (cwV 2 hts (gwV qw_511 qw_512 qw_513 qw_386 qw_510) rfl rfl rfl (by decide +kernel) ⟨Nat.le_of_ble_eq_true rfl, Nat.le_of_ble_eq_true rfl⟩) ⟨fun a U g9 mk q => ⟨q.1, q.2.1, va_K.moved (u := U) (U := U.calling g9 mk a) (Vm.Alike.refl U.vm) q.2.2.1, Ev.bl q.2.2.2⟩, va_recv hK hP (ci := 8) (q0 := 0) rfl rgL11_6c8bafd, fun U hU hW => ⟨rfl, atB hU hPc, va_K.moved hW.alike hKc, hE.go hS (fun _ h => h.elim) hU hW⟩⟩ rfl rfl hl.1 rfl (lv_room (Nat.le_of_ble_eq_true rfl)) dX9_endsOf_15 ⟨Nat.le_of_ble_eq_true rfl, Nat.le_of_ble_eq_true rfl⟩)).run (fun r2 h_r2 => ?_)
    have h_r2 : (r2 = 0 ∨ r2 = 1) := h_r2
    have b_r2 := z01 (show r2 = 0 ∨ r2 = 1 from h_r2)
    refine lv_if_ne (tgt := 24) hx hb dX9_endsOf_18 (by decide) (fun c18_3 => ?_) (fun c18_3 => ?_)
    · have c18_3 : ¬ (r2.toInt = 0) := mt (cv_eq rfl (by decide)).mpr c18_3
      refine lv_aload_n hx hb dX9_endsOf_24 rfl (lv_at hl 2 rfl) ?_
      refine lv_iload_n hx hb dX9_endsOf_25 rfl (lv_at hl 3 rfl) ?_
      refine lv_iload hx hb dX9_endsOf_26 (lv_at hl 0 rfl) ?_
      have hPc := (rgP11_cded858 hP)
      have hKc := (rgK10_b3dac19 hK)
      have hDc := (rgD11_f525aca hD)
      have hFc := freeW hDc hS hA
      refine va_calli (va_runV (As := [.int a1, .int l5_4]) (rest := []) ⟨hx, hb, hml, hown, hts⟩ (k_X9_termOf l dC dI g H.size (a0) (a1) (l5_4) (a0_0) (f5_0_1) (f5_0_2) (f5_0_3) (a0_4) (a0_5) (a0_6) (a0_7) (a0_8) (a0_9) (a0_10) (a0_11) (a0_12) (a0_13) (a0_14) (a0_15) (a0_16) (a0_17) (a0_18) (a0_19) (a0_20) (a0_21) (a0_22) (a0_23) (a0_24) (a0_25) (a0_26) (a0_27) (a0_28) (a0_29) (a0_30) (a0_31) (a0_32) (a0_33) (a0_34) (a0_35) (a0_36) (a0_37) (a0_38) (a0_39) (a0_40) (a0_41) (a0_42) (a0_43) (a0_23_c) (a0_23_f) (a0_26_c) (a0_26_f) (a0_29_c) (a0_29_f) (a0_32_c) (a0_32_f) (a0_33_c) (a0_33_f) (a0_34_c) (a0_34_f) (a0_35_c) (a0_35_f) (a0_38_c) (a0_38_f) (cn) (by omega) (by omega) (by omega) (by omega) (by omega) (by omega) (by omega) (by omega) (by assumption) (by omega) (by omega) (by first | assumption | exact hms.2)) (cwV 2 hts (gwV qw_528 qw_529 qw_530 qw_386 qw_527) rfl rfl rfl (by decide +kernel) ⟨Nat.le_of_ble_eq_true rfl, Nat.le_of_ble_eq_true rfl⟩) ⟨fun a U g9 mk q => ⟨q.1, q.2.1, q.2.2.1, va_K.moved (u := U) (U := U.calling g9 mk a) (Vm.Alike.refl U.vm) q.2.2.2.1, q.2.2.2.2.1, Ev.bl q.2.2.2.2.2⟩, va_recv hK hP (ci := 8) (q0 := 0) rfl rgL11_6c8bafd, fun U hU hW => ⟨rfl, by rw [hU], atB hU hPc, va_K.moved hW.alike hKc, hDc.weaken (fun _ _ _ _ => trivial), hE.go hS hFc hU hW⟩⟩ rfl rfl hl.1 rfl (lv_room (Nat.le_of_ble_eq_true rfl)) dX9_endsOf_28 ⟨Nat.le_of_ble_eq_true rfl, Nat.le_of_ble_eq_true rfl⟩) hS (fun q _ h => hFc q h) hFc (fun r5 u4 t H1 locs ht hvm h_u4 hB hz1 hk1 hS => ?_)
      obtain ⟨za0_1_6, za0_2_7, za0_3_8, hP1, hK1, hD1⟩ := hB
      have hK1 := va_K.moved hvm.symm hK1
      have hJ9 := rgJ11_8755fe6 hP hD hk1 hFc (atH ht hP1) hD1
      clear hP hD hPc hKc hDc hFc hP1 hD1 hk1 hz1
      obtain ⟨hP, hD⟩ := hJ9
      clear hK1
      generalize H1 = H at hP hS ⊢
      refine W.widen (k := 0) (n := 0) (Nat.le_of_ble_eq_true rfl) (Nat.le_of_ble_eq_true rfl) ?_
      have h_r5 := congrArg Int32.toInt h_u4
      have b_r5 := i32b r5
      refine lv_istore (lv' := [(5, .int r5), (4, .int l5_4), (3, .int l5_3), (0, .ref a0), (1, .int a1), (2, .int a2)]) hx hb dX9_endsOf_31 hl (by decide) rfl (fun ls hl => ?_)
      refine lv_iload hx hb dX9_endsOf_33 (lv_at hl 0 rfl) ?_
      refine lv_iload_n hx hb dX9_endsOf_35 rfl (lv_at hl 2 rfl) ?_
      refine lv_icmp_le (tgt := 44) hx hb dX9_endsOf_36 (by decide) (fun c36_9 => ?_) (fun c36_9 => ?_)
      · have c36_9 : r5.toInt ≤ l5_3.toInt := (cv_le rfl rfl).mp c36_9
        refine lv_iload_n hx hb dX9_endsOf_44 rfl (lv_at hl 2 rfl) ?_
        refine lv_istore_n (lv' := [(3, .int l5_3), (5, .int r5), (4, .int l5_4), (0, .ref a0), (1, .int a1), (2, .int a2)]) hx hb dX9_endsOf_45 rfl hl (by decide) rfl (fun ls hl => ?_)
        refine lv_aload_n hx hb dX9_endsOf_46 rfl (lv_at hl 3 rfl) ?_
        refine va_get (D := (dC, dI)) (ci := 8) (v := .ref a0_38) (C := RX9) (T := TX9) (N := 44) hx hb hts inlX9 hown hK hP 0 rgL11_6c8bafd rfl 38 (by decide) (hts (.fieldLink RX9 70 "ClosedUntilModel" "s" "[I") qw_502) (fun _ h9 => h9) rfl dX9_endsOf_47 ?_
        refine lv_iload hx hb dX9_endsOf_50 (lv_at hl 2 rfl) ?_
        refine va_iald hx hb hK hP 10 9 rgL11_9a1600d rgT10_756f852 (vinI (by omega) (by omega)) dX9_endsOf_52 ?_
        refine lv_topi (fun x10 e_x10 => ?_)
        have q_x10 := congrArg Int32.toInt e_x10
        have b_x10 := i32b x10
        refine lv_istore (lv' := [(4, .int x10), (3, .int l5_3), (5, .int r5), (0, .ref a0), (1, .int a1), (2, .int a2)]) hx hb dX9_endsOf_53 hl (by decide) rfl (fun ls hl => ?_)
        refine lv_goto (tgt := 5) hx hb dX9_endsOf_55 (by decide) ?_
        have hst := FO.step hrk (p := l5_4) (by omega) (by omega) e_x10
        exact ih5 (fm rk x10) _ _ _ (by rw [hn5]; exact fm_step hst (by omega)) ⟨x10, l5_3, za0_1_6, za0_2_7, za0_3_8, rfl, (by omega), lv_sub hl [0, 1, 3, 4, 5] rfl, hP, hD, hS⟩
      · have c36_9 : ¬ (r5.toInt ≤ l5_3.toInt) := mt (cv_le rfl rfl).mpr c36_9
        refine lv_iload hx hb dX9_endsOf_39 (lv_at hl 0 rfl) ?_
        refine lv_goto (tgt := 45) hx hb dX9_endsOf_41 (by decide) ?_
        refine lv_istore_n (lv' := [(3, .int r5), (5, .int r5), (4, .int l5_4), (0, .ref a0), (1, .int a1), (2, .int a2)]) hx hb dX9_endsOf_45 rfl hl (by decide) rfl (fun ls hl => ?_)
        refine lv_aload_n hx hb dX9_endsOf_46 rfl (lv_at hl 3 rfl) ?_
        refine va_get (D := (dC, dI)) (ci := 8) (v := .ref a0_38) (C := RX9) (T := TX9) (N := 44) hx hb hts inlX9 hown hK hP 0 rgL11_6c8bafd rfl 38 (by decide) (hts (.fieldLink RX9 70 "ClosedUntilModel" "s" "[I") qw_502) (fun _ h9 => h9) rfl dX9_endsOf_47 ?_
        refine lv_iload hx hb dX9_endsOf_50 (lv_at hl 2 rfl) ?_
        refine va_iald hx hb hK hP 10 9 rgL11_9a1600d rgT10_756f852 (vinI (by omega) (by omega)) dX9_endsOf_52 ?_
        refine lv_topi (fun x11 e_x11 => ?_)
        have q_x11 := congrArg Int32.toInt e_x11
        have b_x11 := i32b x11
        refine lv_istore (lv' := [(4, .int x11), (3, .int r5), (5, .int r5), (0, .ref a0), (1, .int a1), (2, .int a2)]) hx hb dX9_endsOf_53 hl (by decide) rfl (fun ls hl => ?_)
        refine lv_goto (tgt := 5) hx hb dX9_endsOf_55 (by decide) ?_
        have hst := FO.step hrk (p := l5_4) (by omega) (by omega) e_x11
        exact ih5 (fm rk x11) _ _ _ (by rw [hn5]; exact fm_step hst (by omega)) ⟨x11, r5, za0_1_6, za0_2_7, za0_3_8, rfl, (by omega), lv_sub hl [0, 1, 3, 4, 5] rfl, hP, hD, hS⟩
    · have c18_3 : r2.toInt = 0 := (cv_eq rfl (by decide)).mp c18_3
      refine lv_goto (tgt := 46) hx hb dX9_endsOf_21 (by decide) ?_
      refine lv_aload_n hx hb dX9_endsOf_46 rfl (lv_at hl 2 rfl) ?_
      refine va_get (D := (dC, dI)) (ci := 8) (v := .ref a0_38) (C := RX9) (T := TX9) (N := 44) hx hb hts inlX9 hown hK hP 0 rgL11_6c8bafd rfl 38 (by decide) (hts (.fieldLink RX9 70 "ClosedUntilModel" "s" "[I") qw_502) (fun _ h9 => h9) rfl dX9_endsOf_47 ?_
      refine lv_iload hx hb dX9_endsOf_50 (lv_at hl 0 rfl) ?_
      refine va_iald hx hb hK hP 10 9 rgL11_9a1600d rgT10_756f852 (vinI (by omega) (by omega)) dX9_endsOf_52 ?_
      refine lv_topi (fun x12 e_x12 => ?_)
      have q_x12 := congrArg Int32.toInt e_x12
      have b_x12 := i32b x12
      refine lv_istore (lv' := [(4, .int x12), (3, .int l5_3), (0, .ref a0), (1, .int a1), (2, .int a2)]) hx hb dX9_endsOf_53 hl (by decide) rfl (fun ls hl => ?_)
      refine lv_goto (tgt := 5) hx hb dX9_endsOf_55 (by decide) ?_
      have hst := FO.step hrk (p := l5_4) (by omega) (by omega) e_x12
      exact ih5 (fm rk x12) _ _ _ (by rw [hn5]; exact fm_step hst (by omega)) ⟨x12, l5_3, f5_0_1, f5_0_2, f5_0_3, rfl, (by omega), lv_sub hl [0, 1, 2, 3, 4] rfl, hP, hD, hS⟩
set_option maxHeartbeats 4000000 in
set_option maxRecDepth 100000 in
theorem k_X9_closes (l : Launch) (dC : Nat → ClassId) (dI : Nat → Nat → Nat) (g : Gv) (sz : Nat) (a0 : Nat) (a1 : Int32) (a0_0 : Int32) (a0_1 : Int32) (a0_2 : Int32) (a0_3 : Int32) (a0_4 : Nat) (a0_5 : Int32) (a0_6 : Int32) (a0_7 : Int32) (a0_8 : Int32) (a0_9 : Int32) (a0_10 : Int32) (a0_11 : Int64) (a0_12 : Int32) (a0_13 : Int32) (a0_14 : Int32) (a0_15 : Int32) (a0_16 : Int32) (a0_17 : Int32) (a0_18 : Nat) (a0_19 : Nat) (a0_20 : Nat) (a0_21 : Nat) (a0_22 : Nat) (a0_23 : Nat) (a0_24 : Nat) (a0_25 : Nat) (a0_26 : Nat) (a0_27 : Nat) (a0_28 : Nat) (a0_29 : Nat) (a0_30 : Nat) (a0_31 : Nat) (a0_32 : Nat) (a0_33 : Nat) (a0_34 : Nat) (a0_35 : Nat) (a0_36 : Int64) (a0_37 : Int32) (a0_38 : Nat) (a0_39 : Nat) (a0_40 : Int32) (a0_41 : Nat) (a0_42 : Nat) (a0_43 : Nat) (a0_20_c : ClassId) (a0_20_f : Nat → Int32) (a0_21_c : ClassId) (a0_21_f : Nat → Int32) (a0_23_c : ClassId) (a0_23_f : Nat → Int32) (a0_26_c : ClassId) (a0_26_f : Nat → Int32) (a0_29_c : ClassId) (a0_29_f : Nat → Int32) (a0_30_c : ClassId) (a0_30_f : Nat → Int32) (a0_31_c : ClassId) (a0_31_f : Nat → Int32) (a0_32_c : ClassId) (a0_32_f : Nat → Int32) (a0_33_c : ClassId) (a0_33_f : Nat → Int32) (a0_34_c : ClassId) (a0_34_f : Nat → Int32) (a0_35_c : ClassId) (a0_35_f : Nat → Int32) (a0_38_c : ClassId) (a0_38_f : Nat → Int32) (h_a0_5 : 0 ≤ a0_5.toInt ∧ a0_5.toInt ≤ 1000) (h_a0_6 : 0 ≤ a0_6.toInt ∧ a0_6.toInt ≤ 1000) (h_a0_7 : 0 ≤ a0_7.toInt ∧ a0_7.toInt ≤ 1000) (h_a0_8 : 0 ≤ a0_8.toInt ∧ a0_8.toInt ≤ 1000) (h_a0_17 : 0 ≤ a0_17.toInt ∧ a0_17.toInt ≤ 1) (h_a0_37 : (-1) ≤ a0_37.toInt ∧ a0_37.toInt ≤ 23) (h_a0_40 : 0 ≤ a0_40.toInt ∧ a0_40.toInt ≤ 12) (h_a0_20_f : vr 0 24 a0_20_f) (h_a0_21_f : vr 0 12 a0_21_f) (hms : RowOk (a0_20_f 0).toInt a0_38_f 0) (hmw : WOk a0_32_f a0_33_f 0 (a0_21_f 0).toInt) (ha1r : 0 ≤ a1.toInt ∧ a1.toInt < (a0_21_f 0).toInt) : Met l yX9_closes (.code yX9_closes cX9_closes 4 (some .int) :: TBL) ({ frames := 7, cells := 0, slots := 0, locals := 164 }) (va_Pc [.ref a0, .int a1] (fun U => U.heap.size = sz ∧ va_P (dC, dI) vwCl [(a0, .inr (8, [.int a0_0, .int a0_1, .int a0_2, .int a0_3, .ref a0_4, .int a0_5, .int a0_6, .int a0_7, .int a0_8, .int a0_9, .int a0_10, .long a0_11, .int a0_12, .int a0_13, .int a0_14, .int a0_15, .int a0_16, .int a0_17, .ref a0_18, .ref a0_19, .ref a0_20, .ref a0_21, .ref a0_22, .ref a0_23, .ref a0_24, .ref a0_25, .ref a0_26, .ref a0_27, .ref a0_28, .ref a0_29, .ref a0_30, .ref a0_31, .ref a0_32, .ref a0_33, .ref a0_34, .ref a0_35, .long a0_36, .int a0_37, .ref a0_38, .ref a0_39, .int a0_40, .ref a0_41, .ref a0_42, .ref a0_43])), (a0_20, .inl (a0_20_c, 2, .inl a0_20_f)), (a0_21, .inl (a0_21_c, 2, .inl a0_21_f)), (a0_23, .inl (a0_23_c, 16, .inl a0_23_f)), (a0_26, .inl (a0_26_c, 8, .inl a0_26_f)), (a0_29, .inl (a0_29_c, 48, .inl a0_29_f)), (a0_30, .inl (a0_30_c, 48, .inl a0_30_f)), (a0_31, .inl (a0_31_c, 48, .inl a0_31_f)), (a0_32, .inl (a0_32_c, 24, .inl a0_32_f)), (a0_33, .inl (a0_33_c, 24, .inl a0_33_f)), (a0_34, .inl (a0_34_c, 72, .inl a0_34_f)), (a0_35, .inl (a0_35_c, 24, .inl a0_35_f)), (a0_38, .inl (a0_38_c, 176, .inl a0_38_f))] U.heap ∧ va_K (dC, dI) vwCl [(a0_20_c, .int), (a0_21_c, .int), (a0_23_c, .int), (a0_26_c, .int), (a0_29_c, .int), (a0_30_c, .int), (a0_31_c, .int), (a0_32_c, .int), (a0_33_c, .int), (a0_34_c, .int), (a0_35_c, .boolean), (a0_38_c, .int)] U ∧ va_D (fun _ => True) [(a0, .inr (8, [.int a0_0, .int a0_1, .int a0_2, .int a0_3, .ref a0_4, .int a0_5, .int a0_6, .int a0_7, .int a0_8, .int a0_9, .int a0_10, .long a0_11, .int a0_12, .int a0_13, .int a0_14, .int a0_15, .int a0_16, .int a0_17, .ref a0_18, .ref a0_19, .ref a0_20, .ref a0_21, .ref a0_22, .ref a0_23, .ref a0_24, .ref a0_25, .ref a0_26, .ref a0_27, .ref a0_28, .ref a0_29, .ref a0_30, .ref a0_31, .ref a0_32, .ref a0_33, .ref a0_34, .ref a0_35, .long a0_36, .int a0_37, .ref a0_38, .ref a0_39, .int a0_40, .ref a0_41, .ref a0_42, .ref a0_43])), (a0_20, .inl (a0_20_c, 2, .inl a0_20_f)), (a0_21, .inl (a0_21_c, 2, .inl a0_21_f)), (a0_23, .inl (a0_23_c, 16, .inl a0_23_f)), (a0_26, .inl (a0_26_c, 8, .inl a0_26_f)), (a0_29, .inl (a0_29_c, 48, .inl a0_29_f)), (a0_30, .inl (a0_30_c, 48, .inl a0_30_f)), (a0_31, .inl (a0_31_c, 48, .inl a0_31_f)), (a0_32, .inl (a0_32_c, 24, .inl a0_32_f)), (a0_33, .inl (a0_33_c, 24, .inl a0_33_f)), (a0_34, .inl (a0_34_c, 72, .inl a0_34_f)), (a0_35, .inl (a0_35_c, 24, .inl a0_35_f)), (a0_38, .inl (a0_38_c, 176, .inl a0_38_f))] ∧ Ev g (va_A [(a0, .inr (8, [.int a0_0, .int a0_1, .int a0_2, .int a0_3, .ref a0_4, .int a0_5, .int a0_6, .int a0_7, .int a0_8, .int a0_9, .int a0_10, .long a0_11, .int a0_12, .int a0_13, .int a0_14, .int a0_15, .int a0_16, .int a0_17, .ref a0_18, .ref a0_19, .ref a0_20, .ref a0_21, .ref a0_22, .ref a0_23, .ref a0_24, .ref a0_25, .ref a0_26, .ref a0_27, .ref a0_28, .ref a0_29, .ref a0_30, .ref a0_31, .ref a0_32, .ref a0_33, .ref a0_34, .ref a0_35, .long a0_36, .int a0_37, .ref a0_38, .ref a0_39, .int a0_40, .ref a0_41, .ref a0_42, .ref a0_43])), (a0_20, .inl (a0_20_c, 2, .inl a0_20_f)), (a0_21, .inl (a0_21_c, 2, .inl a0_21_f)), (a0_23, .inl (a0_23_c, 16, .inl a0_23_f)), (a0_26, .inl (a0_26_c, 8, .inl a0_26_f)), (a0_29, .inl (a0_29_c, 48, .inl a0_29_f)), (a0_30, .inl (a0_30_c, 48, .inl a0_30_f)), (a0_31, .inl (a0_31_c, 48, .inl a0_31_f)), (a0_32, .inl (a0_32_c, 24, .inl a0_32_f)), (a0_33, .inl (a0_33_c, 24, .inl a0_33_f)), (a0_34, .inl (a0_34_c, 72, .inl a0_34_f)), (a0_35, .inl (a0_35_c, 24, .inl a0_35_f)), (a0_38, .inl (a0_38_c, 176, .inl a0_38_f))] sz) U)) (va_Qi (fun (r : Int32) (u : Int32) => u = r) (fun (u : Int32) (t : State) => ∃ (za0_1 : Int32) (za0_2 : Int32) (za0_3 : Int32), va_P (dC, dI) vwCl [(a0, .inr (8, [.int a0_0, .int za0_1, .int za0_2, .int za0_3, .ref a0_4, .int a0_5, .int a0_6, .int a0_7, .int a0_8, .int a0_9, .int a0_10, .long a0_11, .int a0_12, .int a0_13, .int a0_14, .int a0_15, .int a0_16, .int a0_17, .ref a0_18, .ref a0_19, .ref a0_20, .ref a0_21, .ref a0_22, .ref a0_23, .ref a0_24, .ref a0_25, .ref a0_26, .ref a0_27, .ref a0_28, .ref a0_29, .ref a0_30, .ref a0_31, .ref a0_32, .ref a0_33, .ref a0_34, .ref a0_35, .long a0_36, .int a0_37, .ref a0_38, .ref a0_39, .int a0_40, .ref a0_41, .ref a0_42, .ref a0_43])), (a0_20, .inl (a0_20_c, 2, .inl a0_20_f)), (a0_21, .inl (a0_21_c, 2, .inl a0_21_f)), (a0_23, .inl (a0_23_c, 16, .inl a0_23_f)), (a0_26, .inl (a0_26_c, 8, .inl a0_26_f)), (a0_29, .inl (a0_29_c, 48, .inl a0_29_f)), (a0_30, .inl (a0_30_c, 48, .inl a0_30_f)), (a0_31, .inl (a0_31_c, 48, .inl a0_31_f)), (a0_32, .inl (a0_32_c, 24, .inl a0_32_f)), (a0_33, .inl (a0_33_c, 24, .inl a0_33_f)), (a0_34, .inl (a0_34_c, 72, .inl a0_34_f)), (a0_35, .inl (a0_35_c, 24, .inl a0_35_f)), (a0_38, .inl (a0_38_c, 176, .inl a0_38_f))] t.heap ∧ va_K (dC, dI) vwCl [] t ∧ va_D (va_A [(a0, .inr (8, [.int a0_0, .int a0_1, .int a0_2, .int a0_3, .ref a0_4, .int a0_5, .int a0_6, .int a0_7, .int a0_8, .int a0_9, .int a0_10, .long a0_11, .int a0_12, .int a0_13, .int a0_14, .int a0_15, .int a0_16, .int a0_17, .ref a0_18, .ref a0_19, .ref a0_20, .ref a0_21, .ref a0_22, .ref a0_23, .ref a0_24, .ref a0_25, .ref a0_26, .ref a0_27, .ref a0_28, .ref a0_29, .ref a0_30, .ref a0_31, .ref a0_32, .ref a0_33, .ref a0_34, .ref a0_35, .long a0_36, .int a0_37, .ref a0_38, .ref a0_39, .int a0_40, .ref a0_41, .ref a0_42, .ref a0_43])), (a0_20, .inl (a0_20_c, 2, .inl a0_20_f)), (a0_21, .inl (a0_21_c, 2, .inl a0_21_f)), (a0_23, .inl (a0_23_c, 16, .inl a0_23_f)), (a0_26, .inl (a0_26_c, 8, .inl a0_26_f)), (a0_29, .inl (a0_29_c, 48, .inl a0_29_f)), (a0_30, .inl (a0_30_c, 48, .inl a0_30_f)), (a0_31, .inl (a0_31_c, 48, .inl a0_31_f)), (a0_32, .inl (a0_32_c, 24, .inl a0_32_f)), (a0_33, .inl (a0_33_c, 24, .inl a0_33_f)), (a0_34, .inl (a0_34_c, 72, .inl a0_34_f)), (a0_35, .inl (a0_35_c, 24, .inl a0_35_f)), (a0_38, .inl (a0_38_c, 176, .inl a0_38_f))] sz) [(a0, .inr (8, [.int a0_0, .int za0_1, .int za0_2, .int za0_3, .ref a0_4, .int a0_5, .int a0_6, .int a0_7, .int a0_8, .int a0_9, .int a0_10, .long a0_11, .int a0_12, .int a0_13, .int a0_14, .int a0_15, .int a0_16, .int a0_17, .ref a0_18, .ref a0_19, .ref a0_20, .ref a0_21, .ref a0_22, .ref a0_23, .ref a0_24, .ref a0_25, .ref a0_26, .ref a0_27, .ref a0_28, .ref a0_29, .ref a0_30, .ref a0_31, .ref a0_32, .ref a0_33, .ref a0_34, .ref a0_35, .long a0_36, .int a0_37, .ref a0_38, .ref a0_39, .int a0_40, .ref a0_41, .ref a0_42, .ref a0_43])), (a0_20, .inl (a0_20_c, 2, .inl a0_20_f)), (a0_21, .inl (a0_21_c, 2, .inl a0_21_f)), (a0_23, .inl (a0_23_c, 16, .inl a0_23_f)), (a0_26, .inl (a0_26_c, 8, .inl a0_26_f)), (a0_29, .inl (a0_29_c, 48, .inl a0_29_f)), (a0_30, .inl (a0_30_c, 48, .inl a0_30_f)), (a0_31, .inl (a0_31_c, 48, .inl a0_31_f)), (a0_32, .inl (a0_32_c, 24, .inl a0_32_f)), (a0_33, .inl (a0_33_c, 24, .inl a0_33_f)), (a0_34, .inl (a0_34_c, 72, .inl a0_34_f)), (a0_35, .inl (a0_35_c, 24, .inl a0_35_f)), (a0_38, .inl (a0_38_c, 176, .inl a0_38_f))]) (va_A [(a0, .inr (8, [.int a0_0, .int a0_1, .int a0_2, .int a0_3, .ref a0_4, .int a0_5, .int a0_6, .int a0_7, .int a0_8, .int a0_9, .int a0_10, .long a0_11, .int a0_12, .int a0_13, .int a0_14, .int a0_15, .int a0_16, .int a0_17, .ref a0_18, .ref a0_19, .ref a0_20, .ref a0_21, .ref a0_22, .ref a0_23, .ref a0_24, .ref a0_25, .ref a0_26, .ref a0_27, .ref a0_28, .ref a0_29, .ref a0_30, .ref a0_31, .ref a0_32, .ref a0_33, .ref a0_34, .ref a0_35, .long a0_36, .int a0_37, .ref a0_38, .ref a0_39, .int a0_40, .ref a0_41, .ref a0_42, .ref a0_43])), (a0_20, .inl (a0_20_c, 2, .inl a0_20_f)), (a0_21, .inl (a0_21_c, 2, .inl a0_21_f)), (a0_23, .inl (a0_23_c, 16, .inl a0_23_f)), (a0_26, .inl (a0_26_c, 8, .inl a0_26_f)), (a0_29, .inl (a0_29_c, 48, .inl a0_29_f)), (a0_30, .inl (a0_30_c, 48, .inl a0_30_f)), (a0_31, .inl (a0_31_c, 48, .inl a0_31_f)), (a0_32, .inl (a0_32_c, 24, .inl a0_32_f)), (a0_33, .inl (a0_33_c, 24, .inl a0_33_f)), (a0_34, .inl (a0_34_c, 72, .inl a0_34_f)), (a0_35, .inl (a0_35_c, 24, .inl a0_35_f)), (a0_38, .inl (a0_38_c, 176, .inl a0_38_f))] sz)) 0 0 (va_A [(a0, .inr (8, [.int a0_0, .int a0_1, .int a0_2, .int a0_3, .ref a0_4, .int a0_5, .int a0_6, .int a0_7, .int a0_8, .int a0_9, .int a0_10, .long a0_11, .int a0_12, .int a0_13, .int a0_14, .int a0_15, .int a0_16, .int a0_17, .ref a0_18, .ref a0_19, .ref a0_20, .ref a0_21, .ref a0_22, .ref a0_23, .ref a0_24, .ref a0_25, .ref a0_26, .ref a0_27, .ref a0_28, .ref a0_29, .ref a0_30, .ref a0_31, .ref a0_32, .ref a0_33, .ref a0_34, .ref a0_35, .long a0_36, .int a0_37, .ref a0_38, .ref a0_39, .int a0_40, .ref a0_41, .ref a0_42, .ref a0_43])), (a0_20, .inl (a0_20_c, 2, .inl a0_20_f)), (a0_21, .inl (a0_21_c, 2, .inl a0_21_f)), (a0_23, .inl (a0_23_c, 16, .inl a0_23_f)), (a0_26, .inl (a0_26_c, 8, .inl a0_26_f)), (a0_29, .inl (a0_29_c, 48, .inl a0_29_f)), (a0_30, .inl (a0_30_c, 48, .inl a0_30_f)), (a0_31, .inl (a0_31_c, 48, .inl a0_31_f)), (a0_32, .inl (a0_32_c, 24, .inl a0_32_f)), (a0_33, .inl (a0_33_c, 24, .inl a0_33_f)), (a0_34, .inl (a0_34_c, 72, .inl a0_34_f)), (a0_35, .inl (a0_35_c, 24, .inl a0_35_f)), (a0_38, .inl (a0_38_c, 176, .inl a0_38_f))] sz) := by
  refine Met.ofW (cc := cX9_closes) (maxL := 4) (ret := (some .int)) (by decide) rfl ?_
  intro p e s m args below meth c s₁ B hml hv
  obtain ⟨rfl, hsz, hP, hK, hD0, hE⟩ := hv
  have hx := B.exec
  have hb := B.bytes
  have hr := B.returns
  have hts0 := atoms_spec (ws := (.code yX9_closes cX9_closes 4 (some .int) :: TBL)) B.pre
  have hts := fun (w : Cond) (h : w ∈ TBL) => hts0 w (List.mem_cons_of_mem _ h)
  have hown : s.vm.findClass RX9 = some m.cls := findClass_of_methodNamed B.named
  have hlocks := B.notSynchronized
  have hN := hE.1
  subst hsz
  have hD := hD0.self (sz := s.heap.size)
  generalize hAe : va_A [(a0, .inr (8, [.int a0_0, .int a0_1, .int a0_2, .int a0_3, .ref a0_4, .int a0_5, .int a0_6, .int a0_7, .int a0_8, .int a0_9, .int a0_10, .long a0_11, .int a0_12, .int a0_13, .int a0_14, .int a0_15, .int a0_16, .int a0_17, .ref a0_18, .ref a0_19, .ref a0_20, .ref a0_21, .ref a0_22, .ref a0_23, .ref a0_24, .ref a0_25, .ref a0_26, .ref a0_27, .ref a0_28, .ref a0_29, .ref a0_30, .ref a0_31, .ref a0_32, .ref a0_33, .ref a0_34, .ref a0_35, .long a0_36, .int a0_37, .ref a0_38, .ref a0_39, .int a0_40, .ref a0_41, .ref a0_42, .ref a0_43])), (a0_20, .inl (a0_20_c, 2, .inl a0_20_f)), (a0_21, .inl (a0_21_c, 2, .inl a0_21_f)), (a0_23, .inl (a0_23_c, 16, .inl a0_23_f)), (a0_26, .inl (a0_26_c, 8, .inl a0_26_f)), (a0_29, .inl (a0_29_c, 48, .inl a0_29_f)), (a0_30, .inl (a0_30_c, 48, .inl a0_30_f)), (a0_31, .inl (a0_31_c, 48, .inl a0_31_f)), (a0_32, .inl (a0_32_c, 24, .inl a0_32_f)), (a0_33, .inl (a0_33_c, 24, .inl a0_33_f)), (a0_34, .inl (a0_34_c, 72, .inl a0_34_f)), (a0_35, .inl (a0_35_c, 24, .inl a0_35_f)), (a0_38, .inl (a0_38_c, 176, .inl a0_38_f))] s.heap.size = A at hD hE ⊢
  have hA : ∀ q : Nat, s.heap.size ≤ q → A q := fun q h => by rw [← hAe]; exact Or.inr h
  have hS : va_S A s.heap s.heap [] := va_S.rf
  replace hP : va_P (dC, dI) vwCl [(a0, .inr (8, [.int a0_0, .int a0_1, .int a0_2, .int a0_3, .ref a0_4, .int a0_5, .int a0_6, .int a0_7, .int a0_8, .int a0_9, .int a0_10, .long a0_11, .int a0_12, .int a0_13, .int a0_14, .int a0_15, .int a0_16, .int a0_17, .ref a0_18, .ref a0_19, .ref a0_20, .ref a0_21, .ref a0_22, .ref a0_23, .ref a0_24, .ref a0_25, .ref a0_26, .ref a0_27, .ref a0_28, .ref a0_29, .ref a0_30, .ref a0_31, .ref a0_32, .ref a0_33, .ref a0_34, .ref a0_35, .long a0_36, .int a0_37, .ref a0_38, .ref a0_39, .int a0_40, .ref a0_41, .ref a0_42, .ref a0_43])), (a0_20, .inl (a0_20_c, 2, .inl a0_20_f)), (a0_21, .inl (a0_21_c, 2, .inl a0_21_f)), (a0_23, .inl (a0_23_c, 16, .inl a0_23_f)), (a0_26, .inl (a0_26_c, 8, .inl a0_26_f)), (a0_29, .inl (a0_29_c, 48, .inl a0_29_f)), (a0_30, .inl (a0_30_c, 48, .inl a0_30_f)), (a0_31, .inl (a0_31_c, 48, .inl a0_31_f)), (a0_32, .inl (a0_32_c, 24, .inl a0_32_f)), (a0_33, .inl (a0_33_c, 24, .inl a0_33_f)), (a0_34, .inl (a0_34_c, 72, .inl a0_34_f)), (a0_35, .inl (a0_35_c, 24, .inl a0_35_f)), (a0_38, .inl (a0_38_c, 176, .inl a0_38_f))] s.heap := hP
  have hl := lv_entry ([.ref a0, .int a1]) (n := 4) (Nat.le_of_ble_eq_true rfl)
  rw [lg_entry_eq]
  generalize (lg_sl ([.ref a0, .int a1]) ++ List.replicate (4 - (lg_sl ([.ref a0, .int a1])).length) Slot.unset).toArray = ls at hl ⊢
  have hl : lv_has ls 4 [(0, .ref a0), (1, .int a1)] := hl
  have b_a1 := i32b a1
  have b_a0_0 := i32b a0_0
  have b_a0_1 := i32b a0_1
  have b_a0_2 := i32b a0_2
  have b_a0_3 := i32b a0_3
  have b_a0_9 := i32b a0_9
  have b_a0_10 := i32b a0_10
  have b_a0_12 := i32b a0_12
  have b_a0_13 := i32b a0_13
  have b_a0_14 := i32b a0_14
  have b_a0_15 := i32b a0_15
  have b_a0_16 := i32b a0_16
  have hp20 := vr_at h_a0_20_f (k := 0) rfl
  have hp21 := vr_at h_a0_21_f (k := 0) rfl
  refine lv_iconst (v := 0) hx hb dX9_closes_0 (by decide) ?_
  refine lv_istore_n (lv' := [(2, .int 0), (0, .ref a0), (1, .int a1)]) hx hb dX9_closes_1 rfl hl (by decide) rfl (fun ls hl => ?_)
  refine lv_iconst (v := 0) hx hb dX9_closes_2 (by decide) ?_
  refine lv_istore_n (lv' := [(3, .int 0), (2, .int 0), (0, .ref a0), (1, .int a1)]) hx hb dX9_closes_3 rfl hl (by decide) rfl (fun ls hl => ?_)
  have qc0 : (0 : Int32).toInt = 0 := by decide
  refine wloop (fun n H locs ls => ∃ (l4_3 : Int32) (l4_2 : Int32) (f4_0_1 : Int32) (f4_0_2 : Int32) (f4_0_3 : Int32), n = (2147483647 - l4_3.toInt).toNat ∧ (0 ≤ l4_3.toInt) ∧ lv_has ls 4 [(3, .int l4_3), (2, .int l4_2), (0, .ref a0), (1, .int a1)] ∧ va_P (dC, dI) vwCl [(a0, .inr (8, [.int a0_0, .int f4_0_1, .int f4_0_2, .int f4_0_3, .ref a0_4, .int a0_5, .int a0_6, .int a0_7, .int a0_8, .int a0_9, .int a0_10, .long a0_11, .int a0_12, .int a0_13, .int a0_14, .int a0_15, .int a0_16, .int a0_17, .ref a0_18, .ref a0_19, .ref a0_20, .ref a0_21, .ref a0_22, .ref a0_23, .ref a0_24, .ref a0_25, .ref a0_26, .ref a0_27, .ref a0_28, .ref a0_29, .ref a0_30, .ref a0_31, .ref a0_32, .ref a0_33, .ref a0_34, .ref a0_35, .long a0_36, .int a0_37, .ref a0_38, .ref a0_39, .int a0_40, .ref a0_41, .ref a0_42, .ref a0_43])), (a0_20, .inl (a0_20_c, 2, .inl a0_20_f)), (a0_21, .inl (a0_21_c, 2, .inl a0_21_f)), (a0_23, .inl (a0_23_c, 16, .inl a0_23_f)), (a0_26, .inl (a0_26_c, 8, .inl a0_26_f)), (a0_29, .inl (a0_29_c, 48, .inl a0_29_f)), (a0_30, .inl (a0_30_c, 48, .inl a0_30_f)), (a0_31, .inl (a0_31_c, 48, .inl a0_31_f)), (a0_32, .inl (a0_32_c, 24, .inl a0_32_f)), (a0_33, .inl (a0_33_c, 24, .inl a0_33_f)), (a0_34, .inl (a0_34_c, 72, .inl a0_34_f)), (a0_35, .inl (a0_35_c, 24, .inl a0_35_f)), (a0_38, .inl (a0_38_c, 176, .inl a0_38_f))] H ∧ va_D A [(a0, .inr (8, [.int a0_0, .int f4_0_1, .int f4_0_2, .int f4_0_3, .ref a0_4, .int a0_5, .int a0_6, .int a0_7, .int a0_8, .int a0_9, .int a0_10, .long a0_11, .int a0_12, .int a0_13, .int a0_14, .int a0_15, .int a0_16, .int a0_17, .ref a0_18, .ref a0_19, .ref a0_20, .ref a0_21, .ref a0_22, .ref a0_23, .ref a0_24, .ref a0_25, .ref a0_26, .ref a0_27, .ref a0_28, .ref a0_29, .ref a0_30, .ref a0_31, .ref a0_32, .ref a0_33, .ref a0_34, .ref a0_35, .long a0_36, .int a0_37, .ref a0_38, .ref a0_39, .int a0_40, .ref a0_41, .ref a0_42, .ref a0_43])), (a0_20, .inl (a0_20_c, 2, .inl a0_20_f)), (a0_21, .inl (a0_21_c, 2, .inl a0_21_f)), (a0_23, .inl (a0_23_c, 16, .inl a0_23_f)), (a0_26, .inl (a0_26_c, 8, .inl a0_26_f)), (a0_29, .inl (a0_29_c, 48, .inl a0_29_f)), (a0_30, .inl (a0_30_c, 48, .inl a0_30_f)), (a0_31, .inl (a0_31_c, 48, .inl a0_31_f)), (a0_32, .inl (a0_32_c, 24, .inl a0_32_f)), (a0_33, .inl (a0_33_c, 24, .inl a0_33_f)), (a0_34, .inl (a0_34_c, 72, .inl a0_34_f)), (a0_35, .inl (a0_35_c, 24, .inl a0_35_f)), (a0_38, .inl (a0_38_c, 176, .inl a0_38_f))] ∧ va_S A s.heap H locs) ?_ ((2147483647 - (0 : Int32).toInt).toNat) _ _ _ ⟨0, 0, a0_1, a0_2, a0_3, rfl, (by omega), lv_sub hl [0, 1, 2, 3] rfl, hP, hD, hS⟩
  intro n4 H locs ls hI ih4
  obtain ⟨l4_3, l4_2, f4_0_1, f4_0_2, f4_0_3, hn4, g_l4_3, hl, hP, hD, hS⟩ := hI
  have b_l4_3 := i32b l4_3
  have b_l4_2 := i32b l4_2
  have b_f4_0_1 := i32b f4_0_1
  have b_f4_0_2 := i32b f4_0_2
  have b_f4_0_3 := i32b f4_0_3
  refine lv_iload_n hx hb dX9_closes_4 rfl (lv_at hl 0 rfl) ?_
  refine lv_aload_n hx hb dX9_closes_5 rfl (lv_at hl 2 rfl) ?_
  refine va_get (D := (dC, dI)) (ci := 8) (v := .ref a0_20) (C := RX9) (T := TX9) (N := 44) hx hb hts inlX9 hown hK hP 0 rgL13_890e5ad rfl 20 (by decide) (hts (.fieldLink RX9 20 "ClosedUntilModel" "pieces" "[I") qw_439) (fun _ h9 => h9) rfl dX9_closes_6 ?_
  refine lv_iconst (v := 0) hx hb dX9_closes_9 (by decide) ?_
  refine va_iald hx hb hK hP 1 0 rgL13_042e8a6 rgT12_6037471 (vin0 (by decide)) dX9_closes_10 ?_
  refine lv_topi (fun x1 e_x1 => ?_)
  have q_x1 : x1.toInt = (a0_20_f 0).toInt := congrArg Int32.toInt e_x1
  have b_x1 : 0 ≤ x1.toInt ∧ x1.toInt ≤ 24 := vr_at (lo := 0) (hi := 24) (f := a0_20_f) h_a0_20_f e_x1
  refine lv_icmp_ge (tgt := 39) hx hb dX9_closes_11 (by decide) (fun c11_2 => ?_) (fun c11_2 => ?_)
  · have c11_2 : x1.toInt ≤ l4_3.toInt := (cv_le rfl rfl).mp c11_2
    refine lv_iload_n hx hb dX9_closes_39 rfl (lv_at hl 1 rfl) ?_
    refine W.widen (k := 0) (n := 0) (Nat.le_of_ble_eq_true rfl) (Nat.le_of_ble_eq_true rfl) ?_
    have hP9 := hP
    have hD9 := hD
    have hK9 := (rgK12_8728a0f hK)
    exact W.iret (v := l4_2) hx hb hr (fun t ht hW => ⟨⟨l4_2, l4_2, rfl, rfl, f4_0_1, f4_0_2, f4_0_3, atB ht hP9, va_K.moved hW.alike hK9, hD9⟩, hS.F ht⟩) hS.2.2 dX9_closes_40
  · have c11_2 : ¬ (x1.toInt ≤ l4_3.toInt) := mt (cv_le rfl rfl).mpr c11_2
    refine lv_iload_n hx hb dX9_closes_14 rfl (lv_at hl 1 rfl) ?_
    refine lv_aload_n hx hb dX9_closes_15 rfl (lv_at hl 2 rfl) ?_
    refine lv_iload_n hx hb dX9_closes_16 rfl (lv_at hl 3 rfl) ?_
    refine lv_iload_n hx hb dX9_closes_17 rfl (lv_at hl 0 rfl) ?_
    have hPc := (rgP13_87d50a7 hP)
    have hKc := (rgK12_948a3ee hK)
    have hDc := (rgD13_53497a6 hD)
    have hFc := freeW hDc hS hA
    refine va_calli (va_runV (As := [.int a1, .int l4_3]) (rest := [.int l4_2]) ⟨hx, hb, hml, hown, hts⟩ (k_X9_endsOf l dC dI g H.size (a0) (a1) (l4_3) (a0_0) (f4_0_1) (f4_0_2) (f4_0_3) (a0_4) (a0_5) (a0_6) (a0_7) (a0_8) (a0_9) (a0_10) (a0_11) (a0_12) (a0_13) (a0_14) (a0_15) (a0_16) (a0_17) (a0_18) (a0_19) (a0_20) (a0_21) (a0_22) (a0_23) (a0_24) (a0_25) (a0_26) (a0_27) (a0_28) (a0_29) (a0_30) (a0_31) (a0_32) (a0_33) (a0_34) (a0_35) (a0_36) (a0_37) (a0_38) (a0_39) (a0_40) (a0_41) (a0_42) (a0_43) (a0_23_c) (a0_23_f) (a0_26_c) (a0_26_f) (a0_29_c) (a0_29_f) (a0_30_c) (a0_30_f) (a0_31_c) (a0_31_f) (a0_32_c) (a0_32_f) (a0_33_c) (a0_33_f) (a0_34_c) (a0_34_f) (a0_35_c) (a0_35_f) (a0_38_c) (a0_38_f) ((a0_20_f 0).toInt) ((a0_21_f 0).toInt) (by omega) (by omega) (by omega) (by omega) (by omega) (by omega) (by omega) (by omega) (by assumption) (by omega) (by assumption) (by omega) (by omega)) (cwV 2 hts (gwV qw_532 qw_533 qw_534 qw_386 qw_531) rfl rfl rfl (by decide +kernel) ⟨Nat.le_of_ble_eq_true rfl, Nat.le_of_ble_eq_true rfl⟩) ⟨fun a U g9 mk q => ⟨q.1, q.2.1, q.2.2.1, va_K.moved (u := U) (U := U.calling g9 mk a) (Vm.Alike.refl U.vm) q.2.2.2.1, q.2.2.2.2.1, Ev.bl q.2.2.2.2.2⟩, va_recv hK hP (ci := 8) (q0 := 0) rfl rgL13_890e5ad, fun U hU hW => ⟨rfl, by rw [hU], atB hU hPc, va_K.moved hW.alike hKc, hDc.weaken (fun _ _ _ _ => trivial), hE.go hS hFc hU hW⟩⟩ rfl rfl hl.1 rfl (lv_room (Nat.le_of_ble_eq_true rfl)) dX9_closes_18 ⟨Nat.le_of_ble_eq_true rfl, Nat.le_of_ble_eq_true rfl⟩) hS (fun q _ h => hFc q h) hFc (fun r4 u3 t H1 locs ht hvm h_u3 hB hz1 hk1 hS => ?_)
    obtain ⟨za0_1_5, za0_2_6, za0_3_7, hP1, hK1, hD1⟩ := hB
    have hK1 := va_K.moved hvm.symm hK1
    have hJ9 := rgJ13_1725318 hP hD hk1 hFc (atH ht hP1) hD1
    clear hP hD hPc hKc hDc hFc hP1 hD1 hk1 hz1
    obtain ⟨hP, hD⟩ := hJ9
    clear hK1
    generalize H1 = H at hP hS ⊢
    refine W.widen (k := 0) (n := 0) (Nat.le_of_ble_eq_true rfl) (Nat.le_of_ble_eq_true rfl) ?_
    have h_r4 := congrArg Int32.toInt h_u3
    have b_r4 := i32b r4
    refine lv_if_lt (tgt := 30) hx hb dX9_closes_21 (by decide) (fun c21_8 => ?_) (fun c21_8 => ?_)
    · have c21_8 : r4.toInt < 0 := (cv_lt rfl (by decide)).mp c21_8
      refine lv_iconst (v := 0) hx hb dX9_closes_30 (by decide) ?_
      refine lv_ior hx hb dX9_closes_31 ?_
      refine lv_topi (fun x9 e_x9 => ?_)
      refine lv_istore_n (lv' := [(2, .int x9), (3, .int l4_3), (0, .ref a0), (1, .int a1)]) hx hb dX9_closes_32 rfl hl (by decide) rfl (fun ls hl => ?_)
      obtain ⟨x10, e_x10⟩ : ∃ y : Int32, y = l4_3 + 1 := ⟨_, rfl⟩
      refine lv_iinc (v := x10) (lv' := [(3, .int x10), (2, .int x9), (0, .ref a0), (1, .int a1)]) hx hb dX9_closes_33 hl (k := 1) rfl (by rw [e_x10]; rfl) (by decide) rfl (fun ls hl => ?_)
      try have e_x10 := ti_add e_x10 rfl (show (1 : Int32).toInt = 1 by decide) (by omega)
      refine lv_goto (tgt := 4) hx hb dX9_closes_36 (by decide) ?_
      exact ih4 ((2147483647 - x10.toInt).toNat) _ _ _ (by omega) ⟨x10, x9, za0_1_5, za0_2_6, za0_3_7, rfl, (by omega), lv_sub hl [0, 1, 2, 3] rfl, hP, hD, hS⟩
    · have c21_8 : ¬ (r4.toInt < 0) := mt (cv_lt rfl (by decide)).mpr c21_8
      refine lv_iconst (v := 1) hx hb dX9_closes_24 (by decide) ?_
      refine lv_iload_n hx hb dX9_closes_25 rfl (lv_at hl 0 rfl) ?_
      refine lv_ishl hx hb dX9_closes_26 ?_
      refine lv_topi (fun x11 e_x11 => ?_)
      refine lv_goto (tgt := 31) hx hb dX9_closes_27 (by decide) ?_
      refine lv_ior hx hb dX9_closes_31 ?_
      refine lv_topi (fun x12 e_x12 => ?_)
      refine lv_istore_n (lv' := [(2, .int x12), (3, .int l4_3), (0, .ref a0), (1, .int a1)]) hx hb dX9_closes_32 rfl hl (by decide) rfl (fun ls hl => ?_)
      obtain ⟨x13, e_x13⟩ : ∃ y : Int32, y = l4_3 + 1 := ⟨_, rfl⟩
      refine lv_iinc (v := x13) (lv' := [(3, .int x13), (2, .int x12), (0, .ref a0), (1, .int a1)]) hx hb dX9_closes_33 hl (k := 1) rfl (by rw [e_x13]; rfl) (by decide) rfl (fun ls hl => ?_)
      try have e_x13 := ti_add e_x13 rfl (show (1 : Int32).toInt = 1 by decide) (by omega)
      refine lv_goto (tgt := 4) hx hb dX9_closes_36 (by decide) ?_
      exact ih4 ((2147483647 - x13.toInt).toNat) _ _ _ (by omega) ⟨x13, x12, za0_1_5, za0_2_6, za0_3_7, rfl, (by omega), lv_sub hl [0, 1, 2, 3] rfl, hP, hD, hS⟩
set_option maxHeartbeats 4000000 in
set_option maxRecDepth 100000 in
theorem k_X9_laysEnds (l : Launch) (dC : Nat → ClassId) (dI : Nat → Nat → Nat) (g : Gv) (sz : Nat) (a0 : Nat) (a0_0 : Int32) (a0_1 : Int32) (a0_2 : Int32) (a0_3 : Int32) (a0_4 : Nat) (a0_5 : Int32) (a0_6 : Int32) (a0_7 : Int32) (a0_8 : Int32) (a0_9 : Int32) (a0_10 : Int32) (a0_11 : Int64) (a0_12 : Int32) (a0_13 : Int32) (a0_14 : Int32) (a0_15 : Int32) (a0_16 : Int32) (a0_17 : Int32) (a0_18 : Nat) (a0_19 : Nat) (a0_20 : Nat) (a0_21 : Nat) (a0_22 : Nat) (a0_23 : Nat) (a0_24 : Nat) (a0_25 : Nat) (a0_26 : Nat) (a0_27 : Nat) (a0_28 : Nat) (a0_29 : Nat) (a0_30 : Nat) (a0_31 : Nat) (a0_32 : Nat) (a0_33 : Nat) (a0_34 : Nat) (a0_35 : Nat) (a0_36 : Int64) (a0_37 : Int32) (a0_38 : Nat) (a0_39 : Nat) (a0_40 : Int32) (a0_41 : Nat) (a0_42 : Nat) (a0_43 : Nat) (a0_20_c : ClassId) (a0_20_f : Nat → Int32) (a0_21_c : ClassId) (a0_21_f : Nat → Int32) (a0_23_c : ClassId) (a0_23_f : Nat → Int32) (a0_26_c : ClassId) (a0_26_f : Nat → Int32) (a0_29_c : ClassId) (a0_29_f : Nat → Int32) (a0_30_c : ClassId) (a0_30_f : Nat → Int32) (a0_31_c : ClassId) (a0_31_f : Nat → Int32) (a0_32_c : ClassId) (a0_32_f : Nat → Int32) (a0_33_c : ClassId) (a0_33_f : Nat → Int32) (a0_34_c : ClassId) (a0_34_f : Nat → Int32) (a0_35_c : ClassId) (a0_35_f : Nat → Int32) (a0_38_c : ClassId) (a0_38_f : Nat → Int32) (a0_43_c : ClassId) (a0_43_f : Nat → Int32) (h_a0_5 : 0 ≤ a0_5.toInt ∧ a0_5.toInt ≤ 1000) (h_a0_6 : 0 ≤ a0_6.toInt ∧ a0_6.toInt ≤ 1000) (h_a0_7 : 0 ≤ a0_7.toInt ∧ a0_7.toInt ≤ 1000) (h_a0_8 : 0 ≤ a0_8.toInt ∧ a0_8.toInt ≤ 1000) (h_a0_17 : 0 ≤ a0_17.toInt ∧ a0_17.toInt ≤ 1) (h_a0_37 : (-1) ≤ a0_37.toInt ∧ a0_37.toInt ≤ 23) (h_a0_40 : 0 ≤ a0_40.toInt ∧ a0_40.toInt ≤ 12) (h_a0_20_f : vr 0 24 a0_20_f) (h_a0_21_f : vr 0 12 a0_21_f) (hms : RowOk (a0_20_f 0).toInt a0_38_f 0) (hmw : WOk a0_32_f a0_33_f 0 (a0_21_f 0).toInt) : Met l yX9_laysEnds (.code yX9_laysEnds cX9_laysEnds 3 none :: TBL) ({ frames := 7, cells := 0, slots := 0, locals := 164 }) (va_Pc [.ref a0] (fun U => U.heap.size = sz ∧ va_P (dC, dI) vwCl [(a0, .inr (8, [.int a0_0, .int a0_1, .int a0_2, .int a0_3, .ref a0_4, .int a0_5, .int a0_6, .int a0_7, .int a0_8, .int a0_9, .int a0_10, .long a0_11, .int a0_12, .int a0_13, .int a0_14, .int a0_15, .int a0_16, .int a0_17, .ref a0_18, .ref a0_19, .ref a0_20, .ref a0_21, .ref a0_22, .ref a0_23, .ref a0_24, .ref a0_25, .ref a0_26, .ref a0_27, .ref a0_28, .ref a0_29, .ref a0_30, .ref a0_31, .ref a0_32, .ref a0_33, .ref a0_34, .ref a0_35, .long a0_36, .int a0_37, .ref a0_38, .ref a0_39, .int a0_40, .ref a0_41, .ref a0_42, .ref a0_43])), (a0_20, .inl (a0_20_c, 2, .inl a0_20_f)), (a0_21, .inl (a0_21_c, 2, .inl a0_21_f)), (a0_23, .inl (a0_23_c, 16, .inl a0_23_f)), (a0_26, .inl (a0_26_c, 8, .inl a0_26_f)), (a0_29, .inl (a0_29_c, 48, .inl a0_29_f)), (a0_30, .inl (a0_30_c, 48, .inl a0_30_f)), (a0_31, .inl (a0_31_c, 48, .inl a0_31_f)), (a0_32, .inl (a0_32_c, 24, .inl a0_32_f)), (a0_33, .inl (a0_33_c, 24, .inl a0_33_f)), (a0_34, .inl (a0_34_c, 72, .inl a0_34_f)), (a0_35, .inl (a0_35_c, 24, .inl a0_35_f)), (a0_38, .inl (a0_38_c, 176, .inl a0_38_f)), (a0_43, .inl (a0_43_c, 288, .inl a0_43_f))] U.heap ∧ va_K (dC, dI) vwCl [(a0_20_c, .int), (a0_21_c, .int), (a0_23_c, .int), (a0_26_c, .int), (a0_29_c, .int), (a0_30_c, .int), (a0_31_c, .int), (a0_32_c, .int), (a0_33_c, .int), (a0_34_c, .int), (a0_35_c, .boolean), (a0_38_c, .int), (a0_43_c, .int)] U ∧ va_D (fun _ => True) [(a0, .inr (8, [.int a0_0, .int a0_1, .int a0_2, .int a0_3, .ref a0_4, .int a0_5, .int a0_6, .int a0_7, .int a0_8, .int a0_9, .int a0_10, .long a0_11, .int a0_12, .int a0_13, .int a0_14, .int a0_15, .int a0_16, .int a0_17, .ref a0_18, .ref a0_19, .ref a0_20, .ref a0_21, .ref a0_22, .ref a0_23, .ref a0_24, .ref a0_25, .ref a0_26, .ref a0_27, .ref a0_28, .ref a0_29, .ref a0_30, .ref a0_31, .ref a0_32, .ref a0_33, .ref a0_34, .ref a0_35, .long a0_36, .int a0_37, .ref a0_38, .ref a0_39, .int a0_40, .ref a0_41, .ref a0_42, .ref a0_43])), (a0_20, .inl (a0_20_c, 2, .inl a0_20_f)), (a0_21, .inl (a0_21_c, 2, .inl a0_21_f)), (a0_23, .inl (a0_23_c, 16, .inl a0_23_f)), (a0_26, .inl (a0_26_c, 8, .inl a0_26_f)), (a0_29, .inl (a0_29_c, 48, .inl a0_29_f)), (a0_30, .inl (a0_30_c, 48, .inl a0_30_f)), (a0_31, .inl (a0_31_c, 48, .inl a0_31_f)), (a0_32, .inl (a0_32_c, 24, .inl a0_32_f)), (a0_33, .inl (a0_33_c, 24, .inl a0_33_f)), (a0_34, .inl (a0_34_c, 72, .inl a0_34_f)), (a0_35, .inl (a0_35_c, 24, .inl a0_35_f)), (a0_38, .inl (a0_38_c, 176, .inl a0_38_f)), (a0_43, .inl (a0_43_c, 288, .inl a0_43_f))] ∧ Ev g (va_A [(a0, .inr (8, [.int a0_0, .int a0_1, .int a0_2, .int a0_3, .ref a0_4, .int a0_5, .int a0_6, .int a0_7, .int a0_8, .int a0_9, .int a0_10, .long a0_11, .int a0_12, .int a0_13, .int a0_14, .int a0_15, .int a0_16, .int a0_17, .ref a0_18, .ref a0_19, .ref a0_20, .ref a0_21, .ref a0_22, .ref a0_23, .ref a0_24, .ref a0_25, .ref a0_26, .ref a0_27, .ref a0_28, .ref a0_29, .ref a0_30, .ref a0_31, .ref a0_32, .ref a0_33, .ref a0_34, .ref a0_35, .long a0_36, .int a0_37, .ref a0_38, .ref a0_39, .int a0_40, .ref a0_41, .ref a0_42, .ref a0_43])), (a0_20, .inl (a0_20_c, 2, .inl a0_20_f)), (a0_21, .inl (a0_21_c, 2, .inl a0_21_f)), (a0_23, .inl (a0_23_c, 16, .inl a0_23_f)), (a0_26, .inl (a0_26_c, 8, .inl a0_26_f)), (a0_29, .inl (a0_29_c, 48, .inl a0_29_f)), (a0_30, .inl (a0_30_c, 48, .inl a0_30_f)), (a0_31, .inl (a0_31_c, 48, .inl a0_31_f)), (a0_32, .inl (a0_32_c, 24, .inl a0_32_f)), (a0_33, .inl (a0_33_c, 24, .inl a0_33_f)), (a0_34, .inl (a0_34_c, 72, .inl a0_34_f)), (a0_35, .inl (a0_35_c, 24, .inl a0_35_f)), (a0_38, .inl (a0_38_c, 176, .inl a0_38_f)), (a0_43, .inl (a0_43_c, 288, .inl a0_43_f))] sz) U)) (va_Qv (fun (_ : Unit) => True) (fun (_ : Unit) (t : State) => ∃ (za0_1 : Int32) (za0_2 : Int32) (za0_3 : Int32) (za0_43_f : Nat → Int32), va_P (dC, dI) vwCl [(a0, .inr (8, [.int a0_0, .int za0_1, .int za0_2, .int za0_3, .ref a0_4, .int a0_5, .int a0_6, .int a0_7, .int a0_8, .int a0_9, .int a0_10, .long a0_11, .int a0_12, .int a0_13, .int a0_14, .int a0_15, .int a0_16, .int a0_17, .ref a0_18, .ref a0_19, .ref a0_20, .ref a0_21, .ref a0_22, .ref a0_23, .ref a0_24, .ref a0_25, .ref a0_26, .ref a0_27, .ref a0_28, .ref a0_29, .ref a0_30, .ref a0_31, .ref a0_32, .ref a0_33, .ref a0_34, .ref a0_35, .long a0_36, .int a0_37, .ref a0_38, .ref a0_39, .int a0_40, .ref a0_41, .ref a0_42, .ref a0_43])), (a0_20, .inl (a0_20_c, 2, .inl a0_20_f)), (a0_21, .inl (a0_21_c, 2, .inl a0_21_f)), (a0_23, .inl (a0_23_c, 16, .inl a0_23_f)), (a0_26, .inl (a0_26_c, 8, .inl a0_26_f)), (a0_29, .inl (a0_29_c, 48, .inl a0_29_f)), (a0_30, .inl (a0_30_c, 48, .inl a0_30_f)), (a0_31, .inl (a0_31_c, 48, .inl a0_31_f)), (a0_32, .inl (a0_32_c, 24, .inl a0_32_f)), (a0_33, .inl (a0_33_c, 24, .inl a0_33_f)), (a0_34, .inl (a0_34_c, 72, .inl a0_34_f)), (a0_35, .inl (a0_35_c, 24, .inl a0_35_f)), (a0_38, .inl (a0_38_c, 176, .inl a0_38_f)), (a0_43, .inl (a0_43_c, 288, .inl za0_43_f))] t.heap ∧ va_K (dC, dI) vwCl [] t ∧ va_D (va_A [(a0, .inr (8, [.int a0_0, .int a0_1, .int a0_2, .int a0_3, .ref a0_4, .int a0_5, .int a0_6, .int a0_7, .int a0_8, .int a0_9, .int a0_10, .long a0_11, .int a0_12, .int a0_13, .int a0_14, .int a0_15, .int a0_16, .int a0_17, .ref a0_18, .ref a0_19, .ref a0_20, .ref a0_21, .ref a0_22, .ref a0_23, .ref a0_24, .ref a0_25, .ref a0_26, .ref a0_27, .ref a0_28, .ref a0_29, .ref a0_30, .ref a0_31, .ref a0_32, .ref a0_33, .ref a0_34, .ref a0_35, .long a0_36, .int a0_37, .ref a0_38, .ref a0_39, .int a0_40, .ref a0_41, .ref a0_42, .ref a0_43])), (a0_20, .inl (a0_20_c, 2, .inl a0_20_f)), (a0_21, .inl (a0_21_c, 2, .inl a0_21_f)), (a0_23, .inl (a0_23_c, 16, .inl a0_23_f)), (a0_26, .inl (a0_26_c, 8, .inl a0_26_f)), (a0_29, .inl (a0_29_c, 48, .inl a0_29_f)), (a0_30, .inl (a0_30_c, 48, .inl a0_30_f)), (a0_31, .inl (a0_31_c, 48, .inl a0_31_f)), (a0_32, .inl (a0_32_c, 24, .inl a0_32_f)), (a0_33, .inl (a0_33_c, 24, .inl a0_33_f)), (a0_34, .inl (a0_34_c, 72, .inl a0_34_f)), (a0_35, .inl (a0_35_c, 24, .inl a0_35_f)), (a0_38, .inl (a0_38_c, 176, .inl a0_38_f)), (a0_43, .inl (a0_43_c, 288, .inl a0_43_f))] sz) [(a0, .inr (8, [.int a0_0, .int za0_1, .int za0_2, .int za0_3, .ref a0_4, .int a0_5, .int a0_6, .int a0_7, .int a0_8, .int a0_9, .int a0_10, .long a0_11, .int a0_12, .int a0_13, .int a0_14, .int a0_15, .int a0_16, .int a0_17, .ref a0_18, .ref a0_19, .ref a0_20, .ref a0_21, .ref a0_22, .ref a0_23, .ref a0_24, .ref a0_25, .ref a0_26, .ref a0_27, .ref a0_28, .ref a0_29, .ref a0_30, .ref a0_31, .ref a0_32, .ref a0_33, .ref a0_34, .ref a0_35, .long a0_36, .int a0_37, .ref a0_38, .ref a0_39, .int a0_40, .ref a0_41, .ref a0_42, .ref a0_43])), (a0_20, .inl (a0_20_c, 2, .inl a0_20_f)), (a0_21, .inl (a0_21_c, 2, .inl a0_21_f)), (a0_23, .inl (a0_23_c, 16, .inl a0_23_f)), (a0_26, .inl (a0_26_c, 8, .inl a0_26_f)), (a0_29, .inl (a0_29_c, 48, .inl a0_29_f)), (a0_30, .inl (a0_30_c, 48, .inl a0_30_f)), (a0_31, .inl (a0_31_c, 48, .inl a0_31_f)), (a0_32, .inl (a0_32_c, 24, .inl a0_32_f)), (a0_33, .inl (a0_33_c, 24, .inl a0_33_f)), (a0_34, .inl (a0_34_c, 72, .inl a0_34_f)), (a0_35, .inl (a0_35_c, 24, .inl a0_35_f)), (a0_38, .inl (a0_38_c, 176, .inl a0_38_f)), (a0_43, .inl (a0_43_c, 288, .inl za0_43_f))]) (va_A [(a0, .inr (8, [.int a0_0, .int a0_1, .int a0_2, .int a0_3, .ref a0_4, .int a0_5, .int a0_6, .int a0_7, .int a0_8, .int a0_9, .int a0_10, .long a0_11, .int a0_12, .int a0_13, .int a0_14, .int a0_15, .int a0_16, .int a0_17, .ref a0_18, .ref a0_19, .ref a0_20, .ref a0_21, .ref a0_22, .ref a0_23, .ref a0_24, .ref a0_25, .ref a0_26, .ref a0_27, .ref a0_28, .ref a0_29, .ref a0_30, .ref a0_31, .ref a0_32, .ref a0_33, .ref a0_34, .ref a0_35, .long a0_36, .int a0_37, .ref a0_38, .ref a0_39, .int a0_40, .ref a0_41, .ref a0_42, .ref a0_43])), (a0_20, .inl (a0_20_c, 2, .inl a0_20_f)), (a0_21, .inl (a0_21_c, 2, .inl a0_21_f)), (a0_23, .inl (a0_23_c, 16, .inl a0_23_f)), (a0_26, .inl (a0_26_c, 8, .inl a0_26_f)), (a0_29, .inl (a0_29_c, 48, .inl a0_29_f)), (a0_30, .inl (a0_30_c, 48, .inl a0_30_f)), (a0_31, .inl (a0_31_c, 48, .inl a0_31_f)), (a0_32, .inl (a0_32_c, 24, .inl a0_32_f)), (a0_33, .inl (a0_33_c, 24, .inl a0_33_f)), (a0_34, .inl (a0_34_c, 72, .inl a0_34_f)), (a0_35, .inl (a0_35_c, 24, .inl a0_35_f)), (a0_38, .inl (a0_38_c, 176, .inl a0_38_f)), (a0_43, .inl (a0_43_c, 288, .inl a0_43_f))] sz)) 0 0 (va_A [(a0, .inr (8, [.int a0_0, .int a0_1, .int a0_2, .int a0_3, .ref a0_4, .int a0_5, .int a0_6, .int a0_7, .int a0_8, .int a0_9, .int a0_10, .long a0_11, .int a0_12, .int a0_13, .int a0_14, .int a0_15, .int a0_16, .int a0_17, .ref a0_18, .ref a0_19, .ref a0_20, .ref a0_21, .ref a0_22, .ref a0_23, .ref a0_24, .ref a0_25, .ref a0_26, .ref a0_27, .ref a0_28, .ref a0_29, .ref a0_30, .ref a0_31, .ref a0_32, .ref a0_33, .ref a0_34, .ref a0_35, .long a0_36, .int a0_37, .ref a0_38, .ref a0_39, .int a0_40, .ref a0_41, .ref a0_42, .ref a0_43])), (a0_20, .inl (a0_20_c, 2, .inl a0_20_f)), (a0_21, .inl (a0_21_c, 2, .inl a0_21_f)), (a0_23, .inl (a0_23_c, 16, .inl a0_23_f)), (a0_26, .inl (a0_26_c, 8, .inl a0_26_f)), (a0_29, .inl (a0_29_c, 48, .inl a0_29_f)), (a0_30, .inl (a0_30_c, 48, .inl a0_30_f)), (a0_31, .inl (a0_31_c, 48, .inl a0_31_f)), (a0_32, .inl (a0_32_c, 24, .inl a0_32_f)), (a0_33, .inl (a0_33_c, 24, .inl a0_33_f)), (a0_34, .inl (a0_34_c, 72, .inl a0_34_f)), (a0_35, .inl (a0_35_c, 24, .inl a0_35_f)), (a0_38, .inl (a0_38_c, 176, .inl a0_38_f)), (a0_43, .inl (a0_43_c, 288, .inl a0_43_f))] sz) := by
  refine Met.ofW (cc := cX9_laysEnds) (maxL := 3) (ret := none) (by decide) rfl ?_
  intro p e s m args below meth c s₁ B hml hv
  obtain ⟨rfl, hsz, hP, hK, hD0, hE⟩ := hv
  have hx := B.exec
  have hb := B.bytes
  have hr := B.returns
  have hts0 := atoms_spec (ws := (.code yX9_laysEnds cX9_laysEnds 3 none :: TBL)) B.pre
  have hts := fun (w : Cond) (h : w ∈ TBL) => hts0 w (List.mem_cons_of_mem _ h)
  have hown : s.vm.findClass RX9 = some m.cls := findClass_of_methodNamed B.named
  have hlocks := B.notSynchronized
  have hN := hE.1
  subst hsz
  have hD := hD0.self (sz := s.heap.size)
  generalize hAe : va_A [(a0, .inr (8, [.int a0_0, .int a0_1, .int a0_2, .int a0_3, .ref a0_4, .int a0_5, .int a0_6, .int a0_7, .int a0_8, .int a0_9, .int a0_10, .long a0_11, .int a0_12, .int a0_13, .int a0_14, .int a0_15, .int a0_16, .int a0_17, .ref a0_18, .ref a0_19, .ref a0_20, .ref a0_21, .ref a0_22, .ref a0_23, .ref a0_24, .ref a0_25, .ref a0_26, .ref a0_27, .ref a0_28, .ref a0_29, .ref a0_30, .ref a0_31, .ref a0_32, .ref a0_33, .ref a0_34, .ref a0_35, .long a0_36, .int a0_37, .ref a0_38, .ref a0_39, .int a0_40, .ref a0_41, .ref a0_42, .ref a0_43])), (a0_20, .inl (a0_20_c, 2, .inl a0_20_f)), (a0_21, .inl (a0_21_c, 2, .inl a0_21_f)), (a0_23, .inl (a0_23_c, 16, .inl a0_23_f)), (a0_26, .inl (a0_26_c, 8, .inl a0_26_f)), (a0_29, .inl (a0_29_c, 48, .inl a0_29_f)), (a0_30, .inl (a0_30_c, 48, .inl a0_30_f)), (a0_31, .inl (a0_31_c, 48, .inl a0_31_f)), (a0_32, .inl (a0_32_c, 24, .inl a0_32_f)), (a0_33, .inl (a0_33_c, 24, .inl a0_33_f)), (a0_34, .inl (a0_34_c, 72, .inl a0_34_f)), (a0_35, .inl (a0_35_c, 24, .inl a0_35_f)), (a0_38, .inl (a0_38_c, 176, .inl a0_38_f)), (a0_43, .inl (a0_43_c, 288, .inl a0_43_f))] s.heap.size = A at hD hE ⊢
  have hA : ∀ q : Nat, s.heap.size ≤ q → A q := fun q h => by rw [← hAe]; exact Or.inr h
  have hS : va_S A s.heap s.heap [] := va_S.rf
  replace hP : va_P (dC, dI) vwCl [(a0, .inr (8, [.int a0_0, .int a0_1, .int a0_2, .int a0_3, .ref a0_4, .int a0_5, .int a0_6, .int a0_7, .int a0_8, .int a0_9, .int a0_10, .long a0_11, .int a0_12, .int a0_13, .int a0_14, .int a0_15, .int a0_16, .int a0_17, .ref a0_18, .ref a0_19, .ref a0_20, .ref a0_21, .ref a0_22, .ref a0_23, .ref a0_24, .ref a0_25, .ref a0_26, .ref a0_27, .ref a0_28, .ref a0_29, .ref a0_30, .ref a0_31, .ref a0_32, .ref a0_33, .ref a0_34, .ref a0_35, .long a0_36, .int a0_37, .ref a0_38, .ref a0_39, .int a0_40, .ref a0_41, .ref a0_42, .ref a0_43])), (a0_20, .inl (a0_20_c, 2, .inl a0_20_f)), (a0_21, .inl (a0_21_c, 2, .inl a0_21_f)), (a0_23, .inl (a0_23_c, 16, .inl a0_23_f)), (a0_26, .inl (a0_26_c, 8, .inl a0_26_f)), (a0_29, .inl (a0_29_c, 48, .inl a0_29_f)), (a0_30, .inl (a0_30_c, 48, .inl a0_30_f)), (a0_31, .inl (a0_31_c, 48, .inl a0_31_f)), (a0_32, .inl (a0_32_c, 24, .inl a0_32_f)), (a0_33, .inl (a0_33_c, 24, .inl a0_33_f)), (a0_34, .inl (a0_34_c, 72, .inl a0_34_f)), (a0_35, .inl (a0_35_c, 24, .inl a0_35_f)), (a0_38, .inl (a0_38_c, 176, .inl a0_38_f)), (a0_43, .inl (a0_43_c, 288, .inl a0_43_f))] s.heap := hP
  have hl := lv_entry ([.ref a0]) (n := 3) (Nat.le_of_ble_eq_true rfl)
  rw [lg_entry_eq]
  generalize (lg_sl ([.ref a0]) ++ List.replicate (3 - (lg_sl ([.ref a0])).length) Slot.unset).toArray = ls at hl ⊢
  have hl : lv_has ls 3 [(0, .ref a0)] := hl
  have b_a0_0 := i32b a0_0
  have b_a0_1 := i32b a0_1
  have b_a0_2 := i32b a0_2
  have b_a0_3 := i32b a0_3
  have b_a0_9 := i32b a0_9
  have b_a0_10 := i32b a0_10
  have b_a0_12 := i32b a0_12
  have b_a0_13 := i32b a0_13
  have b_a0_14 := i32b a0_14
  have b_a0_15 := i32b a0_15
  have b_a0_16 := i32b a0_16
  have hp20 := vr_at h_a0_20_f (k := 0) rfl
  have hp21 := vr_at h_a0_21_f (k := 0) rfl
  refine lv_iconst (v := 0) hx hb dX9_laysEnds_0 (by decide) ?_
  refine lv_istore_n (lv' := [(1, .int 0), (0, .ref a0)]) hx hb dX9_laysEnds_1 rfl hl (by decide) rfl (fun ls hl => ?_)
  have qc0 : (0 : Int32).toInt = 0 := by decide
  refine wloop (fun n H locs ls => ∃ (l2_1 : Int32) (f2_0_1 : Int32) (f2_0_2 : Int32) (f2_0_3 : Int32) (w2_13 : Nat → Int32), n = (2147483647 - l2_1.toInt).toNat ∧ (0 ≤ l2_1.toInt) ∧ lv_has ls 3 [(1, .int l2_1), (0, .ref a0)] ∧ va_P (dC, dI) vwCl [(a0, .inr (8, [.int a0_0, .int f2_0_1, .int f2_0_2, .int f2_0_3, .ref a0_4, .int a0_5, .int a0_6, .int a0_7, .int a0_8, .int a0_9, .int a0_10, .long a0_11, .int a0_12, .int a0_13, .int a0_14, .int a0_15, .int a0_16, .int a0_17, .ref a0_18, .ref a0_19, .ref a0_20, .ref a0_21, .ref a0_22, .ref a0_23, .ref a0_24, .ref a0_25, .ref a0_26, .ref a0_27, .ref a0_28, .ref a0_29, .ref a0_30, .ref a0_31, .ref a0_32, .ref a0_33, .ref a0_34, .ref a0_35, .long a0_36, .int a0_37, .ref a0_38, .ref a0_39, .int a0_40, .ref a0_41, .ref a0_42, .ref a0_43])), (a0_20, .inl (a0_20_c, 2, .inl a0_20_f)), (a0_21, .inl (a0_21_c, 2, .inl a0_21_f)), (a0_23, .inl (a0_23_c, 16, .inl a0_23_f)), (a0_26, .inl (a0_26_c, 8, .inl a0_26_f)), (a0_29, .inl (a0_29_c, 48, .inl a0_29_f)), (a0_30, .inl (a0_30_c, 48, .inl a0_30_f)), (a0_31, .inl (a0_31_c, 48, .inl a0_31_f)), (a0_32, .inl (a0_32_c, 24, .inl a0_32_f)), (a0_33, .inl (a0_33_c, 24, .inl a0_33_f)), (a0_34, .inl (a0_34_c, 72, .inl a0_34_f)), (a0_35, .inl (a0_35_c, 24, .inl a0_35_f)), (a0_38, .inl (a0_38_c, 176, .inl a0_38_f)), (a0_43, .inl (a0_43_c, 288, .inl w2_13))] H ∧ va_D A [(a0, .inr (8, [.int a0_0, .int f2_0_1, .int f2_0_2, .int f2_0_3, .ref a0_4, .int a0_5, .int a0_6, .int a0_7, .int a0_8, .int a0_9, .int a0_10, .long a0_11, .int a0_12, .int a0_13, .int a0_14, .int a0_15, .int a0_16, .int a0_17, .ref a0_18, .ref a0_19, .ref a0_20, .ref a0_21, .ref a0_22, .ref a0_23, .ref a0_24, .ref a0_25, .ref a0_26, .ref a0_27, .ref a0_28, .ref a0_29, .ref a0_30, .ref a0_31, .ref a0_32, .ref a0_33, .ref a0_34, .ref a0_35, .long a0_36, .int a0_37, .ref a0_38, .ref a0_39, .int a0_40, .ref a0_41, .ref a0_42, .ref a0_43])), (a0_20, .inl (a0_20_c, 2, .inl a0_20_f)), (a0_21, .inl (a0_21_c, 2, .inl a0_21_f)), (a0_23, .inl (a0_23_c, 16, .inl a0_23_f)), (a0_26, .inl (a0_26_c, 8, .inl a0_26_f)), (a0_29, .inl (a0_29_c, 48, .inl a0_29_f)), (a0_30, .inl (a0_30_c, 48, .inl a0_30_f)), (a0_31, .inl (a0_31_c, 48, .inl a0_31_f)), (a0_32, .inl (a0_32_c, 24, .inl a0_32_f)), (a0_33, .inl (a0_33_c, 24, .inl a0_33_f)), (a0_34, .inl (a0_34_c, 72, .inl a0_34_f)), (a0_35, .inl (a0_35_c, 24, .inl a0_35_f)), (a0_38, .inl (a0_38_c, 176, .inl a0_38_f)), (a0_43, .inl (a0_43_c, 288, .inl w2_13))] ∧ va_S A s.heap H locs) ?_ ((2147483647 - (0 : Int32).toInt).toNat) _ _ _ ⟨0, a0_1, a0_2, a0_3, a0_43_f, rfl, (by omega), lv_sub hl [0, 1] rfl, hP, hD, hS⟩
  intro n2 H locs ls hI ih2
  obtain ⟨l2_1, f2_0_1, f2_0_2, f2_0_3, w2_13, hn2, g_l2_1, hl, hP, hD, hS⟩ := hI
  have b_l2_1 := i32b l2_1
  have b_f2_0_1 := i32b f2_0_1
  have b_f2_0_2 := i32b f2_0_2
  have b_f2_0_3 := i32b f2_0_3
  refine lv_iload_n hx hb dX9_laysEnds_2 rfl (lv_at hl 0 rfl) ?_
  refine lv_aload_n hx hb dX9_laysEnds_3 rfl (lv_at hl 1 rfl) ?_
  refine va_get (D := (dC, dI)) (ci := 8) (v := .ref a0_21) (C := RX9) (T := TX9) (N := 44) hx hb hts inlX9 hown hK hP 0 rgL14_6e084ec rfl 21 (by decide) (hts (.fieldLink RX9 23 "ClosedUntilModel" "closures" "[I") qw_501) (fun _ h9 => h9) rfl dX9_laysEnds_4 ?_
  refine lv_iconst (v := 0) hx hb dX9_laysEnds_7 (by decide) ?_
  refine va_iald hx hb hK hP 2 1 rgL14_9aeb737 rgT13_9ecce0a (vin0 (by decide)) dX9_laysEnds_8 ?_
  refine lv_topi (fun x1 e_x1 => ?_)
  have q_x1 : x1.toInt = (a0_21_f 0).toInt := congrArg Int32.toInt e_x1
  have b_x1 : 0 ≤ x1.toInt ∧ x1.toInt ≤ 12 := vr_at (lo := 0) (hi := 12) (f := a0_21_f) h_a0_21_f e_x1
  refine lv_icmp_ge (tgt := 53) hx hb dX9_laysEnds_9 (by decide) (fun c9_2 => ?_) (fun c9_2 => ?_)
  · have c9_2 : x1.toInt ≤ l2_1.toInt := (cv_le rfl rfl).mp c9_2
    refine W.widen (k := 0) (n := 0) (Nat.le_of_ble_eq_true rfl) (Nat.le_of_ble_eq_true rfl) ?_
    have hP9 := hP
    have hD9 := hD
    have hK9 := (rgK13_332f5b0 hK)
    exact W.vret hx hb hr (fun t ht hW => ⟨⟨(), rfl, trivial, f2_0_1, f2_0_2, f2_0_3, w2_13, atB ht hP9, va_K.moved hW.alike hK9, hD9⟩, hS.F ht⟩) hS.2.2 dX9_laysEnds_53
  · have c9_2 : ¬ (x1.toInt ≤ l2_1.toInt) := mt (cv_le rfl rfl).mpr c9_2
    refine lv_iconst (v := 0) hx hb dX9_laysEnds_12 (by decide) ?_
    refine lv_istore_n (lv' := [(2, .int 0), (1, .int l2_1), (0, .ref a0)]) hx hb dX9_laysEnds_13 rfl hl (by decide) rfl (fun ls hl => ?_)
    have qc0 : (0 : Int32).toInt = 0 := by decide
    refine wloop (fun n H locs ls => ∃ (l14_2 : Int32) (f14_0_1 : Int32) (f14_0_2 : Int32) (f14_0_3 : Int32) (w14_13 : Nat → Int32), n = (2147483647 - l14_2.toInt).toNat ∧ (0 ≤ l14_2.toInt) ∧ lv_has ls 3 [(2, .int l14_2), (1, .int l2_1), (0, .ref a0)] ∧ va_P (dC, dI) vwCl [(a0, .inr (8, [.int a0_0, .int f14_0_1, .int f14_0_2, .int f14_0_3, .ref a0_4, .int a0_5, .int a0_6, .int a0_7, .int a0_8, .int a0_9, .int a0_10, .long a0_11, .int a0_12, .int a0_13, .int a0_14, .int a0_15, .int a0_16, .int a0_17, .ref a0_18, .ref a0_19, .ref a0_20, .ref a0_21, .ref a0_22, .ref a0_23, .ref a0_24, .ref a0_25, .ref a0_26, .ref a0_27, .ref a0_28, .ref a0_29, .ref a0_30, .ref a0_31, .ref a0_32, .ref a0_33, .ref a0_34, .ref a0_35, .long a0_36, .int a0_37, .ref a0_38, .ref a0_39, .int a0_40, .ref a0_41, .ref a0_42, .ref a0_43])), (a0_20, .inl (a0_20_c, 2, .inl a0_20_f)), (a0_21, .inl (a0_21_c, 2, .inl a0_21_f)), (a0_23, .inl (a0_23_c, 16, .inl a0_23_f)), (a0_26, .inl (a0_26_c, 8, .inl a0_26_f)), (a0_29, .inl (a0_29_c, 48, .inl a0_29_f)), (a0_30, .inl (a0_30_c, 48, .inl a0_30_f)), (a0_31, .inl (a0_31_c, 48, .inl a0_31_f)), (a0_32, .inl (a0_32_c, 24, .inl a0_32_f)), (a0_33, .inl (a0_33_c, 24, .inl a0_33_f)), (a0_34, .inl (a0_34_c, 72, .inl a0_34_f)), (a0_35, .inl (a0_35_c, 24, .inl a0_35_f)), (a0_38, .inl (a0_38_c, 176, .inl a0_38_f)), (a0_43, .inl (a0_43_c, 288, .inl w14_13))] H ∧ va_D A [(a0, .inr (8, [.int a0_0, .int f14_0_1, .int f14_0_2, .int f14_0_3, .ref a0_4, .int a0_5, .int a0_6, .int a0_7, .int a0_8, .int a0_9, .int a0_10, .long a0_11, .int a0_12, .int a0_13, .int a0_14, .int a0_15, .int a0_16, .int a0_17, .ref a0_18, .ref a0_19, .ref a0_20, .ref a0_21, .ref a0_22, .ref a0_23, .ref a0_24, .ref a0_25, .ref a0_26, .ref a0_27, .ref a0_28, .ref a0_29, .ref a0_30, .ref a0_31, .ref a0_32, .ref a0_33, .ref a0_34, .ref a0_35, .long a0_36, .int a0_37, .ref a0_38, .ref a0_39, .int a0_40, .ref a0_41, .ref a0_42, .ref a0_43])), (a0_20, .inl (a0_20_c, 2, .inl a0_20_f)), (a0_21, .inl (a0_21_c, 2, .inl a0_21_f)), (a0_23, .inl (a0_23_c, 16, .inl a0_23_f)), (a0_26, .inl (a0_26_c, 8, .inl a0_26_f)), (a0_29, .inl (a0_29_c, 48, .inl a0_29_f)), (a0_30, .inl (a0_30_c, 48, .inl a0_30_f)), (a0_31, .inl (a0_31_c, 48, .inl a0_31_f)), (a0_32, .inl (a0_32_c, 24, .inl a0_32_f)), (a0_33, .inl (a0_33_c, 24, .inl a0_33_f)), (a0_34, .inl (a0_34_c, 72, .inl a0_34_f)), (a0_35, .inl (a0_35_c, 24, .inl a0_35_f)), (a0_38, .inl (a0_38_c, 176, .inl a0_38_f)), (a0_43, .inl (a0_43_c, 288, .inl w14_13))] ∧ va_S A s.heap H locs) ?_ ((2147483647 - (0 : Int32).toInt).toNat) _ _ _ ⟨0, f2_0_1, f2_0_2, f2_0_3, w2_13, rfl, (by omega), lv_sub hl [0, 1, 2] rfl, hP, hD, hS⟩
    intro n14 H locs ls hI ih14
    obtain ⟨l14_2, f14_0_1, f14_0_2, f14_0_3, w14_13, hn14, g_l14_2, hl, hP, hD, hS⟩ := hI
    have b_l14_2 := i32b l14_2
    have b_f14_0_1 := i32b f14_0_1
    have b_f14_0_2 := i32b f14_0_2
    have b_f14_0_3 := i32b f14_0_3
    refine lv_iload_n hx hb dX9_laysEnds_14 rfl (lv_at hl 0 rfl) ?_
    refine lv_aload_n hx hb dX9_laysEnds_15 rfl (lv_at hl 2 rfl) ?_
    refine va_get (D := (dC, dI)) (ci := 8) (v := .ref a0_20) (C := RX9) (T := TX9) (N := 44) hx hb hts inlX9 hown hK hP 0 rgL14_6e084ec rfl 20 (by decide) (hts (.fieldLink RX9 20 "ClosedUntilModel" "pieces" "[I") qw_439) (fun _ h9 => h9) rfl dX9_laysEnds_16 ?_
    refine lv_iconst (v := 0) hx hb dX9_laysEnds_19 (by decide) ?_
    refine va_iald hx hb hK hP 1 0 rgL14_2dacc1d rgT13_f65b496 (vin0 (by decide)) dX9_laysEnds_20 ?_
    refine lv_topi (fun x3 e_x3 => ?_)
    have q_x3 : x3.toInt = (a0_20_f 0).toInt := congrArg Int32.toInt e_x3
    have b_x3 : 0 ≤ x3.toInt ∧ x3.toInt ≤ 24 := vr_at (lo := 0) (hi := 24) (f := a0_20_f) h_a0_20_f e_x3
    refine lv_icmp_ge (tgt := 47) hx hb dX9_laysEnds_21 (by decide) (fun c21_4 => ?_) (fun c21_4 => ?_)
    · have c21_4 : x3.toInt ≤ l14_2.toInt := (cv_le rfl rfl).mp c21_4
      obtain ⟨x5, e_x5⟩ : ∃ y : Int32, y = l2_1 + 1 := ⟨_, rfl⟩
      refine lv_iinc (v := x5) (lv' := [(1, .int x5), (2, .int l14_2), (0, .ref a0)]) hx hb dX9_laysEnds_47 hl (k := 1) rfl (by rw [e_x5]; rfl) (by decide) rfl (fun ls hl => ?_)
      try have e_x5 := ti_add e_x5 rfl (show (1 : Int32).toInt = 1 by decide) (by omega)
      refine lv_goto (tgt := 2) hx hb dX9_laysEnds_50 (by decide) ?_
      exact ih2 ((2147483647 - x5.toInt).toNat) _ _ _ (by omega) ⟨x5, f14_0_1, f14_0_2, f14_0_3, w14_13, rfl, (by omega), lv_sub hl [0, 2] rfl, hP, hD, hS⟩
    · have c21_4 : ¬ (x3.toInt ≤ l14_2.toInt) := mt (cv_le rfl rfl).mpr c21_4
      refine lv_aload_n hx hb dX9_laysEnds_24 rfl (lv_at hl 2 rfl) ?_
      refine va_get (D := (dC, dI)) (ci := 8) (v := .ref a0_43) (C := RX9) (T := TX9) (N := 44) hx hb hts inlX9 hown hK hP 0 rgL14_6e084ec rfl 43 (by decide) (hts (.fieldLink RX9 82 "ClosedUntilModel" "endsAt" "[I") qw_535) (fun _ h9 => h9) rfl dX9_laysEnds_25 ?_
      refine lv_bipush (v := 24) hx hb dX9_laysEnds_28 (by decide) ?_
      refine lv_iload_n hx hb dX9_laysEnds_30 rfl (lv_at hl 1 rfl) ?_
      refine lv_imul hx hb dX9_laysEnds_31 ?_
      refine lv_topi (fun x6 e_x6 => ?_)
      try have e_x6 := ti_mul e_x6 (show (24 : Int32).toInt = 24 by decide) rfl (by omega)
      refine lv_iload_n hx hb dX9_laysEnds_32 rfl (lv_at hl 0 rfl) ?_
      refine lv_iadd hx hb dX9_laysEnds_33 ?_
      refine lv_topi (fun x7 e_x7 => ?_)
      try have e_x7 := ti_add e_x7 rfl rfl (by omega)
      refine lv_aload_n hx hb dX9_laysEnds_34 rfl (lv_at hl 2 rfl) ?_
      refine lv_iload_n hx hb dX9_laysEnds_35 rfl (lv_at hl 1 rfl) ?_
      refine lv_iload_n hx hb dX9_laysEnds_36 rfl (lv_at hl 0 rfl) ?_
      have hPc := (rgP14_be048c4 hP)
      have hKc := (rgK13_51a369b hK)
      have hDc := (rgD14_b2e6295 hD)
      have hFc := freeW hDc hS hA
      refine va_calli (va_runV (As := [.int l2_1, .int l14_2]) (rest := [.int x7, .ref a0_43]) ⟨hx, hb, hml, hown, hts⟩ (k_X9_endsOf l dC dI g H.size (a0) (l2_1) (l14_2) (a0_0) (f14_0_1) (f14_0_2) (f14_0_3) (a0_4) (a0_5) (a0_6) (a0_7) (a0_8) (a0_9) (a0_10) (a0_11) (a0_12) (a0_13) (a0_14) (a0_15) (a0_16) (a0_17) (a0_18) (a0_19) (a0_20) (a0_21) (a0_22) (a0_23) (a0_24) (a0_25) (a0_26) (a0_27) (a0_28) (a0_29) (a0_30) (a0_31) (a0_32) (a0_33) (a0_34) (a0_35) (a0_36) (a0_37) (a0_38) (a0_39) (a0_40) (a0_41) (a0_42) (a0_43) (a0_23_c) (a0_23_f) (a0_26_c) (a0_26_f) (a0_29_c) (a0_29_f) (a0_30_c) (a0_30_f) (a0_31_c) (a0_31_f) (a0_32_c) (a0_32_f) (a0_33_c) (a0_33_f) (a0_34_c) (a0_34_f) (a0_35_c) (a0_35_f) (a0_38_c) (a0_38_f) ((a0_20_f 0).toInt) ((a0_21_f 0).toInt) (by omega) (by omega) (by omega) (by omega) (by omega) (by omega) (by omega) (by omega) (by assumption) (by omega) (by assumption) (by omega) (by omega)) (cwV 2 hts (gwV qw_532 qw_533 qw_534 qw_386 qw_531) rfl rfl rfl (by decide +kernel) ⟨Nat.le_of_ble_eq_true rfl, Nat.le_of_ble_eq_true rfl⟩) ⟨fun a U g9 mk q => ⟨q.1, q.2.1, q.2.2.1, va_K.moved (u := U) (U := U.calling g9 mk a) (Vm.Alike.refl U.vm) q.2.2.2.1, q.2.2.2.2.1, Ev.bl q.2.2.2.2.2⟩, va_recv hK hP (ci := 8) (q0 := 0) rfl rgL14_6e084ec, fun U hU hW => ⟨rfl, by rw [hU], atB hU hPc, va_K.moved hW.alike hKc, hDc.weaken (fun _ _ _ _ => trivial), hE.go hS hFc hU hW⟩⟩ rfl rfl hl.1 rfl (lv_room (Nat.le_of_ble_eq_true rfl)) dX9_laysEnds_37 ⟨Nat.le_of_ble_eq_true rfl, Nat.le_of_ble_eq_true rfl⟩) hS (fun q _ h => hFc q h) hFc (fun r9 u8 t H1 locs ht hvm h_u8 hB hz1 hk1 hS => ?_)
      obtain ⟨za0_1_10, za0_2_11, za0_3_12, hP1, hK1, hD1⟩ := hB
      have hK1 := va_K.moved hvm.symm hK1
      have hJ9 := rgJ14_d16c674 hP hD hk1 hFc (atH ht hP1) hD1
      clear hP hD hPc hKc hDc hFc hP1 hD1 hk1 hz1
      obtain ⟨hP, hD⟩ := hJ9
      clear hK1
      generalize H1 = H at hP hS ⊢
      refine W.widen (k := 0) (n := 0) (Nat.le_of_ble_eq_true rfl) (Nat.le_of_ble_eq_true rfl) ?_
      have h_r9 := congrArg Int32.toInt h_u8
      have b_r9 := i32b r9
      refine va_iast hx hb hK hP hD hS 13 12 rgL14_adfec06 rgT13_4790f1e (vinI (by omega) (by omega)) dX9_laysEnds_40 (fun H locs hP9 hD9 hS9 => ?_)
      obtain ⟨y13, e_y13⟩ : ∃ y, (upd w14_13 x7.toNatClampNeg r9) = y := ⟨_, rfl⟩
      clear hP hD hS
      obtain ⟨hP, hD⟩ := rgS14_dc02506 (e := (a0_43, .inl (a0_43_c, 288, .inl y13))) hP9 hD9 (congrArg (fun z9 => (((a0_43, .inl (a0_43_c, 288, .inl z9)) : Nat × va_E))) e_y13)
      have hS := hS9; clear hP9 hD9 hS9
      obtain ⟨x14, e_x14⟩ : ∃ y : Int32, y = l14_2 + 1 := ⟨_, rfl⟩
      refine lv_iinc (v := x14) (lv' := [(2, .int x14), (1, .int l2_1), (0, .ref a0)]) hx hb dX9_laysEnds_41 hl (k := 0) rfl (by rw [e_x14]; rfl) (by decide) rfl (fun ls hl => ?_)
      try have e_x14 := ti_add e_x14 rfl (show (1 : Int32).toInt = 1 by decide) (by omega)
      refine lv_goto (tgt := 14) hx hb dX9_laysEnds_44 (by decide) ?_
      exact ih14 ((2147483647 - x14.toInt).toNat) _ _ _ (by omega) ⟨x14, za0_1_10, za0_2_11, za0_3_12, y13, rfl, (by omega), lv_sub hl [0, 1, 2] rfl, hP, hD, hS⟩
set_option maxHeartbeats 4000000 in
set_option maxRecDepth 100000 in
theorem k_X9_havers (l : Launch) (dC : Nat → ClassId) (dI : Nat → Nat → Nat) (g : Gv) (a0 : Nat) (a1 : Int32) (a0_0 : Int32) (a0_1 : Int32) (a0_2 : Int32) (a0_3 : Int32) (a0_4 : Nat) (a0_5 : Int32) (a0_6 : Int32) (a0_7 : Int32) (a0_8 : Int32) (a0_9 : Int32) (a0_10 : Int32) (a0_11 : Int64) (a0_12 : Int32) (a0_13 : Int32) (a0_14 : Int32) (a0_15 : Int32) (a0_16 : Int32) (a0_17 : Int32) (a0_18 : Nat) (a0_19 : Nat) (a0_20 : Nat) (a0_21 : Nat) (a0_22 : Nat) (a0_23 : Nat) (a0_24 : Nat) (a0_25 : Nat) (a0_26 : Nat) (a0_27 : Nat) (a0_28 : Nat) (a0_29 : Nat) (a0_30 : Nat) (a0_31 : Nat) (a0_32 : Nat) (a0_33 : Nat) (a0_34 : Nat) (a0_35 : Nat) (a0_36 : Int64) (a0_37 : Int32) (a0_38 : Nat) (a0_39 : Nat) (a0_40 : Int32) (a0_41 : Nat) (a0_42 : Nat) (a0_43 : Nat) (a0_20_c : ClassId) (a0_20_f : Nat → Int32) (a0_30_c : ClassId) (a0_30_f : Nat → Int32) (h_a0_5 : 0 ≤ a0_5.toInt ∧ a0_5.toInt ≤ 1000) (h_a0_6 : 0 ≤ a0_6.toInt ∧ a0_6.toInt ≤ 1000) (h_a0_7 : 0 ≤ a0_7.toInt ∧ a0_7.toInt ≤ 1000) (h_a0_8 : 0 ≤ a0_8.toInt ∧ a0_8.toInt ≤ 1000) (h_a0_17 : 0 ≤ a0_17.toInt ∧ a0_17.toInt ≤ 1) (h_a0_37 : (-1) ≤ a0_37.toInt ∧ a0_37.toInt ≤ 23) (h_a0_40 : 0 ≤ a0_40.toInt ∧ a0_40.toInt ≤ 12) (h_a0_20_f : vr 0 24 a0_20_f) : Met l yX9_havers (.code yX9_havers cX9_havers 4 (some .int) :: TBL) ({ frames := 0, cells := 0, slots := 0, locals := 0 }) (va_Pc [.ref a0, .int a1] (fun U => va_P (dC, dI) vwCl [(a0, .inr (8, [.int a0_0, .int a0_1, .int a0_2, .int a0_3, .ref a0_4, .int a0_5, .int a0_6, .int a0_7, .int a0_8, .int a0_9, .int a0_10, .long a0_11, .int a0_12, .int a0_13, .int a0_14, .int a0_15, .int a0_16, .int a0_17, .ref a0_18, .ref a0_19, .ref a0_20, .ref a0_21, .ref a0_22, .ref a0_23, .ref a0_24, .ref a0_25, .ref a0_26, .ref a0_27, .ref a0_28, .ref a0_29, .ref a0_30, .ref a0_31, .ref a0_32, .ref a0_33, .ref a0_34, .ref a0_35, .long a0_36, .int a0_37, .ref a0_38, .ref a0_39, .int a0_40, .ref a0_41, .ref a0_42, .ref a0_43])), (a0_20, .inl (a0_20_c, 2, .inl a0_20_f)), (a0_30, .inl (a0_30_c, 48, .inl a0_30_f))] U.heap ∧ va_K (dC, dI) vwCl [(a0_20_c, .int), (a0_30_c, .int)] U ∧ Ev g (fun _ => False) U)) (vp_Si (fun (r : Int32) => True)) 0 0 (fun _ => False) := by
  refine Met.ofW (cc := cX9_havers) (maxL := 4) (ret := (some .int)) (by decide) rfl ?_
  intro p e s m args below meth c s₁ B hml hv
  obtain ⟨rfl, hP, hK, hE⟩ := hv
  have hx := B.exec
  have hb := B.bytes
  have hr := B.returns
  have hts0 := atoms_spec (ws := (.code yX9_havers cX9_havers 4 (some .int) :: TBL)) B.pre
  have hts := fun (w : Cond) (h : w ∈ TBL) => hts0 w (List.mem_cons_of_mem _ h)
  have hown : s.vm.findClass RX9 = some m.cls := findClass_of_methodNamed B.named
  have hlocks := B.notSynchronized
  have hN := hE.1
  have hS : va_S (fun _ => False) s.heap s.heap [] := va_S.rf
  replace hP : va_P (dC, dI) vwCl [(a0, .inr (8, [.int a0_0, .int a0_1, .int a0_2, .int a0_3, .ref a0_4, .int a0_5, .int a0_6, .int a0_7, .int a0_8, .int a0_9, .int a0_10, .long a0_11, .int a0_12, .int a0_13, .int a0_14, .int a0_15, .int a0_16, .int a0_17, .ref a0_18, .ref a0_19, .ref a0_20, .ref a0_21, .ref a0_22, .ref a0_23, .ref a0_24, .ref a0_25, .ref a0_26, .ref a0_27, .ref a0_28, .ref a0_29, .ref a0_30, .ref a0_31, .ref a0_32, .ref a0_33, .ref a0_34, .ref a0_35, .long a0_36, .int a0_37, .ref a0_38, .ref a0_39, .int a0_40, .ref a0_41, .ref a0_42, .ref a0_43])), (a0_20, .inl (a0_20_c, 2, .inl a0_20_f)), (a0_30, .inl (a0_30_c, 48, .inl a0_30_f))] s.heap := hP
  have hl := lv_entry ([.ref a0, .int a1]) (n := 4) (Nat.le_of_ble_eq_true rfl)
  rw [lg_entry_eq]
  generalize (lg_sl ([.ref a0, .int a1]) ++ List.replicate (4 - (lg_sl ([.ref a0, .int a1])).length) Slot.unset).toArray = ls at hl ⊢
  have hl : lv_has ls 4 [(0, .ref a0), (1, .int a1)] := hl
  have b_a1 := i32b a1
  have b_a0_0 := i32b a0_0
  have b_a0_1 := i32b a0_1
  have b_a0_2 := i32b a0_2
  have b_a0_3 := i32b a0_3
  have b_a0_9 := i32b a0_9
  have b_a0_10 := i32b a0_10
  have b_a0_12 := i32b a0_12
  have b_a0_13 := i32b a0_13
  have b_a0_14 := i32b a0_14
  have b_a0_15 := i32b a0_15
  have b_a0_16 := i32b a0_16
  refine lv_iconst (v := 0) hx hb dX9_havers_0 (by decide) ?_
  refine lv_istore_n (lv' := [(2, .int 0), (0, .ref a0), (1, .int a1)]) hx hb dX9_havers_1 rfl hl (by decide) rfl (fun ls hl => ?_)
  refine lv_iconst (v := 0) hx hb dX9_havers_2 (by decide) ?_
  refine lv_istore_n (lv' := [(3, .int 0), (2, .int 0), (0, .ref a0), (1, .int a1)]) hx hb dX9_havers_3 rfl hl (by decide) rfl (fun ls hl => ?_)
  have qc0 : (0 : Int32).toInt = 0 := by decide
  refine wloop (fun n H locs ls => ∃ (l4_3 : Int32) (l4_2 : Int32), n = (2147483647 - l4_3.toInt).toNat ∧ (0 ≤ l4_3.toInt) ∧ lv_has ls 4 [(3, .int l4_3), (2, .int l4_2), (0, .ref a0), (1, .int a1)] ∧ H = s.heap ∧ locs = []) ?_ ((2147483647 - (0 : Int32).toInt).toNat) _ _ _ ⟨0, 0, rfl, (by omega), lv_sub hl [0, 1, 2, 3] rfl, rfl, rfl⟩
  intro n4 H locs ls hI ih4
  obtain ⟨l4_3, l4_2, hn4, g_l4_3, hl, rfl, rfl⟩ := hI
  have b_l4_3 := i32b l4_3
  have b_l4_2 := i32b l4_2
  refine lv_iload_n hx hb dX9_havers_4 rfl (lv_at hl 0 rfl) ?_
  refine lv_aload_n hx hb dX9_havers_5 rfl (lv_at hl 2 rfl) ?_
  refine va_get (D := (dC, dI)) (ci := 8) (v := .ref a0_20) (C := RX9) (T := TX9) (N := 44) hx hb hts inlX9 hown hK hP 0 rgL3_619f1f5 rfl 20 (by decide) (hts (.fieldLink RX9 20 "ClosedUntilModel" "pieces" "[I") qw_439) (fun _ h9 => h9) rfl dX9_havers_6 ?_
  refine lv_iconst (v := 0) hx hb dX9_havers_9 (by decide) ?_
  refine va_iald hx hb hK hP 1 0 rgL3_6f2f016 rgT2_453da77 (vin0 (by decide)) dX9_havers_10 ?_
  refine lv_topi (fun x1 e_x1 => ?_)
  have q_x1 : x1.toInt = (a0_20_f 0).toInt := congrArg Int32.toInt e_x1
  have b_x1 : 0 ≤ x1.toInt ∧ x1.toInt ≤ 24 := vr_at (lo := 0) (hi := 24) (f := a0_20_f) h_a0_20_f e_x1
  refine lv_icmp_ge (tgt := 35) hx hb dX9_havers_11 (by decide) (fun c11_2 => ?_) (fun c11_2 => ?_)
  · have c11_2 : x1.toInt ≤ l4_3.toInt := (cv_le rfl rfl).mp c11_2
    refine lv_iload_n hx hb dX9_havers_35 rfl (lv_at hl 1 rfl) ?_
    exact W.iret (v := l4_2) hx hb hr (fun t ht hW => ⟨l4_2, rfl, trivial, ht⟩) (fun _ h => absurd h List.not_mem_nil) dX9_havers_36
  · have c11_2 : ¬ (x1.toInt ≤ l4_3.toInt) := mt (cv_le rfl rfl).mpr c11_2
    refine lv_iload_n hx hb dX9_havers_14 rfl (lv_at hl 1 rfl) ?_
    refine lv_aload_n hx hb dX9_havers_15 rfl (lv_at hl 2 rfl) ?_
    refine va_get (D := (dC, dI)) (ci := 8) (v := .ref a0_30) (C := RX9) (T := TX9) (N := 44) hx hb hts inlX9 hown hK hP 0 rgL3_619f1f5 rfl 30 (by decide) (hts (.fieldLink RX9 51 "ClosedUntilModel" "ofPeople" "[I") qw_500) (fun _ h9 => h9) rfl dX9_havers_16 ?_
    refine lv_iload_n hx hb dX9_havers_19 rfl (lv_at hl 0 rfl) ?_
    refine va_iald hx hb hK hP 2 1 rgL3_2e0c0f7 rgT2_d592b55 (vinI (by omega) (by omega)) dX9_havers_20 ?_
    refine lv_topi (fun x3 e_x3 => ?_)
    have q_x3 := congrArg Int32.toInt e_x3
    have b_x3 := i32b x3
    refine lv_iload_n hx hb dX9_havers_21 rfl (lv_at hl 3 rfl) ?_
    refine lv_ishr hx hb dX9_havers_22 ?_
    refine lv_topi (fun x4 e_x4 => ?_)
    refine lv_iconst (v := 1) hx hb dX9_havers_23 (by decide) ?_
    refine lv_iand hx hb dX9_havers_24 ?_
    refine lv_topi (fun x5 e_x5 => ?_)
    have e_x5 := ti_and e_x5 (show (1 : Int32).toInt = 1 by decide) (by decide)
    refine lv_iload_n hx hb dX9_havers_25 rfl (lv_at hl 0 rfl) ?_
    refine lv_ishl hx hb dX9_havers_26 ?_
    refine lv_topi (fun x6 e_x6 => ?_)
    refine lv_ior hx hb dX9_havers_27 ?_
    refine lv_topi (fun x7 e_x7 => ?_)
    refine lv_istore_n (lv' := [(2, .int x7), (3, .int l4_3), (0, .ref a0), (1, .int a1)]) hx hb dX9_havers_28 rfl hl (by decide) rfl (fun ls hl => ?_)
    obtain ⟨x8, e_x8⟩ : ∃ y : Int32, y = l4_3 + 1 := ⟨_, rfl⟩
    refine lv_iinc (v := x8) (lv' := [(3, .int x8), (2, .int x7), (0, .ref a0), (1, .int a1)]) hx hb dX9_havers_29 hl (k := 1) rfl (by rw [e_x8]; rfl) (by decide) rfl (fun ls hl => ?_)
    try have e_x8 := ti_add e_x8 rfl (show (1 : Int32).toInt = 1 by decide) (by omega)
    refine lv_goto (tgt := 4) hx hb dX9_havers_32 (by decide) ?_
    exact ih4 ((2147483647 - x8.toInt).toNat) _ _ _ (by omega) ⟨x8, x7, rfl, (by omega), lv_sub hl [0, 1, 2, 3] rfl, rfl, rfl⟩
set_option maxHeartbeats 4000000 in
set_option maxRecDepth 100000 in
theorem k_X9_holds (l : Launch) (dC : Nat → ClassId) (dI : Nat → Nat → Nat) (g : Gv) (a0 : Nat) (a1 : Int32) (a2 : Int32) (a3 : Int32) (a0_0 : Int32) (a0_1 : Int32) (a0_2 : Int32) (a0_3 : Int32) (a0_4 : Nat) (a0_5 : Int32) (a0_6 : Int32) (a0_7 : Int32) (a0_8 : Int32) (a0_9 : Int32) (a0_10 : Int32) (a0_11 : Int64) (a0_12 : Int32) (a0_13 : Int32) (a0_14 : Int32) (a0_15 : Int32) (a0_16 : Int32) (a0_17 : Int32) (a0_18 : Nat) (a0_19 : Nat) (a0_20 : Nat) (a0_21 : Nat) (a0_22 : Nat) (a0_23 : Nat) (a0_24 : Nat) (a0_25 : Nat) (a0_26 : Nat) (a0_27 : Nat) (a0_28 : Nat) (a0_29 : Nat) (a0_30 : Nat) (a0_31 : Nat) (a0_32 : Nat) (a0_33 : Nat) (a0_34 : Nat) (a0_35 : Nat) (a0_36 : Int64) (a0_37 : Int32) (a0_38 : Nat) (a0_39 : Nat) (a0_40 : Int32) (a0_41 : Nat) (a0_42 : Nat) (a0_43 : Nat) (a0_32_c : ClassId) (a0_32_f : Nat → Int32) (h_a0_5 : 0 ≤ a0_5.toInt ∧ a0_5.toInt ≤ 1000) (h_a0_6 : 0 ≤ a0_6.toInt ∧ a0_6.toInt ≤ 1000) (h_a0_7 : 0 ≤ a0_7.toInt ∧ a0_7.toInt ≤ 1000) (h_a0_8 : 0 ≤ a0_8.toInt ∧ a0_8.toInt ≤ 1000) (h_a0_17 : 0 ≤ a0_17.toInt ∧ a0_17.toInt ≤ 1) (h_a0_37 : (-1) ≤ a0_37.toInt ∧ a0_37.toInt ≤ 23) (h_a0_40 : 0 ≤ a0_40.toInt ∧ a0_40.toInt ≤ 12) (ha1r : 0 ≤ a1.toInt ∧ a1.toInt < 12) : Met l yX9_holds (.code yX9_holds cX9_holds 4 (some .boolean) :: TBL) ({ frames := 0, cells := 0, slots := 0, locals := 0 }) (va_Pc [.ref a0, .int a1, .int a2, .int a3] (fun U => va_P (dC, dI) vwCl [(a0, .inr (8, [.int a0_0, .int a0_1, .int a0_2, .int a0_3, .ref a0_4, .int a0_5, .int a0_6, .int a0_7, .int a0_8, .int a0_9, .int a0_10, .long a0_11, .int a0_12, .int a0_13, .int a0_14, .int a0_15, .int a0_16, .int a0_17, .ref a0_18, .ref a0_19, .ref a0_20, .ref a0_21, .ref a0_22, .ref a0_23, .ref a0_24, .ref a0_25, .ref a0_26, .ref a0_27, .ref a0_28, .ref a0_29, .ref a0_30, .ref a0_31, .ref a0_32, .ref a0_33, .ref a0_34, .ref a0_35, .long a0_36, .int a0_37, .ref a0_38, .ref a0_39, .int a0_40, .ref a0_41, .ref a0_42, .ref a0_43])), (a0_32, .inl (a0_32_c, 24, .inl a0_32_f))] U.heap ∧ va_K (dC, dI) vwCl [(a0_32_c, .int)] U ∧ Ev g (fun _ => False) U)) (vp_Si (fun (r : Int32) => (r = 0 ∨ r = 1))) 0 0 (fun _ => False) := by
  refine Met.ofW (cc := cX9_holds) (maxL := 4) (ret := (some .boolean)) (by decide) rfl ?_
  intro p e s m args below meth c s₁ B hml hv
  obtain ⟨rfl, hP, hK, hE⟩ := hv
  have hx := B.exec
  have hb := B.bytes
  have hr := B.returns
  have hts0 := atoms_spec (ws := (.code yX9_holds cX9_holds 4 (some .boolean) :: TBL)) B.pre
  have hts := fun (w : Cond) (h : w ∈ TBL) => hts0 w (List.mem_cons_of_mem _ h)
  have hown : s.vm.findClass RX9 = some m.cls := findClass_of_methodNamed B.named
  have hlocks := B.notSynchronized
  have hN := hE.1
  have hS : va_S (fun _ => False) s.heap s.heap [] := va_S.rf
  replace hP : va_P (dC, dI) vwCl [(a0, .inr (8, [.int a0_0, .int a0_1, .int a0_2, .int a0_3, .ref a0_4, .int a0_5, .int a0_6, .int a0_7, .int a0_8, .int a0_9, .int a0_10, .long a0_11, .int a0_12, .int a0_13, .int a0_14, .int a0_15, .int a0_16, .int a0_17, .ref a0_18, .ref a0_19, .ref a0_20, .ref a0_21, .ref a0_22, .ref a0_23, .ref a0_24, .ref a0_25, .ref a0_26, .ref a0_27, .ref a0_28, .ref a0_29, .ref a0_30, .ref a0_31, .ref a0_32, .ref a0_33, .ref a0_34, .ref a0_35, .long a0_36, .int a0_37, .ref a0_38, .ref a0_39, .int a0_40, .ref a0_41, .ref a0_42, .ref a0_43])), (a0_32, .inl (a0_32_c, 24, .inl a0_32_f))] s.heap := hP
  have hl := lv_entry ([.ref a0, .int a1, .int a2, .int a3]) (n := 4) (Nat.le_of_ble_eq_true rfl)
  rw [lg_entry_eq]
  generalize (lg_sl ([.ref a0, .int a1, .int a2, .int a3]) ++ List.replicate (4 - (lg_sl ([.ref a0, .int a1, .int a2, .int a3])).length) Slot.unset).toArray = ls at hl ⊢
  have hl : lv_has ls 4 [(0, .ref a0), (1, .int a1), (2, .int a2), (3, .int a3)] := hl
  have b_a1 := i32b a1
  have b_a2 := i32b a2
  have b_a3 := i32b a3
  have b_a0_0 := i32b a0_0
  have b_a0_1 := i32b a0_1
  have b_a0_2 := i32b a0_2
  have b_a0_3 := i32b a0_3
  have b_a0_9 := i32b a0_9
  have b_a0_10 := i32b a0_10
  have b_a0_12 := i32b a0_12
  have b_a0_13 := i32b a0_13
  have b_a0_14 := i32b a0_14
  have b_a0_15 := i32b a0_15
  have b_a0_16 := i32b a0_16
  refine lv_iload_n hx hb dX9_holds_0 rfl (lv_at hl 2 rfl) ?_
  refine lv_aload_n hx hb dX9_holds_1 rfl (lv_at hl 0 rfl) ?_
  refine va_get (D := (dC, dI)) (ci := 8) (v := .ref a0_32) (C := RX9) (T := TX9) (N := 44) hx hb hts inlX9 hown hK hP 0 rgL2_5ac5f51 rfl 32 (by decide) (hts (.fieldLink RX9 57 "ClosedUntilModel" "sort" "[I") qw_507) (fun _ h9 => h9) rfl dX9_holds_2 ?_
  refine lv_iload_n hx hb dX9_holds_5 rfl (lv_at hl 1 rfl) ?_
  refine va_iald hx hb hK hP 1 0 rgL2_906ef0f rgT1_bb00d73 (vinI (by omega) (by omega)) dX9_holds_6 ?_
  refine lv_topi (fun x1 e_x1 => ?_)
  have q_x1 := congrArg Int32.toInt e_x1
  have b_x1 := i32b x1
  refine lv_ishr hx hb dX9_holds_7 ?_
  refine lv_topi (fun x2 e_x2 => ?_)
  refine lv_iconst (v := 1) hx hb dX9_holds_8 (by decide) ?_
  refine lv_iand hx hb dX9_holds_9 ?_
  refine lv_topi (fun x3 e_x3 => ?_)
  have e_x3 := ti_and e_x3 (show (1 : Int32).toInt = 1 by decide) (by decide)
  refine lv_if_ne (tgt := 25) hx hb dX9_holds_10 (by decide) (fun c10_4 => ?_) (fun c10_4 => ?_)
  · have c10_4 : ¬ (x3.toInt = 0) := mt (cv_eq rfl (by decide)).mpr c10_4
    refine lv_iconst (v := 0) hx hb dX9_holds_25 (by decide) ?_
    exact W.zret (v := 0) hx hb hr rfl (fun t ht hW => ⟨0, rfl, (by decide), ht⟩) (fun _ h => absurd h List.not_mem_nil) dX9_holds_26
  · have c10_4 : x3.toInt = 0 := (cv_eq rfl (by decide)).mp c10_4
    refine lv_iload_n hx hb dX9_holds_13 rfl (lv_at hl 3 rfl) ?_
    refine lv_iload_n hx hb dX9_holds_14 rfl (lv_at hl 1 rfl) ?_
    refine lv_ishr hx hb dX9_holds_15 ?_
    refine lv_topi (fun x5 e_x5 => ?_)
    refine lv_iconst (v := 1) hx hb dX9_holds_16 (by decide) ?_
    refine lv_iand hx hb dX9_holds_17 ?_
    refine lv_topi (fun x6 e_x6 => ?_)
    have e_x6 := ti_and e_x6 (show (1 : Int32).toInt = 1 by decide) (by decide)
    refine lv_if_ne (tgt := 25) hx hb dX9_holds_18 (by decide) (fun c18_7 => ?_) (fun c18_7 => ?_)
    · have c18_7 : ¬ (x6.toInt = 0) := mt (cv_eq rfl (by decide)).mpr c18_7
      refine lv_iconst (v := 0) hx hb dX9_holds_25 (by decide) ?_
      exact W.zret (v := 0) hx hb hr rfl (fun t ht hW => ⟨0, rfl, (by decide), ht⟩) (fun _ h => absurd h List.not_mem_nil) dX9_holds_26
    · have c18_7 : x6.toInt = 0 := (cv_eq rfl (by decide)).mp c18_7
      refine lv_iconst (v := 1) hx hb dX9_holds_21 (by decide) ?_
      refine lv_goto (tgt := 26) hx hb dX9_holds_22 (by decide) ?_
      exact W.zret (v := 1) hx hb hr rfl (fun t ht hW => ⟨1, rfl, (by decide), ht⟩) (fun _ h => absurd h List.not_mem_nil) dX9_holds_26
set_option maxHeartbeats 4000000 in
set_option maxRecDepth 100000 in
theorem k_X9_opensOf (l : Launch) (dC : Nat → ClassId) (dI : Nat → Nat → Nat) (g : Gv) (a0 : Nat) (a1 : Int32) (a2 : Int32) (a3 : Int32) (a0_0 : Int32) (a0_1 : Int32) (a0_2 : Int32) (a0_3 : Int32) (a0_4 : Nat) (a0_5 : Int32) (a0_6 : Int32) (a0_7 : Int32) (a0_8 : Int32) (a0_9 : Int32) (a0_10 : Int32) (a0_11 : Int64) (a0_12 : Int32) (a0_13 : Int32) (a0_14 : Int32) (a0_15 : Int32) (a0_16 : Int32) (a0_17 : Int32) (a0_18 : Nat) (a0_19 : Nat) (a0_20 : Nat) (a0_21 : Nat) (a0_22 : Nat) (a0_23 : Nat) (a0_24 : Nat) (a0_25 : Nat) (a0_26 : Nat) (a0_27 : Nat) (a0_28 : Nat) (a0_29 : Nat) (a0_30 : Nat) (a0_31 : Nat) (a0_32 : Nat) (a0_33 : Nat) (a0_34 : Nat) (a0_35 : Nat) (a0_36 : Int64) (a0_37 : Int32) (a0_38 : Nat) (a0_39 : Nat) (a0_40 : Int32) (a0_41 : Nat) (a0_42 : Nat) (a0_43 : Nat) (a0_21_c : ClassId) (a0_21_f : Nat → Int32) (a0_32_c : ClassId) (a0_32_f : Nat → Int32) (a0_43_c : ClassId) (a0_43_f : Nat → Int32) (h_a0_5 : 0 ≤ a0_5.toInt ∧ a0_5.toInt ≤ 1000) (h_a0_6 : 0 ≤ a0_6.toInt ∧ a0_6.toInt ≤ 1000) (h_a0_7 : 0 ≤ a0_7.toInt ∧ a0_7.toInt ≤ 1000) (h_a0_8 : 0 ≤ a0_8.toInt ∧ a0_8.toInt ≤ 1000) (h_a0_17 : 0 ≤ a0_17.toInt ∧ a0_17.toInt ≤ 1) (h_a0_37 : (-1) ≤ a0_37.toInt ∧ a0_37.toInt ≤ 23) (h_a0_40 : 0 ≤ a0_40.toInt ∧ a0_40.toInt ≤ 12) (h_a0_21_f : vr 0 12 a0_21_f) (ha1r : 0 ≤ a1.toInt ∧ a1.toInt < 24) : Met l yX9_opensOf (.code yX9_opensOf cX9_opensOf 7 (some .int) :: TBL) ({ frames := 1, cells := 0, slots := 0, locals := 23 }) (va_Pc [.ref a0, .int a1, .int a2, .int a3] (fun U => va_P (dC, dI) vwCl [(a0, .inr (8, [.int a0_0, .int a0_1, .int a0_2, .int a0_3, .ref a0_4, .int a0_5, .int a0_6, .int a0_7, .int a0_8, .int a0_9, .int a0_10, .long a0_11, .int a0_12, .int a0_13, .int a0_14, .int a0_15, .int a0_16, .int a0_17, .ref a0_18, .ref a0_19, .ref a0_20, .ref a0_21, .ref a0_22, .ref a0_23, .ref a0_24, .ref a0_25, .ref a0_26, .ref a0_27, .ref a0_28, .ref a0_29, .ref a0_30, .ref a0_31, .ref a0_32, .ref a0_33, .ref a0_34, .ref a0_35, .long a0_36, .int a0_37, .ref a0_38, .ref a0_39, .int a0_40, .ref a0_41, .ref a0_42, .ref a0_43])), (a0_21, .inl (a0_21_c, 2, .inl a0_21_f)), (a0_32, .inl (a0_32_c, 24, .inl a0_32_f)), (a0_43, .inl (a0_43_c, 288, .inl a0_43_f))] U.heap ∧ va_K (dC, dI) vwCl [(a0_21_c, .int), (a0_32_c, .int), (a0_43_c, .int)] U ∧ Ev g (fun _ => False) U)) (vp_Si (fun (r : Int32) => True)) 0 0 (fun _ => False) := by
  refine Met.ofW (cc := cX9_opensOf) (maxL := 7) (ret := (some .int)) (by decide) rfl ?_
  intro p e s m args below meth c s₁ B hml hv
  obtain ⟨rfl, hP, hK, hE⟩ := hv
  have hx := B.exec
  have hb := B.bytes
  have hr := B.returns
  have hts0 := atoms_spec (ws := (.code yX9_opensOf cX9_opensOf 7 (some .int) :: TBL)) B.pre
  have hts := fun (w : Cond) (h : w ∈ TBL) => hts0 w (List.mem_cons_of_mem _ h)
  have hown : s.vm.findClass RX9 = some m.cls := findClass_of_methodNamed B.named
  have hlocks := B.notSynchronized
  have hN := hE.1
  have hS : va_S (fun _ => False) s.heap s.heap [] := va_S.rf
  replace hP : va_P (dC, dI) vwCl [(a0, .inr (8, [.int a0_0, .int a0_1, .int a0_2, .int a0_3, .ref a0_4, .int a0_5, .int a0_6, .int a0_7, .int a0_8, .int a0_9, .int a0_10, .long a0_11, .int a0_12, .int a0_13, .int a0_14, .int a0_15, .int a0_16, .int a0_17, .ref a0_18, .ref a0_19, .ref a0_20, .ref a0_21, .ref a0_22, .ref a0_23, .ref a0_24, .ref a0_25, .ref a0_26, .ref a0_27, .ref a0_28, .ref a0_29, .ref a0_30, .ref a0_31, .ref a0_32, .ref a0_33, .ref a0_34, .ref a0_35, .long a0_36, .int a0_37, .ref a0_38, .ref a0_39, .int a0_40, .ref a0_41, .ref a0_42, .ref a0_43])), (a0_21, .inl (a0_21_c, 2, .inl a0_21_f)), (a0_32, .inl (a0_32_c, 24, .inl a0_32_f)), (a0_43, .inl (a0_43_c, 288, .inl a0_43_f))] s.heap := hP
  have hl := lv_entry ([.ref a0, .int a1, .int a2, .int a3]) (n := 7) (Nat.le_of_ble_eq_true rfl)
  rw [lg_entry_eq]
  generalize (lg_sl ([.ref a0, .int a1, .int a2, .int a3]) ++ List.replicate (7 - (lg_sl ([.ref a0, .int a1, .int a2, .int a3])).length) Slot.unset).toArray = ls at hl ⊢
  have hl : lv_has ls 7 [(0, .ref a0), (1, .int a1), (2, .int a2), (3, .int a3)] := hl
  have b_a1 := i32b a1
  have b_a2 := i32b a2
  have b_a3 := i32b a3
  have b_a0_0 := i32b a0_0
  have b_a0_1 := i32b a0_1
  have b_a0_2 := i32b a0_2
  have b_a0_3 := i32b a0_3
  have b_a0_9 := i32b a0_9
  have b_a0_10 := i32b a0_10
  have b_a0_12 := i32b a0_12
  have b_a0_13 := i32b a0_13
  have b_a0_14 := i32b a0_14
  have b_a0_15 := i32b a0_15
  have b_a0_16 := i32b a0_16
  refine lv_iconst (v := 0) hx hb dX9_opensOf_0 (by decide) ?_
  refine lv_istore (lv' := [(4, .int 0), (0, .ref a0), (1, .int a1), (2, .int a2), (3, .int a3)]) hx hb dX9_opensOf_1 hl (by decide) rfl (fun ls hl => ?_)
  refine lv_iconst (v := 0) hx hb dX9_opensOf_3 (by decide) ?_
  refine lv_istore (lv' := [(5, .int 0), (4, .int 0), (0, .ref a0), (1, .int a1), (2, .int a2), (3, .int a3)]) hx hb dX9_opensOf_4 hl (by decide) rfl (fun ls hl => ?_)
  have qc0 : (0 : Int32).toInt = 0 := by decide
  refine wloop (fun n H locs ls => ∃ (l6_5 : Int32) (l6_4 : Int32), n = (2147483647 - l6_5.toInt).toNat ∧ (0 ≤ l6_5.toInt) ∧ lv_has ls 7 [(5, .int l6_5), (4, .int l6_4), (0, .ref a0), (1, .int a1), (2, .int a2), (3, .int a3)] ∧ H = s.heap ∧ locs = []) ?_ ((2147483647 - (0 : Int32).toInt).toNat) _ _ _ ⟨0, 0, rfl, (by omega), lv_sub hl [0, 1, 2, 3, 4, 5] rfl, rfl, rfl⟩
  intro n6 H locs ls hI ih6
  obtain ⟨l6_5, l6_4, hn6, g_l6_5, hl, rfl, rfl⟩ := hI
  have b_l6_5 := i32b l6_5
  have b_l6_4 := i32b l6_4
  refine lv_iload hx hb dX9_opensOf_6 (lv_at hl 0 rfl) ?_
  refine lv_aload_n hx hb dX9_opensOf_8 rfl (lv_at hl 2 rfl) ?_
  refine va_get (D := (dC, dI)) (ci := 8) (v := .ref a0_21) (C := RX9) (T := TX9) (N := 44) hx hb hts inlX9 hown hK hP 0 rgL4_25bb07f rfl 21 (by decide) (hts (.fieldLink RX9 23 "ClosedUntilModel" "closures" "[I") qw_501) (fun _ h9 => h9) rfl dX9_opensOf_9 ?_
  refine lv_iconst (v := 0) hx hb dX9_opensOf_12 (by decide) ?_
  refine va_iald hx hb hK hP 1 0 rgL4_60d974a rgT3_b86a1dc (vin0 (by decide)) dX9_opensOf_13 ?_
  refine lv_topi (fun x1 e_x1 => ?_)
  have q_x1 : x1.toInt = (a0_21_f 0).toInt := congrArg Int32.toInt e_x1
  have b_x1 : 0 ≤ x1.toInt ∧ x1.toInt ≤ 12 := vr_at (lo := 0) (hi := 12) (f := a0_21_f) h_a0_21_f e_x1
  refine lv_icmp_ge (tgt := 67) hx hb dX9_opensOf_14 (by decide) (fun c14_2 => ?_) (fun c14_2 => ?_)
  · have c14_2 : x1.toInt ≤ l6_5.toInt := (cv_le rfl rfl).mp c14_2
    refine lv_iload hx hb dX9_opensOf_67 (lv_at hl 1 rfl) ?_
    exact W.iret (v := l6_4) hx hb hr (fun t ht hW => ⟨l6_4, rfl, trivial, ht⟩) (fun _ h => absurd h List.not_mem_nil) dX9_opensOf_69
  · have c14_2 : ¬ (x1.toInt ≤ l6_5.toInt) := mt (cv_le rfl rfl).mpr c14_2
    refine lv_aload_n hx hb dX9_opensOf_17 rfl (lv_at hl 2 rfl) ?_
    refine lv_iload hx hb dX9_opensOf_18 (lv_at hl 0 rfl) ?_
    refine lv_iload_n hx hb dX9_opensOf_20 rfl (lv_at hl 4 rfl) ?_
    refine lv_iload_n hx hb dX9_opensOf_21 rfl (lv_at hl 5 rfl) ?_
    have hPc := (rgP4_c6ff514 hP)
    have hKc := (rgK3_7ab6ad6 hK)
    refine vp_callSi ((va_runV (As := [.int l6_5, .int a2, .int a3]) (rest := []) ⟨hx, hb, hml, hown, hts⟩ (k_X9_holds l dC dI g (a0) (l6_5) (a2) (a3) (a0_0) (a0_1) (a0_2) (a0_3) (a0_4) (a0_5) (a0_6) (a0_7) (a0_8) (a0_9) (a0_10) (a0_11) (a0_12) (a0_13) (a0_14) (a0_15) (a0_16) (a0_17) (a0_18) (a0_19) (a0_20) (a0_21) (a0_22) (a0_23) (a0_24) (a0_25) (a0_26) (a0_27) (a0_28) (a0_29) (a0_30) (a0_31) (a0_32) (a0_33) (a0_34) (a0_35) (a0_36) (a0_37) (a0_38) (a0_39) (a0_40) (a0_41) (a0_42) (a0_43) (a0_32_c) (a0_32_f) (by omega) (by omega) (by omega) (by omega) (by omega) (by omega) (by omega) (by omega)) (cwV 3 hts (gwV qw_537 qw_538 qw_539 qw_386 qw_536) rfl rfl rfl (by decide +kernel) ⟨Nat.le_of_ble_eq_true rfl, Nat.le_of_ble_eq_true rfl⟩) ⟨fun a U g9 mk q => ⟨q.1, q.2.1, va_K.moved (u := U) (U := U.calling g9 mk a) (Vm.Alike.refl U.vm) q.2.2.1, Ev.bl q.2.2.2⟩, va_recv hK hP (ci := 8) (q0 := 0) rfl rgL4_25bb07f, fun U hU hW => ⟨rfl, atB hU hPc, va_K.moved hW.alike hKc, hE.go hS (fun _ h => h.elim) hU hW⟩⟩ rfl rfl hl.1 rfl (lv_room (Nat.le_of_ble_eq_true rfl)) dX9_opensOf_22 ⟨Nat.le_of_ble_eq_true rfl, Nat.le_of_ble_eq_true rfl⟩)).run (fun r3 h_r3 => ?_)
    have h_r3 : (r3 = 0 ∨ r3 = 1) := h_r3
    have b_r3 := z01 (show r3 = 0 ∨ r3 = 1 from h_r3)
    refine lv_if_ne (tgt := 31) hx hb dX9_opensOf_25 (by decide) (fun c25_4 => ?_) (fun c25_4 => ?_)
    · have c25_4 : ¬ (r3.toInt = 0) := mt (cv_eq rfl (by decide)).mpr c25_4
      refine lv_aload_n hx hb dX9_opensOf_31 rfl (lv_at hl 2 rfl) ?_
      refine va_get (D := (dC, dI)) (ci := 8) (v := .ref a0_43) (C := RX9) (T := TX9) (N := 44) hx hb hts inlX9 hown hK hP 0 rgL4_25bb07f rfl 43 (by decide) (hts (.fieldLink RX9 82 "ClosedUntilModel" "endsAt" "[I") qw_535) (fun _ h9 => h9) rfl dX9_opensOf_32 ?_
      refine lv_bipush (v := 24) hx hb dX9_opensOf_35 (by decide) ?_
      refine lv_iload hx hb dX9_opensOf_37 (lv_at hl 0 rfl) ?_
      refine lv_imul hx hb dX9_opensOf_39 ?_
      refine lv_topi (fun x5 e_x5 => ?_)
      try have e_x5 := ti_mul e_x5 (show (24 : Int32).toInt = 24 by decide) rfl (by omega)
      refine lv_iload_n hx hb dX9_opensOf_40 rfl (lv_at hl 3 rfl) ?_
      refine lv_iadd hx hb dX9_opensOf_41 ?_
      refine lv_topi (fun x6 e_x6 => ?_)
      try have e_x6 := ti_add e_x6 rfl rfl (by omega)
      refine va_iald hx hb hK hP 3 2 rgL4_582d62e rgT3_173f9f1 (vinI (by omega) (by omega)) dX9_opensOf_42 ?_
      refine lv_topi (fun x7 e_x7 => ?_)
      have q_x7 := congrArg Int32.toInt e_x7
      have b_x7 := i32b x7
      refine lv_istore (lv' := [(6, .int x7), (5, .int l6_5), (4, .int l6_4), (0, .ref a0), (1, .int a1), (2, .int a2), (3, .int a3)]) hx hb dX9_opensOf_43 hl (by decide) rfl (fun ls hl => ?_)
      refine lv_iload hx hb dX9_opensOf_45 (lv_at hl 0 rfl) ?_
      refine lv_iload hx hb dX9_opensOf_47 (lv_at hl 2 rfl) ?_
      refine lv_icmp_le (tgt := 57) hx hb dX9_opensOf_49 (by decide) (fun c49_8 => ?_) (fun c49_8 => ?_)
      · have c49_8 : x7.toInt ≤ l6_4.toInt := (cv_le rfl rfl).mp c49_8
        refine lv_iload hx hb dX9_opensOf_57 (lv_at hl 2 rfl) ?_
        refine lv_istore (lv' := [(4, .int l6_4), (6, .int x7), (5, .int l6_5), (0, .ref a0), (1, .int a1), (2, .int a2), (3, .int a3)]) hx hb dX9_opensOf_59 hl (by decide) rfl (fun ls hl => ?_)
        obtain ⟨x9, e_x9⟩ : ∃ y : Int32, y = l6_5 + 1 := ⟨_, rfl⟩
        refine lv_iinc (v := x9) (lv' := [(5, .int x9), (4, .int l6_4), (6, .int x7), (0, .ref a0), (1, .int a1), (2, .int a2), (3, .int a3)]) hx hb dX9_opensOf_61 hl (k := 2) rfl (by rw [e_x9]; rfl) (by decide) rfl (fun ls hl => ?_)
        try have e_x9 := ti_add e_x9 rfl (show (1 : Int32).toInt = 1 by decide) (by omega)
        refine lv_goto (tgt := 6) hx hb dX9_opensOf_64 (by decide) ?_
        exact ih6 ((2147483647 - x9.toInt).toNat) _ _ _ (by omega) ⟨x9, l6_4, rfl, (by omega), lv_sub hl [0, 1, 3, 4, 5, 6] rfl, rfl, rfl⟩
      · have c49_8 : ¬ (x7.toInt ≤ l6_4.toInt) := mt (cv_le rfl rfl).mpr c49_8
        refine lv_iload hx hb dX9_opensOf_52 (lv_at hl 0 rfl) ?_
        refine lv_goto (tgt := 59) hx hb dX9_opensOf_54 (by decide) ?_
        refine lv_istore (lv' := [(4, .int x7), (6, .int x7), (5, .int l6_5), (0, .ref a0), (1, .int a1), (2, .int a2), (3, .int a3)]) hx hb dX9_opensOf_59 hl (by decide) rfl (fun ls hl => ?_)
        obtain ⟨x10, e_x10⟩ : ∃ y : Int32, y = l6_5 + 1 := ⟨_, rfl⟩
        refine lv_iinc (v := x10) (lv' := [(5, .int x10), (4, .int x7), (6, .int x7), (0, .ref a0), (1, .int a1), (2, .int a2), (3, .int a3)]) hx hb dX9_opensOf_61 hl (k := 2) rfl (by rw [e_x10]; rfl) (by decide) rfl (fun ls hl => ?_)
        try have e_x10 := ti_add e_x10 rfl (show (1 : Int32).toInt = 1 by decide) (by omega)
        refine lv_goto (tgt := 6) hx hb dX9_opensOf_64 (by decide) ?_
        exact ih6 ((2147483647 - x10.toInt).toNat) _ _ _ (by omega) ⟨x10, x7, rfl, (by omega), lv_sub hl [0, 1, 3, 4, 5, 6] rfl, rfl, rfl⟩
    · have c25_4 : r3.toInt = 0 := (cv_eq rfl (by decide)).mp c25_4
      refine lv_goto (tgt := 61) hx hb dX9_opensOf_28 (by decide) ?_
      obtain ⟨x11, e_x11⟩ : ∃ y : Int32, y = l6_5 + 1 := ⟨_, rfl⟩
      refine lv_iinc (v := x11) (lv' := [(5, .int x11), (4, .int l6_4), (0, .ref a0), (1, .int a1), (2, .int a2), (3, .int a3)]) hx hb dX9_opensOf_61 hl (k := 0) rfl (by rw [e_x11]; rfl) (by decide) rfl (fun ls hl => ?_)
      try have e_x11 := ti_add e_x11 rfl (show (1 : Int32).toInt = 1 by decide) (by omega)
      refine lv_goto (tgt := 6) hx hb dX9_opensOf_64 (by decide) ?_
      exact ih6 ((2147483647 - x11.toInt).toNat) _ _ _ (by omega) ⟨x11, l6_4, rfl, (by omega), lv_sub hl [0, 1, 2, 3, 4, 5] rfl, rfl, rfl⟩
set_option maxHeartbeats 4000000 in
set_option maxRecDepth 100000 in
theorem k_X9_areReaders (l : Launch) (dC : Nat → ClassId) (dI : Nat → Nat → Nat) (g : Gv) (a0 : Int32)  : Met l yX9_areReaders (.code yX9_areReaders cX9_areReaders 1 (some .boolean) :: TBL) ({ frames := 1, cells := 0, slots := 0, locals := 25 }) (va_Pc [.int a0] (fun U => va_P (dC, dI) vwCl [] U.heap ∧ va_K (dC, dI) vwCl [] U ∧ Ev g (fun _ => False) U)) (vp_Si (fun (r : Int32) => (r = 0 ∨ r = 1))) 0 0 (fun _ => False) := by
  refine Met.ofW (cc := cX9_areReaders) (maxL := 1) (ret := (some .boolean)) (by decide) rfl ?_
  intro p e s m args below meth c s₁ B hml hv
  obtain ⟨rfl, hP, hK, hE⟩ := hv
  have hx := B.exec
  have hb := B.bytes
  have hr := B.returns
  have hts0 := atoms_spec (ws := (.code yX9_areReaders cX9_areReaders 1 (some .boolean) :: TBL)) B.pre
  have hts := fun (w : Cond) (h : w ∈ TBL) => hts0 w (List.mem_cons_of_mem _ h)
  have hown : s.vm.findClass RX9 = some m.cls := findClass_of_methodNamed B.named
  have hlocks := B.notSynchronized
  have hN := hE.1
  have hS : va_S (fun _ => False) s.heap s.heap [] := va_S.rf
  replace hP : va_P (dC, dI) vwCl [] s.heap := hP
  have hl := lv_entry ([.int a0]) (n := 1) (Nat.le_of_ble_eq_true rfl)
  rw [lg_entry_eq]
  generalize (lg_sl ([.int a0]) ++ List.replicate (1 - (lg_sl ([.int a0])).length) Slot.unset).toArray = ls at hl ⊢
  have hl : lv_has ls 1 [(0, .int a0)] := hl
  have b_a0 := i32b a0
  refine lv_iload_n hx hb dX9_areReaders_0 rfl (lv_at hl 0 rfl) ?_
  refine lv_i2l hx hb dX9_areReaders_1 rfl ?_
  refine lv_lconst (v := 0) hx hb dX9_areReaders_2 (by decide) ?_
  refine lv_ldc2 (v := 15) hx hb hown (hts (.constantLong RX9 359 (15)) qw_540) dX9_areReaders_3 ?_
  have hPc := hP
  have hKc := hK
  refine vp_callSi ((va_runS (As := [.long (a0.toInt64), .long 0, .long 15]) (rest := []) ⟨hx, hb, hml, hown, hts⟩ (k_X9_within l dC dI g ((a0.toInt64)) (0) (15) (a0.toInt) (0) (15) (w_li rfl) (by decide) (by decide)) (va_cwS 3 hts (gwS qw_444 qw_445 qw_386 qw_443) rfl rfl rfl (by decide +kernel) ⟨Nat.le_of_ble_eq_true rfl, Nat.le_of_ble_eq_true rfl⟩) ⟨fun a U g9 mk q => ⟨q.1, q.2.1, va_K.moved (u := U) (U := U.calling g9 mk a) (Vm.Alike.refl U.vm) q.2.2.1, Ev.bl q.2.2.2⟩, fun U hU hW => ⟨rfl, atB hU hPc, va_K.moved hW.alike hKc, hE.go hS (fun _ h => h.elim) hU hW⟩⟩ rfl rfl hl.1 rfl (lv_room (Nat.le_of_ble_eq_true rfl)) dX9_areReaders_6 ⟨Nat.le_of_ble_eq_true rfl, Nat.le_of_ble_eq_true rfl⟩)).run (fun r1 h_r1 => ?_)
  have h_r1 : (r1 = 0 ∨ r1 = 1) ∧ ((r1.toInt = 1 ∧ 0 ≤ a0.toInt ∧ a0.toInt ≤ 15) ∨ (r1.toInt = 0 ∧ ¬ (0 ≤ a0.toInt ∧ a0.toInt ≤ 15))) := h_r1
  have b_r1 := z01 h_r1.1
  have hz_r1 : r1 = 0 ∨ r1 = 1 := by first | assumption | exact h_r1.1 | (rcases (show r1.toInt = 0 ∨ r1.toInt = 1 by omega) with q | q; exact Or.inl (Int32.toInt_inj.mp q); exact Or.inr (Int32.toInt_inj.mp q))
  exact W.zret (v := r1) hx hb hr (narB (by assumption)) (fun t ht hW => ⟨r1, rfl, hz_r1, ht⟩) (fun _ h => absurd h List.not_mem_nil) dX9_areReaders_9
set_option maxHeartbeats 4000000 in
set_option maxRecDepth 100000 in
theorem k_X9_openOn (l : Launch) (dC : Nat → ClassId) (dI : Nat → Nat → Nat) (g : Gv) (a0 : Nat) (a1 : Int32) (a2 : Int32) (a3 : Int32) (a0_0 : Int32) (a0_1 : Int32) (a0_2 : Int32) (a0_3 : Int32) (a0_4 : Nat) (a0_5 : Int32) (a0_6 : Int32) (a0_7 : Int32) (a0_8 : Int32) (a0_9 : Int32) (a0_10 : Int32) (a0_11 : Int64) (a0_12 : Int32) (a0_13 : Int32) (a0_14 : Int32) (a0_15 : Int32) (a0_16 : Int32) (a0_17 : Int32) (a0_18 : Nat) (a0_19 : Nat) (a0_20 : Nat) (a0_21 : Nat) (a0_22 : Nat) (a0_23 : Nat) (a0_24 : Nat) (a0_25 : Nat) (a0_26 : Nat) (a0_27 : Nat) (a0_28 : Nat) (a0_29 : Nat) (a0_30 : Nat) (a0_31 : Nat) (a0_32 : Nat) (a0_33 : Nat) (a0_34 : Nat) (a0_35 : Nat) (a0_36 : Int64) (a0_37 : Int32) (a0_38 : Nat) (a0_39 : Nat) (a0_40 : Int32) (a0_41 : Nat) (a0_42 : Nat) (a0_43 : Nat) (a0_20_c : ClassId) (a0_20_f : Nat → Int32) (a0_21_c : ClassId) (a0_21_f : Nat → Int32) (a0_32_c : ClassId) (a0_32_f : Nat → Int32) (a0_43_c : ClassId) (a0_43_f : Nat → Int32) (h_a0_5 : 0 ≤ a0_5.toInt ∧ a0_5.toInt ≤ 1000) (h_a0_6 : 0 ≤ a0_6.toInt ∧ a0_6.toInt ≤ 1000) (h_a0_7 : 0 ≤ a0_7.toInt ∧ a0_7.toInt ≤ 1000) (h_a0_8 : 0 ≤ a0_8.toInt ∧ a0_8.toInt ≤ 1000) (h_a0_17 : 0 ≤ a0_17.toInt ∧ a0_17.toInt ≤ 1) (h_a0_37 : (-1) ≤ a0_37.toInt ∧ a0_37.toInt ≤ 23) (h_a0_40 : 0 ≤ a0_40.toInt ∧ a0_40.toInt ≤ 12) (h_a0_20_f : vr 0 24 a0_20_f) (h_a0_21_f : vr 0 12 a0_21_f) : Met l yX9_openOn (.code yX9_openOn cX9_openOn 6 (some .int) :: TBL) ({ frames := 2, cells := 0, slots := 0, locals := 49 }) (va_Pc [.ref a0, .int a1, .int a2, .int a3] (fun U => va_P (dC, dI) vwCl [(a0, .inr (8, [.int a0_0, .int a0_1, .int a0_2, .int a0_3, .ref a0_4, .int a0_5, .int a0_6, .int a0_7, .int a0_8, .int a0_9, .int a0_10, .long a0_11, .int a0_12, .int a0_13, .int a0_14, .int a0_15, .int a0_16, .int a0_17, .ref a0_18, .ref a0_19, .ref a0_20, .ref a0_21, .ref a0_22, .ref a0_23, .ref a0_24, .ref a0_25, .ref a0_26, .ref a0_27, .ref a0_28, .ref a0_29, .ref a0_30, .ref a0_31, .ref a0_32, .ref a0_33, .ref a0_34, .ref a0_35, .long a0_36, .int a0_37, .ref a0_38, .ref a0_39, .int a0_40, .ref a0_41, .ref a0_42, .ref a0_43])), (a0_20, .inl (a0_20_c, 2, .inl a0_20_f)), (a0_21, .inl (a0_21_c, 2, .inl a0_21_f)), (a0_32, .inl (a0_32_c, 24, .inl a0_32_f)), (a0_43, .inl (a0_43_c, 288, .inl a0_43_f))] U.heap ∧ va_K (dC, dI) vwCl [(a0_20_c, .int), (a0_21_c, .int), (a0_32_c, .int), (a0_43_c, .int)] U ∧ Ev g (fun _ => False) U)) (vp_Si (fun (r : Int32) => True)) 0 0 (fun _ => False) := by
  refine Met.ofW (cc := cX9_openOn) (maxL := 6) (ret := (some .int)) (by decide) rfl ?_
  intro p e s m args below meth c s₁ B hml hv
  obtain ⟨rfl, hP, hK, hE⟩ := hv
  have hx := B.exec
  have hb := B.bytes
  have hr := B.returns
  have hts0 := atoms_spec (ws := (.code yX9_openOn cX9_openOn 6 (some .int) :: TBL)) B.pre
  have hts := fun (w : Cond) (h : w ∈ TBL) => hts0 w (List.mem_cons_of_mem _ h)
  have hown : s.vm.findClass RX9 = some m.cls := findClass_of_methodNamed B.named
  have hlocks := B.notSynchronized
  have hN := hE.1
  have hS : va_S (fun _ => False) s.heap s.heap [] := va_S.rf
  replace hP : va_P (dC, dI) vwCl [(a0, .inr (8, [.int a0_0, .int a0_1, .int a0_2, .int a0_3, .ref a0_4, .int a0_5, .int a0_6, .int a0_7, .int a0_8, .int a0_9, .int a0_10, .long a0_11, .int a0_12, .int a0_13, .int a0_14, .int a0_15, .int a0_16, .int a0_17, .ref a0_18, .ref a0_19, .ref a0_20, .ref a0_21, .ref a0_22, .ref a0_23, .ref a0_24, .ref a0_25, .ref a0_26, .ref a0_27, .ref a0_28, .ref a0_29, .ref a0_30, .ref a0_31, .ref a0_32, .ref a0_33, .ref a0_34, .ref a0_35, .long a0_36, .int a0_37, .ref a0_38, .ref a0_39, .int a0_40, .ref a0_41, .ref a0_42, .ref a0_43])), (a0_20, .inl (a0_20_c, 2, .inl a0_20_f)), (a0_21, .inl (a0_21_c, 2, .inl a0_21_f)), (a0_32, .inl (a0_32_c, 24, .inl a0_32_f)), (a0_43, .inl (a0_43_c, 288, .inl a0_43_f))] s.heap := hP
  have hl := lv_entry ([.ref a0, .int a1, .int a2, .int a3]) (n := 6) (Nat.le_of_ble_eq_true rfl)
  rw [lg_entry_eq]
  generalize (lg_sl ([.ref a0, .int a1, .int a2, .int a3]) ++ List.replicate (6 - (lg_sl ([.ref a0, .int a1, .int a2, .int a3])).length) Slot.unset).toArray = ls at hl ⊢
  have hl : lv_has ls 6 [(0, .ref a0), (1, .int a1), (2, .int a2), (3, .int a3)] := hl
  have b_a1 := i32b a1
  have b_a2 := i32b a2
  have b_a3 := i32b a3
  have b_a0_0 := i32b a0_0
  have b_a0_1 := i32b a0_1
  have b_a0_2 := i32b a0_2
  have b_a0_3 := i32b a0_3
  have b_a0_9 := i32b a0_9
  have b_a0_10 := i32b a0_10
  have b_a0_12 := i32b a0_12
  have b_a0_13 := i32b a0_13
  have b_a0_14 := i32b a0_14
  have b_a0_15 := i32b a0_15
  have b_a0_16 := i32b a0_16
  refine lv_iconst (v := 0) hx hb dX9_openOn_0 (by decide) ?_
  refine lv_istore (lv' := [(4, .int 0), (0, .ref a0), (1, .int a1), (2, .int a2), (3, .int a3)]) hx hb dX9_openOn_1 hl (by decide) rfl (fun ls hl => ?_)
  refine lv_iconst (v := 0) hx hb dX9_openOn_3 (by decide) ?_
  refine lv_istore (lv' := [(5, .int 0), (4, .int 0), (0, .ref a0), (1, .int a1), (2, .int a2), (3, .int a3)]) hx hb dX9_openOn_4 hl (by decide) rfl (fun ls hl => ?_)
  have qc0 : (0 : Int32).toInt = 0 := by decide
  refine wloop (fun n H locs ls => ∃ (l6_5 : Int32) (l6_4 : Int32), n = (2147483647 - l6_5.toInt).toNat ∧ (0 ≤ l6_5.toInt) ∧ lv_has ls 6 [(5, .int l6_5), (4, .int l6_4), (0, .ref a0), (1, .int a1), (2, .int a2), (3, .int a3)] ∧ H = s.heap ∧ locs = []) ?_ ((2147483647 - (0 : Int32).toInt).toNat) _ _ _ ⟨0, 0, rfl, (by omega), lv_sub hl [0, 1, 2, 3, 4, 5] rfl, rfl, rfl⟩
  intro n6 H locs ls hI ih6
  obtain ⟨l6_5, l6_4, hn6, g_l6_5, hl, rfl, rfl⟩ := hI
  have b_l6_5 := i32b l6_5
  have b_l6_4 := i32b l6_4
  refine lv_iload hx hb dX9_openOn_6 (lv_at hl 0 rfl) ?_
  refine lv_aload_n hx hb dX9_openOn_8 rfl (lv_at hl 2 rfl) ?_
  refine va_get (D := (dC, dI)) (ci := 8) (v := .ref a0_20) (C := RX9) (T := TX9) (N := 44) hx hb hts inlX9 hown hK hP 0 rgL5_a6879b9 rfl 20 (by decide) (hts (.fieldLink RX9 20 "ClosedUntilModel" "pieces" "[I") qw_439) (fun _ h9 => h9) rfl dX9_openOn_9 ?_
  refine lv_iconst (v := 0) hx hb dX9_openOn_12 (by decide) ?_
  refine va_iald hx hb hK hP 1 0 rgL5_8fa4d66 rgT4_b662ba5 (vin0 (by decide)) dX9_openOn_13 ?_
  refine lv_topi (fun x1 e_x1 => ?_)
  have q_x1 : x1.toInt = (a0_20_f 0).toInt := congrArg Int32.toInt e_x1
  have b_x1 : 0 ≤ x1.toInt ∧ x1.toInt ≤ 24 := vr_at (lo := 0) (hi := 24) (f := a0_20_f) h_a0_20_f e_x1
  refine lv_icmp_ge (tgt := 48) hx hb dX9_openOn_14 (by decide) (fun c14_2 => ?_) (fun c14_2 => ?_)
  · have c14_2 : x1.toInt ≤ l6_5.toInt := (cv_le rfl rfl).mp c14_2
    refine lv_iload hx hb dX9_openOn_48 (lv_at hl 1 rfl) ?_
    exact W.iret (v := l6_4) hx hb hr (fun t ht hW => ⟨l6_4, rfl, trivial, ht⟩) (fun _ h => absurd h List.not_mem_nil) dX9_openOn_50
  · have c14_2 : ¬ (x1.toInt ≤ l6_5.toInt) := mt (cv_le rfl rfl).mpr c14_2
    refine lv_iload hx hb dX9_openOn_17 (lv_at hl 1 rfl) ?_
    refine lv_aload_n hx hb dX9_openOn_19 rfl (lv_at hl 2 rfl) ?_
    refine lv_iload hx hb dX9_openOn_20 (lv_at hl 0 rfl) ?_
    refine lv_iload_n hx hb dX9_openOn_22 rfl (lv_at hl 4 rfl) ?_
    refine lv_iload_n hx hb dX9_openOn_23 rfl (lv_at hl 5 rfl) ?_
    have hPc := (rgP5_f6d5339 hP)
    have hKc := (rgK4_4b01686 hK)
    refine vp_callSi ((va_runV (As := [.int l6_5, .int a2, .int a3]) (rest := [.int l6_4]) ⟨hx, hb, hml, hown, hts⟩ (k_X9_opensOf l dC dI g (a0) (l6_5) (a2) (a3) (a0_0) (a0_1) (a0_2) (a0_3) (a0_4) (a0_5) (a0_6) (a0_7) (a0_8) (a0_9) (a0_10) (a0_11) (a0_12) (a0_13) (a0_14) (a0_15) (a0_16) (a0_17) (a0_18) (a0_19) (a0_20) (a0_21) (a0_22) (a0_23) (a0_24) (a0_25) (a0_26) (a0_27) (a0_28) (a0_29) (a0_30) (a0_31) (a0_32) (a0_33) (a0_34) (a0_35) (a0_36) (a0_37) (a0_38) (a0_39) (a0_40) (a0_41) (a0_42) (a0_43) (a0_21_c) (a0_21_f) (a0_32_c) (a0_32_f) (a0_43_c) (a0_43_f) (by omega) (by omega) (by omega) (by omega) (by omega) (by omega) (by omega) h_a0_21_f (by omega)) (cwV 3 hts (gwV qw_542 qw_543 qw_544 qw_386 qw_541) rfl rfl rfl (by decide +kernel) ⟨Nat.le_of_ble_eq_true rfl, Nat.le_of_ble_eq_true rfl⟩) ⟨fun a U g9 mk q => ⟨q.1, q.2.1, va_K.moved (u := U) (U := U.calling g9 mk a) (Vm.Alike.refl U.vm) q.2.2.1, Ev.bl q.2.2.2⟩, va_recv hK hP (ci := 8) (q0 := 0) rfl rgL5_a6879b9, fun U hU hW => ⟨rfl, atB hU hPc, va_K.moved hW.alike hKc, hE.go hS (fun _ h => h.elim) hU hW⟩⟩ rfl rfl hl.1 rfl (lv_room (Nat.le_of_ble_eq_true rfl)) dX9_openOn_24 ⟨Nat.le_of_ble_eq_true rfl, Nat.le_of_ble_eq_true rfl⟩)).run (fun r3 h_r3 => ?_)
    have b_r3 := i32b r3
    refine lv_iload_n hx hb dX9_openOn_27 rfl (lv_at hl 3 rfl) ?_
    refine lv_icmp_gt (tgt := 38) hx hb dX9_openOn_28 (by decide) (fun c28_4 => ?_) (fun c28_4 => ?_)
    · have c28_4 : a1.toInt < r3.toInt := (cv_lt rfl rfl).mp c28_4
      refine lv_iconst (v := 0) hx hb dX9_openOn_38 (by decide) ?_
      refine lv_ior hx hb dX9_openOn_39 ?_
      refine lv_topi (fun x5 e_x5 => ?_)
      refine lv_istore (lv' := [(4, .int x5), (5, .int l6_5), (0, .ref a0), (1, .int a1), (2, .int a2), (3, .int a3)]) hx hb dX9_openOn_40 hl (by decide) rfl (fun ls hl => ?_)
      obtain ⟨x6, e_x6⟩ : ∃ y : Int32, y = l6_5 + 1 := ⟨_, rfl⟩
      refine lv_iinc (v := x6) (lv' := [(5, .int x6), (4, .int x5), (0, .ref a0), (1, .int a1), (2, .int a2), (3, .int a3)]) hx hb dX9_openOn_42 hl (k := 1) rfl (by rw [e_x6]; rfl) (by decide) rfl (fun ls hl => ?_)
      try have e_x6 := ti_add e_x6 rfl (show (1 : Int32).toInt = 1 by decide) (by omega)
      refine lv_goto (tgt := 6) hx hb dX9_openOn_45 (by decide) ?_
      exact ih6 ((2147483647 - x6.toInt).toNat) _ _ _ (by omega) ⟨x6, x5, rfl, (by omega), lv_sub hl [0, 1, 2, 3, 4, 5] rfl, rfl, rfl⟩
    · have c28_4 : ¬ (a1.toInt < r3.toInt) := mt (cv_lt rfl rfl).mpr c28_4
      refine lv_iconst (v := 1) hx hb dX9_openOn_31 (by decide) ?_
      refine lv_iload hx hb dX9_openOn_32 (lv_at hl 0 rfl) ?_
      refine lv_ishl hx hb dX9_openOn_34 ?_
      refine lv_topi (fun x7 e_x7 => ?_)
      refine lv_goto (tgt := 39) hx hb dX9_openOn_35 (by decide) ?_
      refine lv_ior hx hb dX9_openOn_39 ?_
      refine lv_topi (fun x8 e_x8 => ?_)
      refine lv_istore (lv' := [(4, .int x8), (5, .int l6_5), (0, .ref a0), (1, .int a1), (2, .int a2), (3, .int a3)]) hx hb dX9_openOn_40 hl (by decide) rfl (fun ls hl => ?_)
      obtain ⟨x9, e_x9⟩ : ∃ y : Int32, y = l6_5 + 1 := ⟨_, rfl⟩
      refine lv_iinc (v := x9) (lv' := [(5, .int x9), (4, .int x8), (0, .ref a0), (1, .int a1), (2, .int a2), (3, .int a3)]) hx hb dX9_openOn_42 hl (k := 1) rfl (by rw [e_x9]; rfl) (by decide) rfl (fun ls hl => ?_)
      try have e_x9 := ti_add e_x9 rfl (show (1 : Int32).toInt = 1 by decide) (by omega)
      refine lv_goto (tgt := 6) hx hb dX9_openOn_45 (by decide) ?_
      exact ih6 ((2147483647 - x9.toInt).toNat) _ _ _ (by omega) ⟨x9, x8, rfl, (by omega), lv_sub hl [0, 1, 2, 3, 4, 5] rfl, rfl, rfl⟩
set_option maxHeartbeats 4000000 in
set_option maxRecDepth 100000 in
theorem k_X9_isAsked (l : Launch) (dC : Nat → ClassId) (dI : Nat → Nat → Nat) (g : Gv) (a0 : Int32) (a1 : Int32)  : Met l yX9_isAsked (.code yX9_isAsked cX9_isAsked 2 (some .boolean) :: TBL) ({ frames := 2, cells := 0, slots := 0, locals := 45 }) (va_Pc [.int a0, .int a1] (fun U => va_P (dC, dI) vwCl [] U.heap ∧ va_K (dC, dI) vwCl [] U ∧ Ev g (fun _ => False) U)) (vp_Si (fun (r : Int32) => (r = 0 ∨ r = 1))) 0 0 (fun _ => False) := by
  refine Met.ofW (cc := cX9_isAsked) (maxL := 2) (ret := (some .boolean)) (by decide) rfl ?_
  intro p e s m args below meth c s₁ B hml hv
  obtain ⟨rfl, hP, hK, hE⟩ := hv
  have hx := B.exec
  have hb := B.bytes
  have hr := B.returns
  have hts0 := atoms_spec (ws := (.code yX9_isAsked cX9_isAsked 2 (some .boolean) :: TBL)) B.pre
  have hts := fun (w : Cond) (h : w ∈ TBL) => hts0 w (List.mem_cons_of_mem _ h)
  have hown : s.vm.findClass RX9 = some m.cls := findClass_of_methodNamed B.named
  have hlocks := B.notSynchronized
  have hN := hE.1
  have hS : va_S (fun _ => False) s.heap s.heap [] := va_S.rf
  replace hP : va_P (dC, dI) vwCl [] s.heap := hP
  have hl := lv_entry ([.int a0, .int a1]) (n := 2) (Nat.le_of_ble_eq_true rfl)
  rw [lg_entry_eq]
  generalize (lg_sl ([.int a0, .int a1]) ++ List.replicate (2 - (lg_sl ([.int a0, .int a1])).length) Slot.unset).toArray = ls at hl ⊢
  have hl : lv_has ls 2 [(0, .int a0), (1, .int a1)] := hl
  have b_a0 := i32b a0
  have b_a1 := i32b a1
  refine lv_iload_n hx hb dX9_isAsked_0 rfl (lv_at hl 0 rfl) ?_
  refine lv_i2l hx hb dX9_isAsked_1 rfl ?_
  refine lv_lconst (v := 0) hx hb dX9_isAsked_2 (by decide) ?_
  refine lv_ldc2 (v := 219145) hx hb hown (hts (.constantLong RX9 133 (219145)) qw_449) dX9_isAsked_3 ?_
  have hPc := hP
  have hKc := hK
  refine vp_callSi ((va_runS (As := [.long (a0.toInt64), .long 0, .long 219145]) (rest := []) ⟨hx, hb, hml, hown, hts⟩ (k_X9_within l dC dI g ((a0.toInt64)) (0) (219145) (a0.toInt) (0) (219145) (w_li rfl) (by decide) (by decide)) (va_cwS 3 hts (gwS qw_444 qw_445 qw_386 qw_443) rfl rfl rfl (by decide +kernel) ⟨Nat.le_of_ble_eq_true rfl, Nat.le_of_ble_eq_true rfl⟩) ⟨fun a U g9 mk q => ⟨q.1, q.2.1, va_K.moved (u := U) (U := U.calling g9 mk a) (Vm.Alike.refl U.vm) q.2.2.1, Ev.bl q.2.2.2⟩, fun U hU hW => ⟨rfl, atB hU hPc, va_K.moved hW.alike hKc, hE.go hS (fun _ h => h.elim) hU hW⟩⟩ rfl rfl hl.1 rfl (lv_room (Nat.le_of_ble_eq_true rfl)) dX9_isAsked_6 ⟨Nat.le_of_ble_eq_true rfl, Nat.le_of_ble_eq_true rfl⟩)).run (fun r1 h_r1 => ?_)
  have h_r1 : (r1 = 0 ∨ r1 = 1) ∧ ((r1.toInt = 1 ∧ 0 ≤ a0.toInt ∧ a0.toInt ≤ 219145) ∨ (r1.toInt = 0 ∧ ¬ (0 ≤ a0.toInt ∧ a0.toInt ≤ 219145))) := h_r1
  have b_r1 := z01 h_r1.1
  refine lv_if_eq (tgt := 23) hx hb dX9_isAsked_9 (by decide) (fun c9_2 => ?_) (fun c9_2 => ?_)
  · have c9_2 : r1.toInt = 0 := (cv_eq rfl (by decide)).mp c9_2
    refine lv_iconst (v := 0) hx hb dX9_isAsked_23 (by decide) ?_
    exact W.zret (v := 0) hx hb hr rfl (fun t ht hW => ⟨0, rfl, (by decide), ht⟩) (fun _ h => absurd h List.not_mem_nil) dX9_isAsked_24
  · have c9_2 : ¬ (r1.toInt = 0) := mt (cv_eq rfl (by decide)).mpr c9_2
    refine lv_iload_n hx hb dX9_isAsked_12 rfl (lv_at hl 1 rfl) ?_
    have hPc := hP
    have hKc := hK
    refine vp_callSi ((va_runS (As := [.int a1]) (rest := []) ⟨hx, hb, hml, hown, hts⟩ (k_X9_areReaders l dC dI g (a1) ) (va_cwS 1 hts (gwS qw_546 qw_547 qw_386 qw_545) rfl rfl rfl (by decide +kernel) ⟨Nat.le_of_ble_eq_true rfl, Nat.le_of_ble_eq_true rfl⟩) ⟨fun a U g9 mk q => ⟨q.1, q.2.1, va_K.moved (u := U) (U := U.calling g9 mk a) (Vm.Alike.refl U.vm) q.2.2.1, Ev.bl q.2.2.2⟩, fun U hU hW => ⟨rfl, atB hU hPc, va_K.moved hW.alike hKc, hE.go hS (fun _ h => h.elim) hU hW⟩⟩ rfl rfl hl.1 rfl (lv_room (Nat.le_of_ble_eq_true rfl)) dX9_isAsked_13 ⟨Nat.le_of_ble_eq_true rfl, Nat.le_of_ble_eq_true rfl⟩)).run (fun r3 h_r3 => ?_)
    have h_r3 : (r3 = 0 ∨ r3 = 1) := h_r3
    have b_r3 := z01 (show r3 = 0 ∨ r3 = 1 from h_r3)
    refine lv_if_eq (tgt := 23) hx hb dX9_isAsked_16 (by decide) (fun c16_4 => ?_) (fun c16_4 => ?_)
    · have c16_4 : r3.toInt = 0 := (cv_eq rfl (by decide)).mp c16_4
      refine lv_iconst (v := 0) hx hb dX9_isAsked_23 (by decide) ?_
      exact W.zret (v := 0) hx hb hr rfl (fun t ht hW => ⟨0, rfl, (by decide), ht⟩) (fun _ h => absurd h List.not_mem_nil) dX9_isAsked_24
    · have c16_4 : ¬ (r3.toInt = 0) := mt (cv_eq rfl (by decide)).mpr c16_4
      refine lv_iconst (v := 1) hx hb dX9_isAsked_19 (by decide) ?_
      refine lv_goto (tgt := 24) hx hb dX9_isAsked_20 (by decide) ?_
      exact W.zret (v := 1) hx hb hr rfl (fun t ht hW => ⟨1, rfl, (by decide), ht⟩) (fun _ h => absurd h List.not_mem_nil) dX9_isAsked_24
set_option maxHeartbeats 4000000 in
set_option maxRecDepth 100000 in
theorem k_X9_isAhead (l : Launch) (dC : Nat → ClassId) (dI : Nat → Nat → Nat) (g : Gv) (a0 : Nat) (a1 : Int32) (a2 : Int32) (a3 : Int32) (a0_0 : Int32) (a0_1 : Int32) (a0_2 : Int32) (a0_3 : Int32) (a0_4 : Nat) (a0_5 : Int32) (a0_6 : Int32) (a0_7 : Int32) (a0_8 : Int32) (a0_9 : Int32) (a0_10 : Int32) (a0_11 : Int64) (a0_12 : Int32) (a0_13 : Int32) (a0_14 : Int32) (a0_15 : Int32) (a0_16 : Int32) (a0_17 : Int32) (a0_18 : Nat) (a0_19 : Nat) (a0_20 : Nat) (a0_21 : Nat) (a0_22 : Nat) (a0_23 : Nat) (a0_24 : Nat) (a0_25 : Nat) (a0_26 : Nat) (a0_27 : Nat) (a0_28 : Nat) (a0_29 : Nat) (a0_30 : Nat) (a0_31 : Nat) (a0_32 : Nat) (a0_33 : Nat) (a0_34 : Nat) (a0_35 : Nat) (a0_36 : Int64) (a0_37 : Int32) (a0_38 : Nat) (a0_39 : Nat) (a0_40 : Int32) (a0_41 : Nat) (a0_42 : Nat) (a0_43 : Nat) (a0_21_c : ClassId) (a0_21_f : Nat → Int32) (a0_32_c : ClassId) (a0_32_f : Nat → Int32) (a0_38_c : ClassId) (a0_38_f : Nat → Int32) (a0_43_c : ClassId) (a0_43_f : Nat → Int32) (nn : Int) (h_a0_5 : 0 ≤ a0_5.toInt ∧ a0_5.toInt ≤ 1000) (h_a0_6 : 0 ≤ a0_6.toInt ∧ a0_6.toInt ≤ 1000) (h_a0_7 : 0 ≤ a0_7.toInt ∧ a0_7.toInt ≤ 1000) (h_a0_8 : 0 ≤ a0_8.toInt ∧ a0_8.toInt ≤ 1000) (h_a0_17 : 0 ≤ a0_17.toInt ∧ a0_17.toInt ≤ 1) (h_a0_37 : (-1) ≤ a0_37.toInt ∧ a0_37.toInt ≤ 23) (h_a0_40 : 0 ≤ a0_40.toInt ∧ a0_40.toInt ≤ 12) (h_a0_21_f : vr 0 12 a0_21_f) (hnn : nn ≤ 24) (hms : RowOk nn a0_38_f 0) (h1 : 0 ≤ a1.toInt ∧ a1.toInt < nn) (h2 : 0 ≤ a2.toInt ∧ a2.toInt < nn) : Met l yX9_isAhead (.code yX9_isAhead cX9_isAhead 6 (some .boolean) :: TBL) ({ frames := 2, cells := 0, slots := 0, locals := 49 }) (va_Pc [.ref a0, .int a1, .int a2, .int a3] (fun U => va_P (dC, dI) vwCl [(a0, .inr (8, [.int a0_0, .int a0_1, .int a0_2, .int a0_3, .ref a0_4, .int a0_5, .int a0_6, .int a0_7, .int a0_8, .int a0_9, .int a0_10, .long a0_11, .int a0_12, .int a0_13, .int a0_14, .int a0_15, .int a0_16, .int a0_17, .ref a0_18, .ref a0_19, .ref a0_20, .ref a0_21, .ref a0_22, .ref a0_23, .ref a0_24, .ref a0_25, .ref a0_26, .ref a0_27, .ref a0_28, .ref a0_29, .ref a0_30, .ref a0_31, .ref a0_32, .ref a0_33, .ref a0_34, .ref a0_35, .long a0_36, .int a0_37, .ref a0_38, .ref a0_39, .int a0_40, .ref a0_41, .ref a0_42, .ref a0_43])), (a0_21, .inl (a0_21_c, 2, .inl a0_21_f)), (a0_32, .inl (a0_32_c, 24, .inl a0_32_f)), (a0_38, .inl (a0_38_c, 176, .inl a0_38_f)), (a0_43, .inl (a0_43_c, 288, .inl a0_43_f))] U.heap ∧ va_K (dC, dI) vwCl [(a0_21_c, .int), (a0_32_c, .int), (a0_38_c, .int), (a0_43_c, .int)] U ∧ Ev g (fun _ => False) U)) (vp_Si (fun (r : Int32) => (r = 0 ∨ r = 1))) 0 0 (fun _ => False) := by
  refine Met.ofW (cc := cX9_isAhead) (maxL := 6) (ret := (some .boolean)) (by decide) rfl ?_
  intro p e s m args below meth c s₁ B hml hv
  obtain ⟨rfl, hP, hK, hE⟩ := hv
  have hx := B.exec
  have hb := B.bytes
  have hr := B.returns
  have hts0 := atoms_spec (ws := (.code yX9_isAhead cX9_isAhead 6 (some .boolean) :: TBL)) B.pre
  have hts := fun (w : Cond) (h : w ∈ TBL) => hts0 w (List.mem_cons_of_mem _ h)
  have hown : s.vm.findClass RX9 = some m.cls := findClass_of_methodNamed B.named
  have hlocks := B.notSynchronized
  have hN := hE.1
  have hS : va_S (fun _ => False) s.heap s.heap [] := va_S.rf
  replace hP : va_P (dC, dI) vwCl [(a0, .inr (8, [.int a0_0, .int a0_1, .int a0_2, .int a0_3, .ref a0_4, .int a0_5, .int a0_6, .int a0_7, .int a0_8, .int a0_9, .int a0_10, .long a0_11, .int a0_12, .int a0_13, .int a0_14, .int a0_15, .int a0_16, .int a0_17, .ref a0_18, .ref a0_19, .ref a0_20, .ref a0_21, .ref a0_22, .ref a0_23, .ref a0_24, .ref a0_25, .ref a0_26, .ref a0_27, .ref a0_28, .ref a0_29, .ref a0_30, .ref a0_31, .ref a0_32, .ref a0_33, .ref a0_34, .ref a0_35, .long a0_36, .int a0_37, .ref a0_38, .ref a0_39, .int a0_40, .ref a0_41, .ref a0_42, .ref a0_43])), (a0_21, .inl (a0_21_c, 2, .inl a0_21_f)), (a0_32, .inl (a0_32_c, 24, .inl a0_32_f)), (a0_38, .inl (a0_38_c, 176, .inl a0_38_f)), (a0_43, .inl (a0_43_c, 288, .inl a0_43_f))] s.heap := hP
  have hl := lv_entry ([.ref a0, .int a1, .int a2, .int a3]) (n := 6) (Nat.le_of_ble_eq_true rfl)
  rw [lg_entry_eq]
  generalize (lg_sl ([.ref a0, .int a1, .int a2, .int a3]) ++ List.replicate (6 - (lg_sl ([.ref a0, .int a1, .int a2, .int a3])).length) Slot.unset).toArray = ls at hl ⊢
  have hl : lv_has ls 6 [(0, .ref a0), (1, .int a1), (2, .int a2), (3, .int a3)] := hl
  have b_a1 := i32b a1
  have b_a2 := i32b a2
  have b_a3 := i32b a3
  have b_a0_0 := i32b a0_0
  have b_a0_1 := i32b a0_1
  have b_a0_2 := i32b a0_2
  have b_a0_3 := i32b a0_3
  have b_a0_9 := i32b a0_9
  have b_a0_10 := i32b a0_10
  have b_a0_12 := i32b a0_12
  have b_a0_13 := i32b a0_13
  have b_a0_14 := i32b a0_14
  have b_a0_15 := i32b a0_15
  have b_a0_16 := i32b a0_16
  refine lv_aload_n hx hb dX9_isAhead_0 rfl (lv_at hl 0 rfl) ?_
  refine lv_iload_n hx hb dX9_isAhead_1 rfl (lv_at hl 1 rfl) ?_
  refine lv_iload_n hx hb dX9_isAhead_2 rfl (lv_at hl 3 rfl) ?_
  refine lv_iconst (v := 0) hx hb dX9_isAhead_3 (by decide) ?_
  have qc0 : (0 : Int32).toInt = 0 := by decide
  have hPc := (rgP5_b649b64 hP)
  have hKc := (rgK4_bfc26b5 hK)
  refine vp_callSi ((va_runV (As := [.int a1, .int a3, .int 0]) (rest := []) ⟨hx, hb, hml, hown, hts⟩ (k_X9_opensOf l dC dI g (a0) (a1) (a3) (0) (a0_0) (a0_1) (a0_2) (a0_3) (a0_4) (a0_5) (a0_6) (a0_7) (a0_8) (a0_9) (a0_10) (a0_11) (a0_12) (a0_13) (a0_14) (a0_15) (a0_16) (a0_17) (a0_18) (a0_19) (a0_20) (a0_21) (a0_22) (a0_23) (a0_24) (a0_25) (a0_26) (a0_27) (a0_28) (a0_29) (a0_30) (a0_31) (a0_32) (a0_33) (a0_34) (a0_35) (a0_36) (a0_37) (a0_38) (a0_39) (a0_40) (a0_41) (a0_42) (a0_43) (a0_21_c) (a0_21_f) (a0_32_c) (a0_32_f) (a0_43_c) (a0_43_f) (by omega) (by omega) (by omega) (by omega) (by omega) (by omega) (by omega) h_a0_21_f (by omega)) (cwV 3 hts (gwV qw_542 qw_543 qw_544 qw_386 qw_541) rfl rfl rfl (by decide +kernel) ⟨Nat.le_of_ble_eq_true rfl, Nat.le_of_ble_eq_true rfl⟩) ⟨fun a U g9 mk q => ⟨q.1, q.2.1, va_K.moved (u := U) (U := U.calling g9 mk a) (Vm.Alike.refl U.vm) q.2.2.1, Ev.bl q.2.2.2⟩, va_recv hK hP (ci := 8) (q0 := 0) rfl rgL5_a6879b9, fun U hU hW => ⟨rfl, atB hU hPc, va_K.moved hW.alike hKc, hE.go hS (fun _ h => h.elim) hU hW⟩⟩ rfl rfl hl.1 rfl (lv_room (Nat.le_of_ble_eq_true rfl)) dX9_isAhead_4 ⟨Nat.le_of_ble_eq_true rfl, Nat.le_of_ble_eq_true rfl⟩)).run (fun r1 h_r1 => ?_)
  have b_r1 := i32b r1
  refine lv_istore (lv' := [(4, .int r1), (0, .ref a0), (1, .int a1), (2, .int a2), (3, .int a3)]) hx hb dX9_isAhead_7 hl (by decide) rfl (fun ls hl => ?_)
  refine lv_aload_n hx hb dX9_isAhead_9 rfl (lv_at hl 1 rfl) ?_
  refine lv_iload_n hx hb dX9_isAhead_10 rfl (lv_at hl 3 rfl) ?_
  refine lv_iload_n hx hb dX9_isAhead_11 rfl (lv_at hl 4 rfl) ?_
  refine lv_iconst (v := 0) hx hb dX9_isAhead_12 (by decide) ?_
  have qc0 : (0 : Int32).toInt = 0 := by decide
  have hPc := (rgP5_b649b64 hP)
  have hKc := (rgK4_bfc26b5 hK)
  refine vp_callSi ((va_runV (As := [.int a2, .int a3, .int 0]) (rest := []) ⟨hx, hb, hml, hown, hts⟩ (k_X9_opensOf l dC dI g (a0) (a2) (a3) (0) (a0_0) (a0_1) (a0_2) (a0_3) (a0_4) (a0_5) (a0_6) (a0_7) (a0_8) (a0_9) (a0_10) (a0_11) (a0_12) (a0_13) (a0_14) (a0_15) (a0_16) (a0_17) (a0_18) (a0_19) (a0_20) (a0_21) (a0_22) (a0_23) (a0_24) (a0_25) (a0_26) (a0_27) (a0_28) (a0_29) (a0_30) (a0_31) (a0_32) (a0_33) (a0_34) (a0_35) (a0_36) (a0_37) (a0_38) (a0_39) (a0_40) (a0_41) (a0_42) (a0_43) (a0_21_c) (a0_21_f) (a0_32_c) (a0_32_f) (a0_43_c) (a0_43_f) (by omega) (by omega) (by omega) (by omega) (by omega) (by omega) (by omega) h_a0_21_f (by omega)) (cwV 3 hts (gwV qw_542 qw_543 qw_544 qw_386 qw_541) rfl rfl rfl (by decide +kernel) ⟨Nat.le_of_ble_eq_true rfl, Nat.le_of_ble_eq_true rfl⟩) ⟨fun a U g9 mk q => ⟨q.1, q.2.1, va_K.moved (u := U) (U := U.calling g9 mk a) (Vm.Alike.refl U.vm) q.2.2.1, Ev.bl q.2.2.2⟩, va_recv hK hP (ci := 8) (q0 := 0) rfl rgL5_a6879b9, fun U hU hW => ⟨rfl, atB hU hPc, va_K.moved hW.alike hKc, hE.go hS (fun _ h => h.elim) hU hW⟩⟩ rfl rfl hl.1 rfl (lv_room (Nat.le_of_ble_eq_true rfl)) dX9_isAhead_13 ⟨Nat.le_of_ble_eq_true rfl, Nat.le_of_ble_eq_true rfl⟩)).run (fun r2 h_r2 => ?_)
  have b_r2 := i32b r2
  refine lv_istore (lv' := [(5, .int r2), (4, .int r1), (0, .ref a0), (1, .int a1), (2, .int a2), (3, .int a3)]) hx hb dX9_isAhead_16 hl (by decide) rfl (fun ls hl => ?_)
  refine lv_iload hx hb dX9_isAhead_18 (lv_at hl 1 rfl) ?_
  refine lv_iload hx hb dX9_isAhead_20 (lv_at hl 0 rfl) ?_
  refine lv_icmp_eq (tgt := 38) hx hb dX9_isAhead_22 (by decide) (fun c22_3 => ?_) (fun c22_3 => ?_)
  · have c22_3 : r1.toInt = r2.toInt := (cv_eq rfl rfl).mp c22_3
    refine lv_aload_n hx hb dX9_isAhead_38 rfl (lv_at hl 2 rfl) ?_
    refine lv_iload_n hx hb dX9_isAhead_39 rfl (lv_at hl 3 rfl) ?_
    have hPc := (rgP5_3b9ce17 hP)
    have hKc := (rgK4_e2aeb4c hK)
    refine vp_callSi ((va_runV (As := [.int a1]) (rest := []) ⟨hx, hb, hml, hown, hts⟩ (k_X9_deep l dC dI g (a0) (a1) (a0_0) (a0_1) (a0_2) (a0_3) (a0_4) (a0_5) (a0_6) (a0_7) (a0_8) (a0_9) (a0_10) (a0_11) (a0_12) (a0_13) (a0_14) (a0_15) (a0_16) (a0_17) (a0_18) (a0_19) (a0_20) (a0_21) (a0_22) (a0_23) (a0_24) (a0_25) (a0_26) (a0_27) (a0_28) (a0_29) (a0_30) (a0_31) (a0_32) (a0_33) (a0_34) (a0_35) (a0_36) (a0_37) (a0_38) (a0_39) (a0_40) (a0_41) (a0_42) (a0_43) (a0_38_c) (a0_38_f) (nn) (by omega) (by omega) (by omega) (by omega) (by omega) (by omega) (by omega) (by omega) (by assumption) (by omega)) (cwV 1 hts (gwV qw_549 qw_550 qw_551 qw_386 qw_548) rfl rfl rfl (by decide +kernel) ⟨Nat.le_of_ble_eq_true rfl, Nat.le_of_ble_eq_true rfl⟩) ⟨fun a U g9 mk q => ⟨q.1, q.2.1, va_K.moved (u := U) (U := U.calling g9 mk a) (Vm.Alike.refl U.vm) q.2.2.1, Ev.bl q.2.2.2⟩, va_recv hK hP (ci := 8) (q0 := 0) rfl rgL5_a6879b9, fun U hU hW => ⟨rfl, atB hU hPc, va_K.moved hW.alike hKc, hE.go hS (fun _ h => h.elim) hU hW⟩⟩ rfl rfl hl.1 rfl (lv_room (Nat.le_of_ble_eq_true rfl)) dX9_isAhead_40 ⟨Nat.le_of_ble_eq_true rfl, Nat.le_of_ble_eq_true rfl⟩)).run (fun r4 h_r4 => ?_)
    have b_r4 := i32b r4
    refine lv_aload_n hx hb dX9_isAhead_43 rfl (lv_at hl 2 rfl) ?_
    refine lv_iload_n hx hb dX9_isAhead_44 rfl (lv_at hl 4 rfl) ?_
    have hPc := (rgP5_3b9ce17 hP)
    have hKc := (rgK4_e2aeb4c hK)
    refine vp_callSi ((va_runV (As := [.int a2]) (rest := [.int r4]) ⟨hx, hb, hml, hown, hts⟩ (k_X9_deep l dC dI g (a0) (a2) (a0_0) (a0_1) (a0_2) (a0_3) (a0_4) (a0_5) (a0_6) (a0_7) (a0_8) (a0_9) (a0_10) (a0_11) (a0_12) (a0_13) (a0_14) (a0_15) (a0_16) (a0_17) (a0_18) (a0_19) (a0_20) (a0_21) (a0_22) (a0_23) (a0_24) (a0_25) (a0_26) (a0_27) (a0_28) (a0_29) (a0_30) (a0_31) (a0_32) (a0_33) (a0_34) (a0_35) (a0_36) (a0_37) (a0_38) (a0_39) (a0_40) (a0_41) (a0_42) (a0_43) (a0_38_c) (a0_38_f) (nn) (by omega) (by omega) (by omega) (by omega) (by omega) (by omega) (by omega) (by omega) (by assumption) (by omega)) (cwV 1 hts (gwV qw_549 qw_550 qw_551 qw_386 qw_548) rfl rfl rfl (by decide +kernel) ⟨Nat.le_of_ble_eq_true rfl, Nat.le_of_ble_eq_true rfl⟩) ⟨fun a U g9 mk q => ⟨q.1, q.2.1, va_K.moved (u := U) (U := U.calling g9 mk a) (Vm.Alike.refl U.vm) q.2.2.1, Ev.bl q.2.2.2⟩, va_recv hK hP (ci := 8) (q0 := 0) rfl rgL5_a6879b9, fun U hU hW => ⟨rfl, atB hU hPc, va_K.moved hW.alike hKc, hE.go hS (fun _ h => h.elim) hU hW⟩⟩ rfl rfl hl.1 rfl (lv_room (Nat.le_of_ble_eq_true rfl)) dX9_isAhead_45 ⟨Nat.le_of_ble_eq_true rfl, Nat.le_of_ble_eq_true rfl⟩)).run (fun r5 h_r5 => ?_)
    have b_r5 := i32b r5
    refine lv_icmp_eq (tgt := 72) hx hb dX9_isAhead_48 (by decide) (fun c48_6 => ?_) (fun c48_6 => ?_)
    · have c48_6 : r4.toInt = r5.toInt := (cv_eq rfl rfl).mp c48_6
      refine lv_iload_n hx hb dX9_isAhead_72 rfl (lv_at hl 3 rfl) ?_
      refine lv_iload_n hx hb dX9_isAhead_73 rfl (lv_at hl 4 rfl) ?_
      refine lv_icmp_ge (tgt := 81) hx hb dX9_isAhead_74 (by decide) (fun c74_7 => ?_) (fun c74_7 => ?_)
      · have c74_7 : a2.toInt ≤ a1.toInt := (cv_le rfl rfl).mp c74_7
        refine lv_iconst (v := 0) hx hb dX9_isAhead_81 (by decide) ?_
        exact W.zret (v := 0) hx hb hr rfl (fun t ht hW => ⟨0, rfl, (by decide), ht⟩) (fun _ h => absurd h List.not_mem_nil) dX9_isAhead_82
      · have c74_7 : ¬ (a2.toInt ≤ a1.toInt) := mt (cv_le rfl rfl).mpr c74_7
        refine lv_iconst (v := 1) hx hb dX9_isAhead_77 (by decide) ?_
        refine lv_goto (tgt := 82) hx hb dX9_isAhead_78 (by decide) ?_
        exact W.zret (v := 1) hx hb hr rfl (fun t ht hW => ⟨1, rfl, (by decide), ht⟩) (fun _ h => absurd h List.not_mem_nil) dX9_isAhead_82
    · have c48_6 : ¬ (r4.toInt = r5.toInt) := mt (cv_eq rfl rfl).mpr c48_6
      refine lv_aload_n hx hb dX9_isAhead_51 rfl (lv_at hl 2 rfl) ?_
      refine lv_iload_n hx hb dX9_isAhead_52 rfl (lv_at hl 3 rfl) ?_
      have hPc := (rgP5_3b9ce17 hP)
      have hKc := (rgK4_e2aeb4c hK)
      refine vp_callSi ((va_runV (As := [.int a1]) (rest := []) ⟨hx, hb, hml, hown, hts⟩ (k_X9_deep l dC dI g (a0) (a1) (a0_0) (a0_1) (a0_2) (a0_3) (a0_4) (a0_5) (a0_6) (a0_7) (a0_8) (a0_9) (a0_10) (a0_11) (a0_12) (a0_13) (a0_14) (a0_15) (a0_16) (a0_17) (a0_18) (a0_19) (a0_20) (a0_21) (a0_22) (a0_23) (a0_24) (a0_25) (a0_26) (a0_27) (a0_28) (a0_29) (a0_30) (a0_31) (a0_32) (a0_33) (a0_34) (a0_35) (a0_36) (a0_37) (a0_38) (a0_39) (a0_40) (a0_41) (a0_42) (a0_43) (a0_38_c) (a0_38_f) (nn) (by omega) (by omega) (by omega) (by omega) (by omega) (by omega) (by omega) (by omega) (by assumption) (by omega)) (cwV 1 hts (gwV qw_549 qw_550 qw_551 qw_386 qw_548) rfl rfl rfl (by decide +kernel) ⟨Nat.le_of_ble_eq_true rfl, Nat.le_of_ble_eq_true rfl⟩) ⟨fun a U g9 mk q => ⟨q.1, q.2.1, va_K.moved (u := U) (U := U.calling g9 mk a) (Vm.Alike.refl U.vm) q.2.2.1, Ev.bl q.2.2.2⟩, va_recv hK hP (ci := 8) (q0 := 0) rfl rgL5_a6879b9, fun U hU hW => ⟨rfl, atB hU hPc, va_K.moved hW.alike hKc, hE.go hS (fun _ h => h.elim) hU hW⟩⟩ rfl rfl hl.1 rfl (lv_room (Nat.le_of_ble_eq_true rfl)) dX9_isAhead_53 ⟨Nat.le_of_ble_eq_true rfl, Nat.le_of_ble_eq_true rfl⟩)).run (fun r8 h_r8 => ?_)
      have b_r8 := i32b r8
      refine lv_aload_n hx hb dX9_isAhead_56 rfl (lv_at hl 2 rfl) ?_
      refine lv_iload_n hx hb dX9_isAhead_57 rfl (lv_at hl 4 rfl) ?_
      have hPc := (rgP5_3b9ce17 hP)
      have hKc := (rgK4_e2aeb4c hK)
      refine vp_callSi ((va_runV (As := [.int a2]) (rest := [.int r8]) ⟨hx, hb, hml, hown, hts⟩ (k_X9_deep l dC dI g (a0) (a2) (a0_0) (a0_1) (a0_2) (a0_3) (a0_4) (a0_5) (a0_6) (a0_7) (a0_8) (a0_9) (a0_10) (a0_11) (a0_12) (a0_13) (a0_14) (a0_15) (a0_16) (a0_17) (a0_18) (a0_19) (a0_20) (a0_21) (a0_22) (a0_23) (a0_24) (a0_25) (a0_26) (a0_27) (a0_28) (a0_29) (a0_30) (a0_31) (a0_32) (a0_33) (a0_34) (a0_35) (a0_36) (a0_37) (a0_38) (a0_39) (a0_40) (a0_41) (a0_42) (a0_43) (a0_38_c) (a0_38_f) (nn) (by omega) (by omega) (by omega) (by omega) (by omega) (by omega) (by omega) (by omega) (by assumption) (by omega)) (cwV 1 hts (gwV qw_549 qw_550 qw_551 qw_386 qw_548) rfl rfl rfl (by decide +kernel) ⟨Nat.le_of_ble_eq_true rfl, Nat.le_of_ble_eq_true rfl⟩) ⟨fun a U g9 mk q => ⟨q.1, q.2.1, va_K.moved (u := U) (U := U.calling g9 mk a) (Vm.Alike.refl U.vm) q.2.2.1, Ev.bl q.2.2.2⟩, va_recv hK hP (ci := 8) (q0 := 0) rfl rgL5_a6879b9, fun U hU hW => ⟨rfl, atB hU hPc, va_K.moved hW.alike hKc, hE.go hS (fun _ h => h.elim) hU hW⟩⟩ rfl rfl hl.1 rfl (lv_room (Nat.le_of_ble_eq_true rfl)) dX9_isAhead_58 ⟨Nat.le_of_ble_eq_true rfl, Nat.le_of_ble_eq_true rfl⟩)).run (fun r9 h_r9 => ?_)
      have b_r9 := i32b r9
      refine lv_icmp_le (tgt := 68) hx hb dX9_isAhead_61 (by decide) (fun c61_10 => ?_) (fun c61_10 => ?_)
      · have c61_10 : r8.toInt ≤ r9.toInt := (cv_le rfl rfl).mp c61_10
        refine lv_iconst (v := 0) hx hb dX9_isAhead_68 (by decide) ?_
        refine lv_goto (tgt := 82) hx hb dX9_isAhead_69 (by decide) ?_
        exact W.zret (v := 0) hx hb hr rfl (fun t ht hW => ⟨0, rfl, (by decide), ht⟩) (fun _ h => absurd h List.not_mem_nil) dX9_isAhead_82
      · have c61_10 : ¬ (r8.toInt ≤ r9.toInt) := mt (cv_le rfl rfl).mpr c61_10
        refine lv_iconst (v := 1) hx hb dX9_isAhead_64 (by decide) ?_
        refine lv_goto (tgt := 82) hx hb dX9_isAhead_65 (by decide) ?_
        exact W.zret (v := 1) hx hb hr rfl (fun t ht hW => ⟨1, rfl, (by decide), ht⟩) (fun _ h => absurd h List.not_mem_nil) dX9_isAhead_82
  · have c22_3 : ¬ (r1.toInt = r2.toInt) := mt (cv_eq rfl rfl).mpr c22_3
    refine lv_iload hx hb dX9_isAhead_25 (lv_at hl 1 rfl) ?_
    refine lv_iload hx hb dX9_isAhead_27 (lv_at hl 0 rfl) ?_
    refine lv_icmp_ge (tgt := 36) hx hb dX9_isAhead_29 (by decide) (fun c29_11 => ?_) (fun c29_11 => ?_)
    · have c29_11 : r2.toInt ≤ r1.toInt := (cv_le rfl rfl).mp c29_11
      refine lv_iconst (v := 0) hx hb dX9_isAhead_36 (by decide) ?_
      exact W.zret (v := 0) hx hb hr rfl (fun t ht hW => ⟨0, rfl, (by decide), ht⟩) (fun _ h => absurd h List.not_mem_nil) dX9_isAhead_37
    · have c29_11 : ¬ (r2.toInt ≤ r1.toInt) := mt (cv_le rfl rfl).mpr c29_11
      refine lv_iconst (v := 1) hx hb dX9_isAhead_32 (by decide) ?_
      refine lv_goto (tgt := 37) hx hb dX9_isAhead_33 (by decide) ?_
      exact W.zret (v := 1) hx hb hr rfl (fun t ht hW => ⟨1, rfl, (by decide), ht⟩) (fun _ h => absurd h List.not_mem_nil) dX9_isAhead_37
set_option maxHeartbeats 4000000 in
set_option maxRecDepth 100000 in
theorem k_X9_count1 (l : Launch) (dC : Nat → ClassId) (dI : Nat → Nat → Nat) (g : Gv) (a0 : Int32)  : Met l yX9_count1 (.code yX9_count1 cX9_count1 3 (some .int) :: TBL) ({ frames := 0, cells := 0, slots := 0, locals := 0 }) (va_Pc [.int a0] (fun U => va_P (dC, dI) vwCl [] U.heap ∧ va_K (dC, dI) vwCl [] U ∧ Ev g (fun _ => False) U)) (vp_Si (fun (r : Int32) => True)) 0 0 (fun _ => False) := by
  refine Met.ofW (cc := cX9_count1) (maxL := 3) (ret := (some .int)) (by decide) rfl ?_
  intro p e s m args below meth c s₁ B hml hv
  obtain ⟨rfl, hP, hK, hE⟩ := hv
  have hx := B.exec
  have hb := B.bytes
  have hr := B.returns
  have hts0 := atoms_spec (ws := (.code yX9_count1 cX9_count1 3 (some .int) :: TBL)) B.pre
  have hts := fun (w : Cond) (h : w ∈ TBL) => hts0 w (List.mem_cons_of_mem _ h)
  have hown : s.vm.findClass RX9 = some m.cls := findClass_of_methodNamed B.named
  have hlocks := B.notSynchronized
  have hN := hE.1
  have hS : va_S (fun _ => False) s.heap s.heap [] := va_S.rf
  replace hP : va_P (dC, dI) vwCl [] s.heap := hP
  have hl := lv_entry ([.int a0]) (n := 3) (Nat.le_of_ble_eq_true rfl)
  rw [lg_entry_eq]
  generalize (lg_sl ([.int a0]) ++ List.replicate (3 - (lg_sl ([.int a0])).length) Slot.unset).toArray = ls at hl ⊢
  have hl : lv_has ls 3 [(0, .int a0)] := hl
  have b_a0 := i32b a0
  refine lv_iconst (v := 0) hx hb dX9_count1_0 (by decide) ?_
  refine lv_istore_n (lv' := [(1, .int 0), (0, .int a0)]) hx hb dX9_count1_1 rfl hl (by decide) rfl (fun ls hl => ?_)
  refine lv_iload_n hx hb dX9_count1_2 rfl (lv_at hl 1 rfl) ?_
  refine lv_istore_n (lv' := [(2, .int a0), (1, .int 0), (0, .int a0)]) hx hb dX9_count1_3 rfl hl (by decide) rfl (fun ls hl => ?_)
  have qc0 : (0 : Int32).toInt = 0 := by decide
  refine wloop (fun n H locs ls => ∃ (l4_2 : Int32) (l4_1 : Int32), n = l4_2.toBitVec.toNat ∧ lv_has ls 3 [(2, .int l4_2), (1, .int l4_1), (0, .int a0)] ∧ H = s.heap ∧ locs = []) ?_ (a0.toBitVec.toNat) _ _ _ ⟨a0, 0, rfl, lv_sub hl [0, 1, 2] rfl, rfl, rfl⟩
  intro n4 H locs ls hI ih4
  obtain ⟨l4_2, l4_1, hn4, hl, rfl, rfl⟩ := hI
  have b_l4_2 := i32b l4_2
  have b_l4_1 := i32b l4_1
  refine lv_iload_n hx hb dX9_count1_4 rfl (lv_at hl 0 rfl) ?_
  refine lv_if_eq (tgt := 20) hx hb dX9_count1_5 (by decide) (fun c5_1 => ?_) (fun c5_1 => ?_)
  · have c5_1 : l4_2.toInt = 0 := (cv_eq rfl (by decide)).mp c5_1
    refine lv_iload_n hx hb dX9_count1_20 rfl (lv_at hl 1 rfl) ?_
    exact W.iret (v := l4_1) hx hb hr (fun t ht hW => ⟨l4_1, rfl, trivial, ht⟩) (fun _ h => absurd h List.not_mem_nil) dX9_count1_21
  · have c5_1 : ¬ (l4_2.toInt = 0) := mt (cv_eq rfl (by decide)).mpr c5_1
    obtain ⟨x2, e_x2⟩ : ∃ y : Int32, y = l4_1 + 1 := ⟨_, rfl⟩
    refine lv_iinc (v := x2) (lv' := [(1, .int x2), (2, .int l4_2), (0, .int a0)]) hx hb dX9_count1_8 hl (k := 1) rfl (by rw [e_x2]; rfl) (by decide) rfl (fun ls hl => ?_)
    try have e_x2 := ti_add e_x2 rfl (show (1 : Int32).toInt = 1 by decide) (by omega)
    refine lv_iload_n hx hb dX9_count1_11 rfl (lv_at hl 1 rfl) ?_
    refine lv_iload_n hx hb dX9_count1_12 rfl (lv_at hl 1 rfl) ?_
    refine lv_iconst (v := 1) hx hb dX9_count1_13 (by decide) ?_
    refine lv_isub hx hb dX9_count1_14 ?_
    refine lv_topi (fun x3 e_x3 => ?_)
    skip
    refine lv_iand hx hb dX9_count1_15 ?_
    refine lv_topi (fun x4 e_x4 => ?_)
    refine lv_istore_n (lv' := [(2, .int x4), (1, .int x2), (0, .int a0)]) hx hb dX9_count1_16 rfl hl (by decide) rfl (fun ls hl => ?_)
    refine lv_goto (tgt := 4) hx hb dX9_count1_17 (by decide) ?_
    have hct := c1_step e_x4 e_x3 (by omega)
    exact ih4 (x4.toBitVec.toNat) _ _ _ (by rw [hn4]; exact hct) ⟨x4, x2, rfl, lv_sub hl [0, 1, 2] rfl, rfl, rfl⟩
set_option maxHeartbeats 4000000 in
set_option maxRecDepth 100000 in
theorem k_X9_reviews (l : Launch) (dC : Nat → ClassId) (dI : Nat → Nat → Nat) (g : Gv) (a0 : Nat) (a0_0 : Int32) (a0_1 : Int32) (a0_2 : Int32) (a0_3 : Int32) (a0_4 : Nat) (a0_5 : Int32) (a0_6 : Int32) (a0_7 : Int32) (a0_8 : Int32) (a0_9 : Int32) (a0_10 : Int32) (a0_11 : Int64) (a0_12 : Int32) (a0_13 : Int32) (a0_14 : Int32) (a0_15 : Int32) (a0_16 : Int32) (a0_17 : Int32) (a0_18 : Nat) (a0_19 : Nat) (a0_20 : Nat) (a0_21 : Nat) (a0_22 : Nat) (a0_23 : Nat) (a0_24 : Nat) (a0_25 : Nat) (a0_26 : Nat) (a0_27 : Nat) (a0_28 : Nat) (a0_29 : Nat) (a0_30 : Nat) (a0_31 : Nat) (a0_32 : Nat) (a0_33 : Nat) (a0_34 : Nat) (a0_35 : Nat) (a0_36 : Int64) (a0_37 : Int32) (a0_38 : Nat) (a0_39 : Nat) (a0_40 : Int32) (a0_41 : Nat) (a0_42 : Nat) (a0_43 : Nat) (a0_21_c : ClassId) (a0_21_f : Nat → Int32) (a0_38_c : ClassId) (a0_38_f : Nat → Int32) (h_a0_5 : 0 ≤ a0_5.toInt ∧ a0_5.toInt ≤ 1000) (h_a0_6 : 0 ≤ a0_6.toInt ∧ a0_6.toInt ≤ 1000) (h_a0_7 : 0 ≤ a0_7.toInt ∧ a0_7.toInt ≤ 1000) (h_a0_8 : 0 ≤ a0_8.toInt ∧ a0_8.toInt ≤ 1000) (h_a0_17 : 0 ≤ a0_17.toInt ∧ a0_17.toInt ≤ 1) (h_a0_37 : (-1) ≤ a0_37.toInt ∧ a0_37.toInt ≤ 23) (h_a0_40 : 0 ≤ a0_40.toInt ∧ a0_40.toInt ≤ 12) (h_a0_21_f : vr 0 12 a0_21_f) : Met l yX9_reviews (.code yX9_reviews cX9_reviews 3 (some .int) :: TBL) ({ frames := 0, cells := 0, slots := 0, locals := 0 }) (va_Pc [.ref a0] (fun U => va_P (dC, dI) vwCl [(a0, .inr (8, [.int a0_0, .int a0_1, .int a0_2, .int a0_3, .ref a0_4, .int a0_5, .int a0_6, .int a0_7, .int a0_8, .int a0_9, .int a0_10, .long a0_11, .int a0_12, .int a0_13, .int a0_14, .int a0_15, .int a0_16, .int a0_17, .ref a0_18, .ref a0_19, .ref a0_20, .ref a0_21, .ref a0_22, .ref a0_23, .ref a0_24, .ref a0_25, .ref a0_26, .ref a0_27, .ref a0_28, .ref a0_29, .ref a0_30, .ref a0_31, .ref a0_32, .ref a0_33, .ref a0_34, .ref a0_35, .long a0_36, .int a0_37, .ref a0_38, .ref a0_39, .int a0_40, .ref a0_41, .ref a0_42, .ref a0_43])), (a0_21, .inl (a0_21_c, 2, .inl a0_21_f)), (a0_38, .inl (a0_38_c, 176, .inl a0_38_f))] U.heap ∧ va_K (dC, dI) vwCl [(a0_21_c, .int), (a0_38_c, .int)] U ∧ Ev g (fun _ => False) U)) (vp_Si (fun (r : Int32) => True)) 0 0 (fun _ => False) := by
  refine Met.ofW (cc := cX9_reviews) (maxL := 3) (ret := (some .int)) (by decide) rfl ?_
  intro p e s m args below meth c s₁ B hml hv
  obtain ⟨rfl, hP, hK, hE⟩ := hv
  have hx := B.exec
  have hb := B.bytes
  have hr := B.returns
  have hts0 := atoms_spec (ws := (.code yX9_reviews cX9_reviews 3 (some .int) :: TBL)) B.pre
  have hts := fun (w : Cond) (h : w ∈ TBL) => hts0 w (List.mem_cons_of_mem _ h)
  have hown : s.vm.findClass RX9 = some m.cls := findClass_of_methodNamed B.named
  have hlocks := B.notSynchronized
  have hN := hE.1
  have hS : va_S (fun _ => False) s.heap s.heap [] := va_S.rf
  replace hP : va_P (dC, dI) vwCl [(a0, .inr (8, [.int a0_0, .int a0_1, .int a0_2, .int a0_3, .ref a0_4, .int a0_5, .int a0_6, .int a0_7, .int a0_8, .int a0_9, .int a0_10, .long a0_11, .int a0_12, .int a0_13, .int a0_14, .int a0_15, .int a0_16, .int a0_17, .ref a0_18, .ref a0_19, .ref a0_20, .ref a0_21, .ref a0_22, .ref a0_23, .ref a0_24, .ref a0_25, .ref a0_26, .ref a0_27, .ref a0_28, .ref a0_29, .ref a0_30, .ref a0_31, .ref a0_32, .ref a0_33, .ref a0_34, .ref a0_35, .long a0_36, .int a0_37, .ref a0_38, .ref a0_39, .int a0_40, .ref a0_41, .ref a0_42, .ref a0_43])), (a0_21, .inl (a0_21_c, 2, .inl a0_21_f)), (a0_38, .inl (a0_38_c, 176, .inl a0_38_f))] s.heap := hP
  have hl := lv_entry ([.ref a0]) (n := 3) (Nat.le_of_ble_eq_true rfl)
  rw [lg_entry_eq]
  generalize (lg_sl ([.ref a0]) ++ List.replicate (3 - (lg_sl ([.ref a0])).length) Slot.unset).toArray = ls at hl ⊢
  have hl : lv_has ls 3 [(0, .ref a0)] := hl
  have b_a0_0 := i32b a0_0
  have b_a0_1 := i32b a0_1
  have b_a0_2 := i32b a0_2
  have b_a0_3 := i32b a0_3
  have b_a0_9 := i32b a0_9
  have b_a0_10 := i32b a0_10
  have b_a0_12 := i32b a0_12
  have b_a0_13 := i32b a0_13
  have b_a0_14 := i32b a0_14
  have b_a0_15 := i32b a0_15
  have b_a0_16 := i32b a0_16
  refine lv_iconst (v := 0) hx hb dX9_reviews_0 (by decide) ?_
  refine lv_istore_n (lv' := [(1, .int 0), (0, .ref a0)]) hx hb dX9_reviews_1 rfl hl (by decide) rfl (fun ls hl => ?_)
  refine lv_iconst (v := 0) hx hb dX9_reviews_2 (by decide) ?_
  refine lv_istore_n (lv' := [(2, .int 0), (1, .int 0), (0, .ref a0)]) hx hb dX9_reviews_3 rfl hl (by decide) rfl (fun ls hl => ?_)
  have qc0 : (0 : Int32).toInt = 0 := by decide
  refine wloop (fun n H locs ls => ∃ (l4_2 : Int32) (l4_1 : Int32), n = (2147483647 - l4_2.toInt).toNat ∧ (0 ≤ l4_2.toInt) ∧ lv_has ls 3 [(2, .int l4_2), (1, .int l4_1), (0, .ref a0)] ∧ H = s.heap ∧ locs = []) ?_ ((2147483647 - (0 : Int32).toInt).toNat) _ _ _ ⟨0, 0, rfl, (by omega), lv_sub hl [0, 1, 2] rfl, rfl, rfl⟩
  intro n4 H locs ls hI ih4
  obtain ⟨l4_2, l4_1, hn4, g_l4_2, hl, rfl, rfl⟩ := hI
  have b_l4_2 := i32b l4_2
  have b_l4_1 := i32b l4_1
  refine lv_iload_n hx hb dX9_reviews_4 rfl (lv_at hl 0 rfl) ?_
  refine lv_aload_n hx hb dX9_reviews_5 rfl (lv_at hl 2 rfl) ?_
  refine va_get (D := (dC, dI)) (ci := 8) (v := .ref a0_21) (C := RX9) (T := TX9) (N := 44) hx hb hts inlX9 hown hK hP 0 rgL3_619f1f5 rfl 21 (by decide) (hts (.fieldLink RX9 23 "ClosedUntilModel" "closures" "[I") qw_501) (fun _ h9 => h9) rfl dX9_reviews_6 ?_
  refine lv_iconst (v := 0) hx hb dX9_reviews_9 (by decide) ?_
  refine va_iald hx hb hK hP 1 0 rgL3_6f2f016 rgT2_453da77 (vin0 (by decide)) dX9_reviews_10 ?_
  refine lv_topi (fun x1 e_x1 => ?_)
  have q_x1 : x1.toInt = (a0_21_f 0).toInt := congrArg Int32.toInt e_x1
  have b_x1 : 0 ≤ x1.toInt ∧ x1.toInt ≤ 12 := vr_at (lo := 0) (hi := 12) (f := a0_21_f) h_a0_21_f e_x1
  refine lv_icmp_ge (tgt := 32) hx hb dX9_reviews_11 (by decide) (fun c11_2 => ?_) (fun c11_2 => ?_)
  · have c11_2 : x1.toInt ≤ l4_2.toInt := (cv_le rfl rfl).mp c11_2
    refine lv_iload_n hx hb dX9_reviews_32 rfl (lv_at hl 1 rfl) ?_
    exact W.iret (v := l4_1) hx hb hr (fun t ht hW => ⟨l4_1, rfl, trivial, ht⟩) (fun _ h => absurd h List.not_mem_nil) dX9_reviews_33
  · have c11_2 : ¬ (x1.toInt ≤ l4_2.toInt) := mt (cv_le rfl rfl).mpr c11_2
    refine lv_iload_n hx hb dX9_reviews_14 rfl (lv_at hl 1 rfl) ?_
    refine lv_aload_n hx hb dX9_reviews_15 rfl (lv_at hl 2 rfl) ?_
    refine va_get (D := (dC, dI)) (ci := 8) (v := .ref a0_38) (C := RX9) (T := TX9) (N := 44) hx hb hts inlX9 hown hK hP 0 rgL3_619f1f5 rfl 38 (by decide) (hts (.fieldLink RX9 70 "ClosedUntilModel" "s" "[I") qw_502) (fun _ h9 => h9) rfl dX9_reviews_16 ?_
    refine lv_bipush (v := 44) hx hb dX9_reviews_19 (by decide) ?_
    refine lv_iload_n hx hb dX9_reviews_21 rfl (lv_at hl 0 rfl) ?_
    refine lv_iadd hx hb dX9_reviews_22 ?_
    refine lv_topi (fun x3 e_x3 => ?_)
    try have e_x3 := ti_add e_x3 (show (44 : Int32).toInt = 44 by decide) rfl (by omega)
    refine va_iald hx hb hK hP 2 1 rgL3_2e0c0f7 rgT2_d592b55 (vinI (by omega) (by omega)) dX9_reviews_23 ?_
    refine lv_topi (fun x4 e_x4 => ?_)
    have q_x4 := congrArg Int32.toInt e_x4
    have b_x4 := i32b x4
    refine lv_iadd hx hb dX9_reviews_24 ?_
    refine lv_topi (fun x5 e_x5 => ?_)
    refine lv_istore_n (lv' := [(1, .int x5), (2, .int l4_2), (0, .ref a0)]) hx hb dX9_reviews_25 rfl hl (by decide) rfl (fun ls hl => ?_)
    obtain ⟨x6, e_x6⟩ : ∃ y : Int32, y = l4_2 + 1 := ⟨_, rfl⟩
    refine lv_iinc (v := x6) (lv' := [(2, .int x6), (1, .int x5), (0, .ref a0)]) hx hb dX9_reviews_26 hl (k := 1) rfl (by rw [e_x6]; rfl) (by decide) rfl (fun ls hl => ?_)
    try have e_x6 := ti_add e_x6 rfl (show (1 : Int32).toInt = 1 by decide) (by omega)
    refine lv_goto (tgt := 4) hx hb dX9_reviews_29 (by decide) ?_
    exact ih4 ((2147483647 - x6.toInt).toNat) _ _ _ (by omega) ⟨x6, x5, rfl, (by omega), lv_sub hl [0, 1, 2] rfl, rfl, rfl⟩
set_option maxHeartbeats 4000000 in
set_option maxRecDepth 100000 in
theorem k_X9_lifted (l : Launch) (dC : Nat → ClassId) (dI : Nat → Nat → Nat) (g : Gv) (a0 : Nat) (a0_0 : Int32) (a0_1 : Int32) (a0_2 : Int32) (a0_3 : Int32) (a0_4 : Nat) (a0_5 : Int32) (a0_6 : Int32) (a0_7 : Int32) (a0_8 : Int32) (a0_9 : Int32) (a0_10 : Int32) (a0_11 : Int64) (a0_12 : Int32) (a0_13 : Int32) (a0_14 : Int32) (a0_15 : Int32) (a0_16 : Int32) (a0_17 : Int32) (a0_18 : Nat) (a0_19 : Nat) (a0_20 : Nat) (a0_21 : Nat) (a0_22 : Nat) (a0_23 : Nat) (a0_24 : Nat) (a0_25 : Nat) (a0_26 : Nat) (a0_27 : Nat) (a0_28 : Nat) (a0_29 : Nat) (a0_30 : Nat) (a0_31 : Nat) (a0_32 : Nat) (a0_33 : Nat) (a0_34 : Nat) (a0_35 : Nat) (a0_36 : Int64) (a0_37 : Int32) (a0_38 : Nat) (a0_39 : Nat) (a0_40 : Int32) (a0_41 : Nat) (a0_42 : Nat) (a0_43 : Nat) (a0_21_c : ClassId) (a0_21_f : Nat → Int32) (a0_38_c : ClassId) (a0_38_f : Nat → Int32) (h_a0_5 : 0 ≤ a0_5.toInt ∧ a0_5.toInt ≤ 1000) (h_a0_6 : 0 ≤ a0_6.toInt ∧ a0_6.toInt ≤ 1000) (h_a0_7 : 0 ≤ a0_7.toInt ∧ a0_7.toInt ≤ 1000) (h_a0_8 : 0 ≤ a0_8.toInt ∧ a0_8.toInt ≤ 1000) (h_a0_17 : 0 ≤ a0_17.toInt ∧ a0_17.toInt ≤ 1) (h_a0_37 : (-1) ≤ a0_37.toInt ∧ a0_37.toInt ≤ 23) (h_a0_40 : 0 ≤ a0_40.toInt ∧ a0_40.toInt ≤ 12) (h_a0_21_f : vr 0 12 a0_21_f) : Met l yX9_lifted (.code yX9_lifted cX9_lifted 3 (some .int) :: TBL) ({ frames := 0, cells := 0, slots := 0, locals := 0 }) (va_Pc [.ref a0] (fun U => va_P (dC, dI) vwCl [(a0, .inr (8, [.int a0_0, .int a0_1, .int a0_2, .int a0_3, .ref a0_4, .int a0_5, .int a0_6, .int a0_7, .int a0_8, .int a0_9, .int a0_10, .long a0_11, .int a0_12, .int a0_13, .int a0_14, .int a0_15, .int a0_16, .int a0_17, .ref a0_18, .ref a0_19, .ref a0_20, .ref a0_21, .ref a0_22, .ref a0_23, .ref a0_24, .ref a0_25, .ref a0_26, .ref a0_27, .ref a0_28, .ref a0_29, .ref a0_30, .ref a0_31, .ref a0_32, .ref a0_33, .ref a0_34, .ref a0_35, .long a0_36, .int a0_37, .ref a0_38, .ref a0_39, .int a0_40, .ref a0_41, .ref a0_42, .ref a0_43])), (a0_21, .inl (a0_21_c, 2, .inl a0_21_f)), (a0_38, .inl (a0_38_c, 176, .inl a0_38_f))] U.heap ∧ va_K (dC, dI) vwCl [(a0_21_c, .int), (a0_38_c, .int)] U ∧ Ev g (fun _ => False) U)) (vp_Si (fun (r : Int32) => True)) 0 0 (fun _ => False) := by
  refine Met.ofW (cc := cX9_lifted) (maxL := 3) (ret := (some .int)) (by decide) rfl ?_
  intro p e s m args below meth c s₁ B hml hv
  obtain ⟨rfl, hP, hK, hE⟩ := hv
  have hx := B.exec
  have hb := B.bytes
  have hr := B.returns
  have hts0 := atoms_spec (ws := (.code yX9_lifted cX9_lifted 3 (some .int) :: TBL)) B.pre
  have hts := fun (w : Cond) (h : w ∈ TBL) => hts0 w (List.mem_cons_of_mem _ h)
  have hown : s.vm.findClass RX9 = some m.cls := findClass_of_methodNamed B.named
  have hlocks := B.notSynchronized
  have hN := hE.1
  have hS : va_S (fun _ => False) s.heap s.heap [] := va_S.rf
  replace hP : va_P (dC, dI) vwCl [(a0, .inr (8, [.int a0_0, .int a0_1, .int a0_2, .int a0_3, .ref a0_4, .int a0_5, .int a0_6, .int a0_7, .int a0_8, .int a0_9, .int a0_10, .long a0_11, .int a0_12, .int a0_13, .int a0_14, .int a0_15, .int a0_16, .int a0_17, .ref a0_18, .ref a0_19, .ref a0_20, .ref a0_21, .ref a0_22, .ref a0_23, .ref a0_24, .ref a0_25, .ref a0_26, .ref a0_27, .ref a0_28, .ref a0_29, .ref a0_30, .ref a0_31, .ref a0_32, .ref a0_33, .ref a0_34, .ref a0_35, .long a0_36, .int a0_37, .ref a0_38, .ref a0_39, .int a0_40, .ref a0_41, .ref a0_42, .ref a0_43])), (a0_21, .inl (a0_21_c, 2, .inl a0_21_f)), (a0_38, .inl (a0_38_c, 176, .inl a0_38_f))] s.heap := hP
  have hl := lv_entry ([.ref a0]) (n := 3) (Nat.le_of_ble_eq_true rfl)
  rw [lg_entry_eq]
  generalize (lg_sl ([.ref a0]) ++ List.replicate (3 - (lg_sl ([.ref a0])).length) Slot.unset).toArray = ls at hl ⊢
  have hl : lv_has ls 3 [(0, .ref a0)] := hl
  have b_a0_0 := i32b a0_0
  have b_a0_1 := i32b a0_1
  have b_a0_2 := i32b a0_2
  have b_a0_3 := i32b a0_3
  have b_a0_9 := i32b a0_9
  have b_a0_10 := i32b a0_10
  have b_a0_12 := i32b a0_12
  have b_a0_13 := i32b a0_13
  have b_a0_14 := i32b a0_14
  have b_a0_15 := i32b a0_15
  have b_a0_16 := i32b a0_16
  refine lv_iconst (v := 0) hx hb dX9_lifted_0 (by decide) ?_
  refine lv_istore_n (lv' := [(1, .int 0), (0, .ref a0)]) hx hb dX9_lifted_1 rfl hl (by decide) rfl (fun ls hl => ?_)
  refine lv_iconst (v := 0) hx hb dX9_lifted_2 (by decide) ?_
  refine lv_istore_n (lv' := [(2, .int 0), (1, .int 0), (0, .ref a0)]) hx hb dX9_lifted_3 rfl hl (by decide) rfl (fun ls hl => ?_)
  have qc0 : (0 : Int32).toInt = 0 := by decide
  refine wloop (fun n H locs ls => ∃ (l4_2 : Int32) (l4_1 : Int32), n = (2147483647 - l4_2.toInt).toNat ∧ (0 ≤ l4_2.toInt) ∧ lv_has ls 3 [(2, .int l4_2), (1, .int l4_1), (0, .ref a0)] ∧ H = s.heap ∧ locs = []) ?_ ((2147483647 - (0 : Int32).toInt).toNat) _ _ _ ⟨0, 0, rfl, (by omega), lv_sub hl [0, 1, 2] rfl, rfl, rfl⟩
  intro n4 H locs ls hI ih4
  obtain ⟨l4_2, l4_1, hn4, g_l4_2, hl, rfl, rfl⟩ := hI
  have b_l4_2 := i32b l4_2
  have b_l4_1 := i32b l4_1
  refine lv_iload_n hx hb dX9_lifted_4 rfl (lv_at hl 0 rfl) ?_
  refine lv_aload_n hx hb dX9_lifted_5 rfl (lv_at hl 2 rfl) ?_
  refine va_get (D := (dC, dI)) (ci := 8) (v := .ref a0_21) (C := RX9) (T := TX9) (N := 44) hx hb hts inlX9 hown hK hP 0 rgL3_619f1f5 rfl 21 (by decide) (hts (.fieldLink RX9 23 "ClosedUntilModel" "closures" "[I") qw_501) (fun _ h9 => h9) rfl dX9_lifted_6 ?_
  refine lv_iconst (v := 0) hx hb dX9_lifted_9 (by decide) ?_
  refine va_iald hx hb hK hP 1 0 rgL3_6f2f016 rgT2_453da77 (vin0 (by decide)) dX9_lifted_10 ?_
  refine lv_topi (fun x1 e_x1 => ?_)
  have q_x1 : x1.toInt = (a0_21_f 0).toInt := congrArg Int32.toInt e_x1
  have b_x1 : 0 ≤ x1.toInt ∧ x1.toInt ≤ 12 := vr_at (lo := 0) (hi := 12) (f := a0_21_f) h_a0_21_f e_x1
  refine lv_icmp_ge (tgt := 42) hx hb dX9_lifted_11 (by decide) (fun c11_2 => ?_) (fun c11_2 => ?_)
  · have c11_2 : x1.toInt ≤ l4_2.toInt := (cv_le rfl rfl).mp c11_2
    refine lv_iload_n hx hb dX9_lifted_42 rfl (lv_at hl 1 rfl) ?_
    exact W.iret (v := l4_1) hx hb hr (fun t ht hW => ⟨l4_1, rfl, trivial, ht⟩) (fun _ h => absurd h List.not_mem_nil) dX9_lifted_43
  · have c11_2 : ¬ (x1.toInt ≤ l4_2.toInt) := mt (cv_le rfl rfl).mpr c11_2
    refine lv_iload_n hx hb dX9_lifted_14 rfl (lv_at hl 1 rfl) ?_
    refine lv_aload_n hx hb dX9_lifted_15 rfl (lv_at hl 2 rfl) ?_
    refine va_get (D := (dC, dI)) (ci := 8) (v := .ref a0_38) (C := RX9) (T := TX9) (N := 44) hx hb hts inlX9 hown hK hP 0 rgL3_619f1f5 rfl 38 (by decide) (hts (.fieldLink RX9 70 "ClosedUntilModel" "s" "[I") qw_502) (fun _ h9 => h9) rfl dX9_lifted_16 ?_
    refine lv_bipush (v := 32) hx hb dX9_lifted_19 (by decide) ?_
    refine lv_iload_n hx hb dX9_lifted_21 rfl (lv_at hl 0 rfl) ?_
    refine lv_iadd hx hb dX9_lifted_22 ?_
    refine lv_topi (fun x3 e_x3 => ?_)
    try have e_x3 := ti_add e_x3 (show (32 : Int32).toInt = 32 by decide) rfl (by omega)
    refine va_iald hx hb hK hP 2 1 rgL3_2e0c0f7 rgT2_d592b55 (vinI (by omega) (by omega)) dX9_lifted_23 ?_
    refine lv_topi (fun x4 e_x4 => ?_)
    have q_x4 := congrArg Int32.toInt e_x4
    have b_x4 := i32b x4
    refine lv_if_lt (tgt := 33) hx hb dX9_lifted_24 (by decide) (fun c24_5 => ?_) (fun c24_5 => ?_)
    · have c24_5 : x4.toInt < 0 := (cv_lt rfl (by decide)).mp c24_5
      refine lv_iconst (v := 0) hx hb dX9_lifted_33 (by decide) ?_
      refine lv_ior hx hb dX9_lifted_34 ?_
      refine lv_topi (fun x6 e_x6 => ?_)
      refine lv_istore_n (lv' := [(1, .int x6), (2, .int l4_2), (0, .ref a0)]) hx hb dX9_lifted_35 rfl hl (by decide) rfl (fun ls hl => ?_)
      obtain ⟨x7, e_x7⟩ : ∃ y : Int32, y = l4_2 + 1 := ⟨_, rfl⟩
      refine lv_iinc (v := x7) (lv' := [(2, .int x7), (1, .int x6), (0, .ref a0)]) hx hb dX9_lifted_36 hl (k := 1) rfl (by rw [e_x7]; rfl) (by decide) rfl (fun ls hl => ?_)
      try have e_x7 := ti_add e_x7 rfl (show (1 : Int32).toInt = 1 by decide) (by omega)
      refine lv_goto (tgt := 4) hx hb dX9_lifted_39 (by decide) ?_
      exact ih4 ((2147483647 - x7.toInt).toNat) _ _ _ (by omega) ⟨x7, x6, rfl, (by omega), lv_sub hl [0, 1, 2] rfl, rfl, rfl⟩
    · have c24_5 : ¬ (x4.toInt < 0) := mt (cv_lt rfl (by decide)).mpr c24_5
      refine lv_iconst (v := 1) hx hb dX9_lifted_27 (by decide) ?_
      refine lv_iload_n hx hb dX9_lifted_28 rfl (lv_at hl 0 rfl) ?_
      refine lv_ishl hx hb dX9_lifted_29 ?_
      refine lv_topi (fun x8 e_x8 => ?_)
      refine lv_goto (tgt := 34) hx hb dX9_lifted_30 (by decide) ?_
      refine lv_ior hx hb dX9_lifted_34 ?_
      refine lv_topi (fun x9 e_x9 => ?_)
      refine lv_istore_n (lv' := [(1, .int x9), (2, .int l4_2), (0, .ref a0)]) hx hb dX9_lifted_35 rfl hl (by decide) rfl (fun ls hl => ?_)
      obtain ⟨x10, e_x10⟩ : ∃ y : Int32, y = l4_2 + 1 := ⟨_, rfl⟩
      refine lv_iinc (v := x10) (lv' := [(2, .int x10), (1, .int x9), (0, .ref a0)]) hx hb dX9_lifted_36 hl (k := 1) rfl (by rw [e_x10]; rfl) (by decide) rfl (fun ls hl => ?_)
      try have e_x10 := ti_add e_x10 rfl (show (1 : Int32).toInt = 1 by decide) (by omega)
      refine lv_goto (tgt := 4) hx hb dX9_lifted_39 (by decide) ?_
      exact ih4 ((2147483647 - x10.toInt).toNat) _ _ _ (by omega) ⟨x10, x9, rfl, (by omega), lv_sub hl [0, 1, 2] rfl, rfl, rfl⟩
set_option maxHeartbeats 4000000 in
set_option maxRecDepth 100000 in
theorem k_X9_keeps (l : Launch) (dC : Nat → ClassId) (dI : Nat → Nat → Nat) (g : Gv) (sz : Nat) (a0 : Nat) (a0_0 : Int32) (a0_1 : Int32) (a0_2 : Int32) (a0_3 : Int32) (a0_4 : Nat) (a0_5 : Int32) (a0_6 : Int32) (a0_7 : Int32) (a0_8 : Int32) (a0_9 : Int32) (a0_10 : Int32) (a0_11 : Int64) (a0_12 : Int32) (a0_13 : Int32) (a0_14 : Int32) (a0_15 : Int32) (a0_16 : Int32) (a0_17 : Int32) (a0_18 : Nat) (a0_19 : Nat) (a0_20 : Nat) (a0_21 : Nat) (a0_22 : Nat) (a0_23 : Nat) (a0_24 : Nat) (a0_25 : Nat) (a0_26 : Nat) (a0_27 : Nat) (a0_28 : Nat) (a0_29 : Nat) (a0_30 : Nat) (a0_31 : Nat) (a0_32 : Nat) (a0_33 : Nat) (a0_34 : Nat) (a0_35 : Nat) (a0_36 : Int64) (a0_37 : Int32) (a0_38 : Nat) (a0_39 : Nat) (a0_40 : Int32) (a0_41 : Nat) (a0_42 : Nat) (a0_43 : Nat) (a0_38_c : ClassId) (a0_38_f : Nat → Int32) (a0_39_c : ClassId) (a0_39_f : Nat → Int32) (nn : Int) (h_a0_5 : 0 ≤ a0_5.toInt ∧ a0_5.toInt ≤ 1000) (h_a0_6 : 0 ≤ a0_6.toInt ∧ a0_6.toInt ≤ 1000) (h_a0_7 : 0 ≤ a0_7.toInt ∧ a0_7.toInt ≤ 1000) (h_a0_8 : 0 ≤ a0_8.toInt ∧ a0_8.toInt ≤ 1000) (h_a0_17 : 0 ≤ a0_17.toInt ∧ a0_17.toInt ≤ 1) (h_a0_37 : (-1) ≤ a0_37.toInt ∧ a0_37.toInt ≤ 23) (h_a0_40 : 0 ≤ a0_40.toInt ∧ a0_40.toInt ≤ 12) (hnn : nn ≤ 24) (hms : RowOk nn a0_38_f 0) (hmu : MU nn a0_39_f a0_40) : Met l yX9_keeps (.code yX9_keeps cX9_keeps 2 none :: TBL) ({ frames := 0, cells := 0, slots := 0, locals := 0 }) (va_Pc [.ref a0] (fun U => U.heap.size = sz ∧ va_P (dC, dI) vwCl [(a0, .inr (8, [.int a0_0, .int a0_1, .int a0_2, .int a0_3, .ref a0_4, .int a0_5, .int a0_6, .int a0_7, .int a0_8, .int a0_9, .int a0_10, .long a0_11, .int a0_12, .int a0_13, .int a0_14, .int a0_15, .int a0_16, .int a0_17, .ref a0_18, .ref a0_19, .ref a0_20, .ref a0_21, .ref a0_22, .ref a0_23, .ref a0_24, .ref a0_25, .ref a0_26, .ref a0_27, .ref a0_28, .ref a0_29, .ref a0_30, .ref a0_31, .ref a0_32, .ref a0_33, .ref a0_34, .ref a0_35, .long a0_36, .int a0_37, .ref a0_38, .ref a0_39, .int a0_40, .ref a0_41, .ref a0_42, .ref a0_43])), (a0_38, .inl (a0_38_c, 176, .inl a0_38_f)), (a0_39, .inl (a0_39_c, 2112, .inl a0_39_f))] U.heap ∧ va_K (dC, dI) vwCl [(a0_38_c, .int), (a0_39_c, .int)] U ∧ va_D (fun _ => True) [(a0, .inr (8, [.int a0_0, .int a0_1, .int a0_2, .int a0_3, .ref a0_4, .int a0_5, .int a0_6, .int a0_7, .int a0_8, .int a0_9, .int a0_10, .long a0_11, .int a0_12, .int a0_13, .int a0_14, .int a0_15, .int a0_16, .int a0_17, .ref a0_18, .ref a0_19, .ref a0_20, .ref a0_21, .ref a0_22, .ref a0_23, .ref a0_24, .ref a0_25, .ref a0_26, .ref a0_27, .ref a0_28, .ref a0_29, .ref a0_30, .ref a0_31, .ref a0_32, .ref a0_33, .ref a0_34, .ref a0_35, .long a0_36, .int a0_37, .ref a0_38, .ref a0_39, .int a0_40, .ref a0_41, .ref a0_42, .ref a0_43])), (a0_38, .inl (a0_38_c, 176, .inl a0_38_f)), (a0_39, .inl (a0_39_c, 2112, .inl a0_39_f))] ∧ Ev g (va_A [(a0, .inr (8, [.int a0_0, .int a0_1, .int a0_2, .int a0_3, .ref a0_4, .int a0_5, .int a0_6, .int a0_7, .int a0_8, .int a0_9, .int a0_10, .long a0_11, .int a0_12, .int a0_13, .int a0_14, .int a0_15, .int a0_16, .int a0_17, .ref a0_18, .ref a0_19, .ref a0_20, .ref a0_21, .ref a0_22, .ref a0_23, .ref a0_24, .ref a0_25, .ref a0_26, .ref a0_27, .ref a0_28, .ref a0_29, .ref a0_30, .ref a0_31, .ref a0_32, .ref a0_33, .ref a0_34, .ref a0_35, .long a0_36, .int a0_37, .ref a0_38, .ref a0_39, .int a0_40, .ref a0_41, .ref a0_42, .ref a0_43])), (a0_38, .inl (a0_38_c, 176, .inl a0_38_f)), (a0_39, .inl (a0_39_c, 2112, .inl a0_39_f))] sz) U)) (va_Qv (fun (_ : Unit) => True) (fun (_ : Unit) (t : State) => ∃ (za0_40 : Int32) (za0_39_f : Nat → Int32), (0 ≤ za0_40.toInt ∧ za0_40.toInt ≤ 12) ∧ (MU nn za0_39_f za0_40) ∧ va_P (dC, dI) vwCl [(a0, .inr (8, [.int a0_0, .int a0_1, .int a0_2, .int a0_3, .ref a0_4, .int a0_5, .int a0_6, .int a0_7, .int a0_8, .int a0_9, .int a0_10, .long a0_11, .int a0_12, .int a0_13, .int a0_14, .int a0_15, .int a0_16, .int a0_17, .ref a0_18, .ref a0_19, .ref a0_20, .ref a0_21, .ref a0_22, .ref a0_23, .ref a0_24, .ref a0_25, .ref a0_26, .ref a0_27, .ref a0_28, .ref a0_29, .ref a0_30, .ref a0_31, .ref a0_32, .ref a0_33, .ref a0_34, .ref a0_35, .long a0_36, .int a0_37, .ref a0_38, .ref a0_39, .int za0_40, .ref a0_41, .ref a0_42, .ref a0_43])), (a0_38, .inl (a0_38_c, 176, .inl a0_38_f)), (a0_39, .inl (a0_39_c, 2112, .inl za0_39_f))] t.heap ∧ va_K (dC, dI) vwCl [] t ∧ va_D (va_A [(a0, .inr (8, [.int a0_0, .int a0_1, .int a0_2, .int a0_3, .ref a0_4, .int a0_5, .int a0_6, .int a0_7, .int a0_8, .int a0_9, .int a0_10, .long a0_11, .int a0_12, .int a0_13, .int a0_14, .int a0_15, .int a0_16, .int a0_17, .ref a0_18, .ref a0_19, .ref a0_20, .ref a0_21, .ref a0_22, .ref a0_23, .ref a0_24, .ref a0_25, .ref a0_26, .ref a0_27, .ref a0_28, .ref a0_29, .ref a0_30, .ref a0_31, .ref a0_32, .ref a0_33, .ref a0_34, .ref a0_35, .long a0_36, .int a0_37, .ref a0_38, .ref a0_39, .int a0_40, .ref a0_41, .ref a0_42, .ref a0_43])), (a0_38, .inl (a0_38_c, 176, .inl a0_38_f)), (a0_39, .inl (a0_39_c, 2112, .inl a0_39_f))] sz) [(a0, .inr (8, [.int a0_0, .int a0_1, .int a0_2, .int a0_3, .ref a0_4, .int a0_5, .int a0_6, .int a0_7, .int a0_8, .int a0_9, .int a0_10, .long a0_11, .int a0_12, .int a0_13, .int a0_14, .int a0_15, .int a0_16, .int a0_17, .ref a0_18, .ref a0_19, .ref a0_20, .ref a0_21, .ref a0_22, .ref a0_23, .ref a0_24, .ref a0_25, .ref a0_26, .ref a0_27, .ref a0_28, .ref a0_29, .ref a0_30, .ref a0_31, .ref a0_32, .ref a0_33, .ref a0_34, .ref a0_35, .long a0_36, .int a0_37, .ref a0_38, .ref a0_39, .int za0_40, .ref a0_41, .ref a0_42, .ref a0_43])), (a0_38, .inl (a0_38_c, 176, .inl a0_38_f)), (a0_39, .inl (a0_39_c, 2112, .inl za0_39_f))]) (va_A [(a0, .inr (8, [.int a0_0, .int a0_1, .int a0_2, .int a0_3, .ref a0_4, .int a0_5, .int a0_6, .int a0_7, .int a0_8, .int a0_9, .int a0_10, .long a0_11, .int a0_12, .int a0_13, .int a0_14, .int a0_15, .int a0_16, .int a0_17, .ref a0_18, .ref a0_19, .ref a0_20, .ref a0_21, .ref a0_22, .ref a0_23, .ref a0_24, .ref a0_25, .ref a0_26, .ref a0_27, .ref a0_28, .ref a0_29, .ref a0_30, .ref a0_31, .ref a0_32, .ref a0_33, .ref a0_34, .ref a0_35, .long a0_36, .int a0_37, .ref a0_38, .ref a0_39, .int a0_40, .ref a0_41, .ref a0_42, .ref a0_43])), (a0_38, .inl (a0_38_c, 176, .inl a0_38_f)), (a0_39, .inl (a0_39_c, 2112, .inl a0_39_f))] sz)) 0 0 (va_A [(a0, .inr (8, [.int a0_0, .int a0_1, .int a0_2, .int a0_3, .ref a0_4, .int a0_5, .int a0_6, .int a0_7, .int a0_8, .int a0_9, .int a0_10, .long a0_11, .int a0_12, .int a0_13, .int a0_14, .int a0_15, .int a0_16, .int a0_17, .ref a0_18, .ref a0_19, .ref a0_20, .ref a0_21, .ref a0_22, .ref a0_23, .ref a0_24, .ref a0_25, .ref a0_26, .ref a0_27, .ref a0_28, .ref a0_29, .ref a0_30, .ref a0_31, .ref a0_32, .ref a0_33, .ref a0_34, .ref a0_35, .long a0_36, .int a0_37, .ref a0_38, .ref a0_39, .int a0_40, .ref a0_41, .ref a0_42, .ref a0_43])), (a0_38, .inl (a0_38_c, 176, .inl a0_38_f)), (a0_39, .inl (a0_39_c, 2112, .inl a0_39_f))] sz) := by
  refine Met.ofW (cc := cX9_keeps) (maxL := 2) (ret := none) (by decide) rfl ?_
  intro p e s m args below meth c s₁ B hml hv
  obtain ⟨rfl, hsz, hP, hK, hD0, hE⟩ := hv
  have hx := B.exec
  have hb := B.bytes
  have hr := B.returns
  have hts0 := atoms_spec (ws := (.code yX9_keeps cX9_keeps 2 none :: TBL)) B.pre
  have hts := fun (w : Cond) (h : w ∈ TBL) => hts0 w (List.mem_cons_of_mem _ h)
  have hown : s.vm.findClass RX9 = some m.cls := findClass_of_methodNamed B.named
  have hlocks := B.notSynchronized
  have hN := hE.1
  subst hsz
  have hD := hD0.self (sz := s.heap.size)
  generalize hAe : va_A [(a0, .inr (8, [.int a0_0, .int a0_1, .int a0_2, .int a0_3, .ref a0_4, .int a0_5, .int a0_6, .int a0_7, .int a0_8, .int a0_9, .int a0_10, .long a0_11, .int a0_12, .int a0_13, .int a0_14, .int a0_15, .int a0_16, .int a0_17, .ref a0_18, .ref a0_19, .ref a0_20, .ref a0_21, .ref a0_22, .ref a0_23, .ref a0_24, .ref a0_25, .ref a0_26, .ref a0_27, .ref a0_28, .ref a0_29, .ref a0_30, .ref a0_31, .ref a0_32, .ref a0_33, .ref a0_34, .ref a0_35, .long a0_36, .int a0_37, .ref a0_38, .ref a0_39, .int a0_40, .ref a0_41, .ref a0_42, .ref a0_43])), (a0_38, .inl (a0_38_c, 176, .inl a0_38_f)), (a0_39, .inl (a0_39_c, 2112, .inl a0_39_f))] s.heap.size = A at hD hE ⊢
  have hA : ∀ q : Nat, s.heap.size ≤ q → A q := fun q h => by rw [← hAe]; exact Or.inr h
  have hS : va_S A s.heap s.heap [] := va_S.rf
  replace hP : va_P (dC, dI) vwCl [(a0, .inr (8, [.int a0_0, .int a0_1, .int a0_2, .int a0_3, .ref a0_4, .int a0_5, .int a0_6, .int a0_7, .int a0_8, .int a0_9, .int a0_10, .long a0_11, .int a0_12, .int a0_13, .int a0_14, .int a0_15, .int a0_16, .int a0_17, .ref a0_18, .ref a0_19, .ref a0_20, .ref a0_21, .ref a0_22, .ref a0_23, .ref a0_24, .ref a0_25, .ref a0_26, .ref a0_27, .ref a0_28, .ref a0_29, .ref a0_30, .ref a0_31, .ref a0_32, .ref a0_33, .ref a0_34, .ref a0_35, .long a0_36, .int a0_37, .ref a0_38, .ref a0_39, .int a0_40, .ref a0_41, .ref a0_42, .ref a0_43])), (a0_38, .inl (a0_38_c, 176, .inl a0_38_f)), (a0_39, .inl (a0_39_c, 2112, .inl a0_39_f))] s.heap := hP
  have hl := lv_entry ([.ref a0]) (n := 2) (Nat.le_of_ble_eq_true rfl)
  rw [lg_entry_eq]
  generalize (lg_sl ([.ref a0]) ++ List.replicate (2 - (lg_sl ([.ref a0])).length) Slot.unset).toArray = ls at hl ⊢
  have hl : lv_has ls 2 [(0, .ref a0)] := hl
  have b_a0_0 := i32b a0_0
  have b_a0_1 := i32b a0_1
  have b_a0_2 := i32b a0_2
  have b_a0_3 := i32b a0_3
  have b_a0_9 := i32b a0_9
  have b_a0_10 := i32b a0_10
  have b_a0_12 := i32b a0_12
  have b_a0_13 := i32b a0_13
  have b_a0_14 := i32b a0_14
  have b_a0_15 := i32b a0_15
  have b_a0_16 := i32b a0_16
  refine lv_aload_n hx hb dX9_keeps_0 rfl (lv_at hl 0 rfl) ?_
  refine va_get (D := (dC, dI)) (ci := 8) (v := .int a0_40) (C := RX9) (T := TX9) (N := 44) hx hb hts inlX9 hown hK hP 0 rgL3_619f1f5 rfl 40 (by decide) (hts (.fieldLink RX9 310 "ClosedUntilModel" "undos" "I") qw_552) (fun _ h9 => h9) rfl dX9_keeps_1 ?_
  refine lv_bipush (v := 12) hx hb dX9_keeps_4 (by decide) ?_
  refine lv_icmp_ne (tgt := 50) hx hb dX9_keeps_6 (by decide) (fun c6_1 => ?_) (fun c6_1 => ?_)
  · have c6_1 : ¬ (a0_40.toInt = 12) := mt (cv_eq rfl (by decide)).mpr c6_1
    have hmu2 := hmu
    have hcu := clE (u := a0_40) (by omega)
    refine lv_iconst (v := 0) hx hb dX9_keeps_50 (by decide) ?_
    refine lv_istore_n (lv' := [(1, .int 0), (0, .ref a0)]) hx hb dX9_keeps_51 rfl hl (by decide) rfl (fun ls hl => ?_)
    have qc0 : (0 : Int32).toInt = 0 := by decide
    refine wloop (fun n H locs ls => ∃ (l52_1 : Int32) (w52_2 : Nat → Int32), n = (2147483647 - l52_1.toInt).toNat ∧ (0 ≤ l52_1.toInt) ∧ (KP (176 * a0_40.toNatClampNeg) a0_39_f w52_2) ∧ (CPY w52_2 a0_38_f (176 * a0_40.toNatClampNeg) 0 l52_1) ∧ lv_has ls 2 [(1, .int l52_1), (0, .ref a0)] ∧ va_P (dC, dI) vwCl [(a0, .inr (8, [.int a0_0, .int a0_1, .int a0_2, .int a0_3, .ref a0_4, .int a0_5, .int a0_6, .int a0_7, .int a0_8, .int a0_9, .int a0_10, .long a0_11, .int a0_12, .int a0_13, .int a0_14, .int a0_15, .int a0_16, .int a0_17, .ref a0_18, .ref a0_19, .ref a0_20, .ref a0_21, .ref a0_22, .ref a0_23, .ref a0_24, .ref a0_25, .ref a0_26, .ref a0_27, .ref a0_28, .ref a0_29, .ref a0_30, .ref a0_31, .ref a0_32, .ref a0_33, .ref a0_34, .ref a0_35, .long a0_36, .int a0_37, .ref a0_38, .ref a0_39, .int a0_40, .ref a0_41, .ref a0_42, .ref a0_43])), (a0_38, .inl (a0_38_c, 176, .inl a0_38_f)), (a0_39, .inl (a0_39_c, 2112, .inl w52_2))] H ∧ va_D A [(a0, .inr (8, [.int a0_0, .int a0_1, .int a0_2, .int a0_3, .ref a0_4, .int a0_5, .int a0_6, .int a0_7, .int a0_8, .int a0_9, .int a0_10, .long a0_11, .int a0_12, .int a0_13, .int a0_14, .int a0_15, .int a0_16, .int a0_17, .ref a0_18, .ref a0_19, .ref a0_20, .ref a0_21, .ref a0_22, .ref a0_23, .ref a0_24, .ref a0_25, .ref a0_26, .ref a0_27, .ref a0_28, .ref a0_29, .ref a0_30, .ref a0_31, .ref a0_32, .ref a0_33, .ref a0_34, .ref a0_35, .long a0_36, .int a0_37, .ref a0_38, .ref a0_39, .int a0_40, .ref a0_41, .ref a0_42, .ref a0_43])), (a0_38, .inl (a0_38_c, 176, .inl a0_38_f)), (a0_39, .inl (a0_39_c, 2112, .inl w52_2))] ∧ va_S A s.heap H locs) ?_ ((2147483647 - (0 : Int32).toInt).toNat) _ _ _ ⟨0, a0_39_f, rfl, (by omega), KP.rf, (CPY.nil (by omega)), lv_sub hl [0, 1] rfl, hP, hD, hS⟩
    intro n52 H locs ls hI ih52
    obtain ⟨l52_1, w52_2, hn52, g_l52_1, gx52_0, gx52_1, hl, hP, hD, hS⟩ := hI
    have b_l52_1 := i32b l52_1
    refine lv_iload_n hx hb dX9_keeps_52 rfl (lv_at hl 0 rfl) ?_
    refine lv_sipush (v := 176) hx hb dX9_keeps_53 (by decide) ?_
    refine lv_icmp_ge (tgt := 86) hx hb dX9_keeps_56 (by decide) (fun c56_2 => ?_) (fun c56_2 => ?_)
    · have c56_2 : 176 ≤ l52_1.toInt := (cv_le (by decide) rfl).mp c56_2
      refine lv_aload_n hx hb dX9_keeps_86 rfl (lv_at hl 1 rfl) ?_
      refine lv_dup hx hb dX9_keeps_87 rfl ?_
      refine va_get (D := (dC, dI)) (ci := 8) (v := .int a0_40) (C := RX9) (T := TX9) (N := 44) hx hb hts inlX9 hown hK hP 0 rgL3_619f1f5 rfl 40 (by decide) (hts (.fieldLink RX9 310 "ClosedUntilModel" "undos" "I") qw_552) (fun _ h9 => h9) rfl dX9_keeps_88 ?_
      refine lv_iconst (v := 1) hx hb dX9_keeps_91 (by decide) ?_
      refine lv_iadd hx hb dX9_keeps_92 ?_
      refine lv_topi (fun x3 e_x3 => ?_)
      try have e_x3 := ti_add e_x3 rfl (show (1 : Int32).toInt = 1 by decide) (by omega)
      refine va_put (D := (dC, dI)) (ci := 8) (v := .int x3) (ty := .int) (C := RX9) (T := TX9) (N := 44) hx hb hts inlX9 tyX9 tyX9_ok nmX9 hown hK hP hD hS 0 rgL3_619f1f5 rfl 40 (by decide) (hts (.fieldLink RX9 310 "ClosedUntilModel" "undos" "I") qw_552) (fun _ h9 => h9) rfl (by decide +kernel) rfl rfl (Nat.le_of_ble_eq_true rfl) dX9_keeps_93 (fun H locs hP9 hD9 hS9 => ?_)
      clear hP hD hS
      obtain ⟨hP, hD⟩ := rgS3_dd231b9 (e := (a0, .inr (8, [.int a0_0, .int a0_1, .int a0_2, .int a0_3, .ref a0_4, .int a0_5, .int a0_6, .int a0_7, .int a0_8, .int a0_9, .int a0_10, .long a0_11, .int a0_12, .int a0_13, .int a0_14, .int a0_15, .int a0_16, .int a0_17, .ref a0_18, .ref a0_19, .ref a0_20, .ref a0_21, .ref a0_22, .ref a0_23, .ref a0_24, .ref a0_25, .ref a0_26, .ref a0_27, .ref a0_28, .ref a0_29, .ref a0_30, .ref a0_31, .ref a0_32, .ref a0_33, .ref a0_34, .ref a0_35, .long a0_36, .int a0_37, .ref a0_38, .ref a0_39, .int x3, .ref a0_41, .ref a0_42, .ref a0_43]))) hP9 hD9 rfl
      have hS := hS9; clear hP9 hD9 hS9
      refine W.widen (k := 0) (n := 0) (Nat.le_of_ble_eq_true rfl) (Nat.le_of_ble_eq_true rfl) ?_
      have hP9 := hP
      have hD9 := hD
      have hK9 := (rgK2_b4df2fa hK)
      have hf9_0 : (0 ≤ x3.toInt ∧ x3.toInt ≤ 12) := by omega
      have hf9_1 : (MU nn w52_2 x3) := MU.push hmu2 hms hnn (by omega) (by omega) gx52_0 gx52_1 (by omega)
      exact W.vret hx hb hr (fun t ht hW => ⟨⟨(), rfl, trivial, x3, w52_2, hf9_0, hf9_1, atB ht hP9, va_K.moved hW.alike hK9, hD9⟩, hS.F ht⟩) hS.2.2 dX9_keeps_96
    · have c56_2 : ¬ (176 ≤ l52_1.toInt) := mt (cv_le (by decide) rfl).mpr c56_2
      refine lv_aload_n hx hb dX9_keeps_59 rfl (lv_at hl 1 rfl) ?_
      refine va_get (D := (dC, dI)) (ci := 8) (v := .ref a0_39) (C := RX9) (T := TX9) (N := 44) hx hb hts inlX9 hown hK hP 0 rgL3_619f1f5 rfl 39 (by decide) (hts (.fieldLink RX9 73 "ClosedUntilModel" "undone" "[I") qw_553) (fun _ h9 => h9) rfl dX9_keeps_60 ?_
      refine lv_sipush (v := 176) hx hb dX9_keeps_63 (by decide) ?_
      refine lv_aload_n hx hb dX9_keeps_66 rfl (lv_at hl 1 rfl) ?_
      refine va_get (D := (dC, dI)) (ci := 8) (v := .int a0_40) (C := RX9) (T := TX9) (N := 44) hx hb hts inlX9 hown hK hP 0 rgL3_619f1f5 rfl 40 (by decide) (hts (.fieldLink RX9 310 "ClosedUntilModel" "undos" "I") qw_552) (fun _ h9 => h9) rfl dX9_keeps_67 ?_
      refine lv_imul hx hb dX9_keeps_70 ?_
      refine lv_topi (fun x4 e_x4 => ?_)
      try have e_x4 := ti_mul e_x4 (show (176 : Int32).toInt = 176 by decide) rfl (by omega)
      refine lv_iload_n hx hb dX9_keeps_71 rfl (lv_at hl 0 rfl) ?_
      refine lv_iadd hx hb dX9_keeps_72 ?_
      refine lv_topi (fun x5 e_x5 => ?_)
      try have e_x5 := ti_add e_x5 rfl rfl (by omega)
      refine lv_aload_n hx hb dX9_keeps_73 rfl (lv_at hl 1 rfl) ?_
      refine va_get (D := (dC, dI)) (ci := 8) (v := .ref a0_38) (C := RX9) (T := TX9) (N := 44) hx hb hts inlX9 hown hK hP 0 rgL3_619f1f5 rfl 38 (by decide) (hts (.fieldLink RX9 70 "ClosedUntilModel" "s" "[I") qw_502) (fun _ h9 => h9) rfl dX9_keeps_74 ?_
      refine lv_iload_n hx hb dX9_keeps_77 rfl (lv_at hl 0 rfl) ?_
      refine va_iald hx hb hK hP 1 0 rgL3_6f2f016 rgT2_453da77 (vinI (by omega) (by omega)) dX9_keeps_78 ?_
      refine lv_topi (fun x6 e_x6 => ?_)
      have q_x6 := congrArg Int32.toInt e_x6
      have b_x6 := i32b x6
      refine va_iast hx hb hK hP hD hS 2 1 rgL3_2e0c0f7 rgT2_d592b55 (vinI (by omega) (by omega)) dX9_keeps_79 (fun H locs hP9 hD9 hS9 => ?_)
      obtain ⟨y7, e_y7⟩ : ∃ y, (upd w52_2 x5.toNatClampNeg x6) = y := ⟨_, rfl⟩
      clear hP hD hS
      obtain ⟨hP, hD⟩ := rgS3_10d75bf (e := (a0_39, .inl (a0_39_c, 2112, .inl y7))) hP9 hD9 (congrArg (fun z9 => (((a0_39, .inl (a0_39_c, 2112, .inl z9)) : Nat × va_E))) e_y7)
      have hS := hS9; clear hP9 hD9 hS9
      obtain ⟨x8, e_x8⟩ : ∃ y : Int32, y = l52_1 + 1 := ⟨_, rfl⟩
      refine lv_iinc (v := x8) (lv' := [(1, .int x8), (0, .ref a0)]) hx hb dX9_keeps_80 hl (k := 0) rfl (by rw [e_x8]; rfl) (by decide) rfl (fun ls hl => ?_)
      try have e_x8 := ti_add e_x8 rfl (show (1 : Int32).toInt = 1 by decide) (by omega)
      refine lv_goto (tgt := 52) hx hb dX9_keeps_83 (by decide) ?_
      exact ih52 ((2147483647 - x8.toInt).toNat) _ _ _ (by omega) ⟨x8, y7, rfl, (by omega), (kp_step gx52_0 e_y7 (kI (by omega))), (CPY.step gx52_1 e_y7 e_x6 (by omega) (by omega) (by omega) (by omega)), lv_sub hl [0, 1] rfl, hP, hD, hS⟩
  · have c6_1 : a0_40.toInt = 12 := (cv_eq rfl (by decide)).mp c6_1
    refine lv_iconst (v := 0) hx hb dX9_keeps_9 (by decide) ?_
    refine lv_istore_n (lv' := [(1, .int 0), (0, .ref a0)]) hx hb dX9_keeps_10 rfl hl (by decide) rfl (fun ls hl => ?_)
    have qc0 : (0 : Int32).toInt = 0 := by decide
    refine wloop (fun n H locs ls => ∃ (l11_1 : Int32) (w11_2 : Nat → Int32), n = (2147483647 - l11_1.toInt).toNat ∧ (0 ≤ l11_1.toInt) ∧ (CPS w11_2 a0_39_f 176 l11_1) ∧ lv_has ls 2 [(1, .int l11_1), (0, .ref a0)] ∧ va_P (dC, dI) vwCl [(a0, .inr (8, [.int a0_0, .int a0_1, .int a0_2, .int a0_3, .ref a0_4, .int a0_5, .int a0_6, .int a0_7, .int a0_8, .int a0_9, .int a0_10, .long a0_11, .int a0_12, .int a0_13, .int a0_14, .int a0_15, .int a0_16, .int a0_17, .ref a0_18, .ref a0_19, .ref a0_20, .ref a0_21, .ref a0_22, .ref a0_23, .ref a0_24, .ref a0_25, .ref a0_26, .ref a0_27, .ref a0_28, .ref a0_29, .ref a0_30, .ref a0_31, .ref a0_32, .ref a0_33, .ref a0_34, .ref a0_35, .long a0_36, .int a0_37, .ref a0_38, .ref a0_39, .int a0_40, .ref a0_41, .ref a0_42, .ref a0_43])), (a0_38, .inl (a0_38_c, 176, .inl a0_38_f)), (a0_39, .inl (a0_39_c, 2112, .inl w11_2))] H ∧ va_D A [(a0, .inr (8, [.int a0_0, .int a0_1, .int a0_2, .int a0_3, .ref a0_4, .int a0_5, .int a0_6, .int a0_7, .int a0_8, .int a0_9, .int a0_10, .long a0_11, .int a0_12, .int a0_13, .int a0_14, .int a0_15, .int a0_16, .int a0_17, .ref a0_18, .ref a0_19, .ref a0_20, .ref a0_21, .ref a0_22, .ref a0_23, .ref a0_24, .ref a0_25, .ref a0_26, .ref a0_27, .ref a0_28, .ref a0_29, .ref a0_30, .ref a0_31, .ref a0_32, .ref a0_33, .ref a0_34, .ref a0_35, .long a0_36, .int a0_37, .ref a0_38, .ref a0_39, .int a0_40, .ref a0_41, .ref a0_42, .ref a0_43])), (a0_38, .inl (a0_38_c, 176, .inl a0_38_f)), (a0_39, .inl (a0_39_c, 2112, .inl w11_2))] ∧ va_S A s.heap H locs) ?_ ((2147483647 - (0 : Int32).toInt).toNat) _ _ _ ⟨0, a0_39_f, rfl, (by omega), (CPS.nil (by omega)), lv_sub hl [0, 1] rfl, hP, hD, hS⟩
    intro n11 H locs ls hI ih11
    obtain ⟨l11_1, w11_2, hn11, g_l11_1, gx11_0, hl, hP, hD, hS⟩ := hI
    have b_l11_1 := i32b l11_1
    refine lv_iload_n hx hb dX9_keeps_11 rfl (lv_at hl 0 rfl) ?_
    refine lv_sipush (v := 1936) hx hb dX9_keeps_12 (by decide) ?_
    refine lv_icmp_ge (tgt := 40) hx hb dX9_keeps_15 (by decide) (fun c15_9 => ?_) (fun c15_9 => ?_)
    · have c15_9 : 1936 ≤ l11_1.toInt := (cv_le (by decide) rfl).mp c15_9
      refine lv_aload_n hx hb dX9_keeps_40 rfl (lv_at hl 1 rfl) ?_
      refine lv_dup hx hb dX9_keeps_41 rfl ?_
      refine va_get (D := (dC, dI)) (ci := 8) (v := .int a0_40) (C := RX9) (T := TX9) (N := 44) hx hb hts inlX9 hown hK hP 0 rgL3_619f1f5 rfl 40 (by decide) (hts (.fieldLink RX9 310 "ClosedUntilModel" "undos" "I") qw_552) (fun _ h9 => h9) rfl dX9_keeps_42 ?_
      refine lv_iconst (v := 1) hx hb dX9_keeps_45 (by decide) ?_
      refine lv_isub hx hb dX9_keeps_46 ?_
      refine lv_topi (fun x10 e_x10 => ?_)
      try have e_x10 := ti_sub e_x10 rfl (show (1 : Int32).toInt = 1 by decide) (by omega)
      refine va_put (D := (dC, dI)) (ci := 8) (v := .int x10) (ty := .int) (C := RX9) (T := TX9) (N := 44) hx hb hts inlX9 tyX9 tyX9_ok nmX9 hown hK hP hD hS 0 rgL3_619f1f5 rfl 40 (by decide) (hts (.fieldLink RX9 310 "ClosedUntilModel" "undos" "I") qw_552) (fun _ h9 => h9) rfl (by decide +kernel) rfl rfl (Nat.le_of_ble_eq_true rfl) dX9_keeps_47 (fun H locs hP9 hD9 hS9 => ?_)
      clear hP hD hS
      obtain ⟨hP, hD⟩ := rgS3_dd231b9 (e := (a0, .inr (8, [.int a0_0, .int a0_1, .int a0_2, .int a0_3, .ref a0_4, .int a0_5, .int a0_6, .int a0_7, .int a0_8, .int a0_9, .int a0_10, .long a0_11, .int a0_12, .int a0_13, .int a0_14, .int a0_15, .int a0_16, .int a0_17, .ref a0_18, .ref a0_19, .ref a0_20, .ref a0_21, .ref a0_22, .ref a0_23, .ref a0_24, .ref a0_25, .ref a0_26, .ref a0_27, .ref a0_28, .ref a0_29, .ref a0_30, .ref a0_31, .ref a0_32, .ref a0_33, .ref a0_34, .ref a0_35, .long a0_36, .int a0_37, .ref a0_38, .ref a0_39, .int x10, .ref a0_41, .ref a0_42, .ref a0_43]))) hP9 hD9 rfl
      have hS := hS9; clear hP9 hD9 hS9
      have hmu2 := MU.shift hmu hnn (by omega) (u' := x10) (by omega) gx11_0 (by omega)
      have hcu := clE (u := x10) (by omega)
      refine lv_iconst (v := 0) hx hb dX9_keeps_50 (by decide) ?_
      refine lv_istore_n (lv' := [(1, .int 0), (0, .ref a0)]) hx hb dX9_keeps_51 rfl hl (by decide) rfl (fun ls hl => ?_)
      have qc0 : (0 : Int32).toInt = 0 := by decide
      refine wloop (fun n H locs ls => ∃ (l52_1 : Int32) (w52_2 : Nat → Int32), n = (2147483647 - l52_1.toInt).toNat ∧ (0 ≤ l52_1.toInt) ∧ (KP (176 * x10.toNatClampNeg) w11_2 w52_2) ∧ (CPY w52_2 a0_38_f (176 * x10.toNatClampNeg) 0 l52_1) ∧ lv_has ls 2 [(1, .int l52_1), (0, .ref a0)] ∧ va_P (dC, dI) vwCl [(a0, .inr (8, [.int a0_0, .int a0_1, .int a0_2, .int a0_3, .ref a0_4, .int a0_5, .int a0_6, .int a0_7, .int a0_8, .int a0_9, .int a0_10, .long a0_11, .int a0_12, .int a0_13, .int a0_14, .int a0_15, .int a0_16, .int a0_17, .ref a0_18, .ref a0_19, .ref a0_20, .ref a0_21, .ref a0_22, .ref a0_23, .ref a0_24, .ref a0_25, .ref a0_26, .ref a0_27, .ref a0_28, .ref a0_29, .ref a0_30, .ref a0_31, .ref a0_32, .ref a0_33, .ref a0_34, .ref a0_35, .long a0_36, .int a0_37, .ref a0_38, .ref a0_39, .int x10, .ref a0_41, .ref a0_42, .ref a0_43])), (a0_38, .inl (a0_38_c, 176, .inl a0_38_f)), (a0_39, .inl (a0_39_c, 2112, .inl w52_2))] H ∧ va_D A [(a0, .inr (8, [.int a0_0, .int a0_1, .int a0_2, .int a0_3, .ref a0_4, .int a0_5, .int a0_6, .int a0_7, .int a0_8, .int a0_9, .int a0_10, .long a0_11, .int a0_12, .int a0_13, .int a0_14, .int a0_15, .int a0_16, .int a0_17, .ref a0_18, .ref a0_19, .ref a0_20, .ref a0_21, .ref a0_22, .ref a0_23, .ref a0_24, .ref a0_25, .ref a0_26, .ref a0_27, .ref a0_28, .ref a0_29, .ref a0_30, .ref a0_31, .ref a0_32, .ref a0_33, .ref a0_34, .ref a0_35, .long a0_36, .int a0_37, .ref a0_38, .ref a0_39, .int x10, .ref a0_41, .ref a0_42, .ref a0_43])), (a0_38, .inl (a0_38_c, 176, .inl a0_38_f)), (a0_39, .inl (a0_39_c, 2112, .inl w52_2))] ∧ va_S A s.heap H locs) ?_ ((2147483647 - (0 : Int32).toInt).toNat) _ _ _ ⟨0, w11_2, rfl, (by omega), KP.rf, (CPY.nil (by omega)), lv_sub hl [0, 1] rfl, hP, hD, hS⟩
      intro n52 H locs ls hI ih52
      obtain ⟨l52_1, w52_2, hn52, g_l52_1, gx52_0, gx52_1, hl, hP, hD, hS⟩ := hI
      have b_l52_1 := i32b l52_1
      refine lv_iload_n hx hb dX9_keeps_52 rfl (lv_at hl 0 rfl) ?_
      refine lv_sipush (v := 176) hx hb dX9_keeps_53 (by decide) ?_
      refine lv_icmp_ge (tgt := 86) hx hb dX9_keeps_56 (by decide) (fun c56_11 => ?_) (fun c56_11 => ?_)
      · have c56_11 : 176 ≤ l52_1.toInt := (cv_le (by decide) rfl).mp c56_11
        refine lv_aload_n hx hb dX9_keeps_86 rfl (lv_at hl 1 rfl) ?_
        refine lv_dup hx hb dX9_keeps_87 rfl ?_
        refine va_get (D := (dC, dI)) (ci := 8) (v := .int x10) (C := RX9) (T := TX9) (N := 44) hx hb hts inlX9 hown hK hP 0 rgL3_619f1f5 rfl 40 (by decide) (hts (.fieldLink RX9 310 "ClosedUntilModel" "undos" "I") qw_552) (fun _ h9 => h9) rfl dX9_keeps_88 ?_
        refine lv_iconst (v := 1) hx hb dX9_keeps_91 (by decide) ?_
        refine lv_iadd hx hb dX9_keeps_92 ?_
        refine lv_topi (fun x12 e_x12 => ?_)
        try have e_x12 := ti_add e_x12 rfl (show (1 : Int32).toInt = 1 by decide) (by omega)
        refine va_put (D := (dC, dI)) (ci := 8) (v := .int x12) (ty := .int) (C := RX9) (T := TX9) (N := 44) hx hb hts inlX9 tyX9 tyX9_ok nmX9 hown hK hP hD hS 0 rgL3_619f1f5 rfl 40 (by decide) (hts (.fieldLink RX9 310 "ClosedUntilModel" "undos" "I") qw_552) (fun _ h9 => h9) rfl (by decide +kernel) rfl rfl (Nat.le_of_ble_eq_true rfl) dX9_keeps_93 (fun H locs hP9 hD9 hS9 => ?_)
        clear hP hD hS
        obtain ⟨hP, hD⟩ := rgS3_dd231b9 (e := (a0, .inr (8, [.int a0_0, .int a0_1, .int a0_2, .int a0_3, .ref a0_4, .int a0_5, .int a0_6, .int a0_7, .int a0_8, .int a0_9, .int a0_10, .long a0_11, .int a0_12, .int a0_13, .int a0_14, .int a0_15, .int a0_16, .int a0_17, .ref a0_18, .ref a0_19, .ref a0_20, .ref a0_21, .ref a0_22, .ref a0_23, .ref a0_24, .ref a0_25, .ref a0_26, .ref a0_27, .ref a0_28, .ref a0_29, .ref a0_30, .ref a0_31, .ref a0_32, .ref a0_33, .ref a0_34, .ref a0_35, .long a0_36, .int a0_37, .ref a0_38, .ref a0_39, .int x12, .ref a0_41, .ref a0_42, .ref a0_43]))) hP9 hD9 rfl
        have hS := hS9; clear hP9 hD9 hS9
        refine W.widen (k := 0) (n := 0) (Nat.le_of_ble_eq_true rfl) (Nat.le_of_ble_eq_true rfl) ?_
        have hP9 := hP
        have hD9 := hD
        have hK9 := (rgK2_b4df2fa hK)
        have hf9_0 : (0 ≤ x12.toInt ∧ x12.toInt ≤ 12) := by omega
        have hf9_1 : (MU nn w52_2 x12) := MU.push hmu2 hms hnn (by omega) (by omega) gx52_0 gx52_1 (by omega)
        exact W.vret hx hb hr (fun t ht hW => ⟨⟨(), rfl, trivial, x12, w52_2, hf9_0, hf9_1, atB ht hP9, va_K.moved hW.alike hK9, hD9⟩, hS.F ht⟩) hS.2.2 dX9_keeps_96
      · have c56_11 : ¬ (176 ≤ l52_1.toInt) := mt (cv_le (by decide) rfl).mpr c56_11
        refine lv_aload_n hx hb dX9_keeps_59 rfl (lv_at hl 1 rfl) ?_
        refine va_get (D := (dC, dI)) (ci := 8) (v := .ref a0_39) (C := RX9) (T := TX9) (N := 44) hx hb hts inlX9 hown hK hP 0 rgL3_619f1f5 rfl 39 (by decide) (hts (.fieldLink RX9 73 "ClosedUntilModel" "undone" "[I") qw_553) (fun _ h9 => h9) rfl dX9_keeps_60 ?_
        refine lv_sipush (v := 176) hx hb dX9_keeps_63 (by decide) ?_
        refine lv_aload_n hx hb dX9_keeps_66 rfl (lv_at hl 1 rfl) ?_
        refine va_get (D := (dC, dI)) (ci := 8) (v := .int x10) (C := RX9) (T := TX9) (N := 44) hx hb hts inlX9 hown hK hP 0 rgL3_619f1f5 rfl 40 (by decide) (hts (.fieldLink RX9 310 "ClosedUntilModel" "undos" "I") qw_552) (fun _ h9 => h9) rfl dX9_keeps_67 ?_
        refine lv_imul hx hb dX9_keeps_70 ?_
        refine lv_topi (fun x13 e_x13 => ?_)
        try have e_x13 := ti_mul e_x13 (show (176 : Int32).toInt = 176 by decide) rfl (by omega)
        refine lv_iload_n hx hb dX9_keeps_71 rfl (lv_at hl 0 rfl) ?_
        refine lv_iadd hx hb dX9_keeps_72 ?_
        refine lv_topi (fun x14 e_x14 => ?_)
        try have e_x14 := ti_add e_x14 rfl rfl (by omega)
        refine lv_aload_n hx hb dX9_keeps_73 rfl (lv_at hl 1 rfl) ?_
        refine va_get (D := (dC, dI)) (ci := 8) (v := .ref a0_38) (C := RX9) (T := TX9) (N := 44) hx hb hts inlX9 hown hK hP 0 rgL3_619f1f5 rfl 38 (by decide) (hts (.fieldLink RX9 70 "ClosedUntilModel" "s" "[I") qw_502) (fun _ h9 => h9) rfl dX9_keeps_74 ?_
        refine lv_iload_n hx hb dX9_keeps_77 rfl (lv_at hl 0 rfl) ?_
        refine va_iald hx hb hK hP 1 0 rgL3_6f2f016 rgT2_453da77 (vinI (by omega) (by omega)) dX9_keeps_78 ?_
        refine lv_topi (fun x15 e_x15 => ?_)
        have q_x15 := congrArg Int32.toInt e_x15
        have b_x15 := i32b x15
        refine va_iast hx hb hK hP hD hS 2 1 rgL3_2e0c0f7 rgT2_d592b55 (vinI (by omega) (by omega)) dX9_keeps_79 (fun H locs hP9 hD9 hS9 => ?_)
        obtain ⟨y16, e_y16⟩ : ∃ y, (upd w52_2 x14.toNatClampNeg x15) = y := ⟨_, rfl⟩
        clear hP hD hS
        obtain ⟨hP, hD⟩ := rgS3_10d75bf (e := (a0_39, .inl (a0_39_c, 2112, .inl y16))) hP9 hD9 (congrArg (fun z9 => (((a0_39, .inl (a0_39_c, 2112, .inl z9)) : Nat × va_E))) e_y16)
        have hS := hS9; clear hP9 hD9 hS9
        obtain ⟨x17, e_x17⟩ : ∃ y : Int32, y = l52_1 + 1 := ⟨_, rfl⟩
        refine lv_iinc (v := x17) (lv' := [(1, .int x17), (0, .ref a0)]) hx hb dX9_keeps_80 hl (k := 0) rfl (by rw [e_x17]; rfl) (by decide) rfl (fun ls hl => ?_)
        try have e_x17 := ti_add e_x17 rfl (show (1 : Int32).toInt = 1 by decide) (by omega)
        refine lv_goto (tgt := 52) hx hb dX9_keeps_83 (by decide) ?_
        exact ih52 ((2147483647 - x17.toInt).toNat) _ _ _ (by omega) ⟨x17, y16, rfl, (by omega), (kp_step gx52_0 e_y16 (kI (by omega))), (CPY.step gx52_1 e_y16 e_x15 (by omega) (by omega) (by omega) (by omega)), lv_sub hl [0, 1] rfl, hP, hD, hS⟩
    · have c15_9 : ¬ (1936 ≤ l11_1.toInt) := mt (cv_le (by decide) rfl).mpr c15_9
      refine lv_aload_n hx hb dX9_keeps_18 rfl (lv_at hl 1 rfl) ?_
      refine va_get (D := (dC, dI)) (ci := 8) (v := .ref a0_39) (C := RX9) (T := TX9) (N := 44) hx hb hts inlX9 hown hK hP 0 rgL3_619f1f5 rfl 39 (by decide) (hts (.fieldLink RX9 73 "ClosedUntilModel" "undone" "[I") qw_553) (fun _ h9 => h9) rfl dX9_keeps_19 ?_
      refine lv_iload_n hx hb dX9_keeps_22 rfl (lv_at hl 0 rfl) ?_
      refine lv_aload_n hx hb dX9_keeps_23 rfl (lv_at hl 1 rfl) ?_
      refine va_get (D := (dC, dI)) (ci := 8) (v := .ref a0_39) (C := RX9) (T := TX9) (N := 44) hx hb hts inlX9 hown hK hP 0 rgL3_619f1f5 rfl 39 (by decide) (hts (.fieldLink RX9 73 "ClosedUntilModel" "undone" "[I") qw_553) (fun _ h9 => h9) rfl dX9_keeps_24 ?_
      refine lv_iload_n hx hb dX9_keeps_27 rfl (lv_at hl 0 rfl) ?_
      refine lv_sipush (v := 176) hx hb dX9_keeps_28 (by decide) ?_
      refine lv_iadd hx hb dX9_keeps_31 ?_
      refine lv_topi (fun x18 e_x18 => ?_)
      try have e_x18 := ti_add e_x18 rfl (show (176 : Int32).toInt = 176 by decide) (by omega)
      refine va_iald hx hb hK hP 2 1 rgL3_2e0c0f7 rgT2_d592b55 (vinI (by omega) (by omega)) dX9_keeps_32 ?_
      refine lv_topi (fun x19 e_x19 => ?_)
      have q_x19 := congrArg Int32.toInt e_x19
      have b_x19 := i32b x19
      refine va_iast hx hb hK hP hD hS 2 1 rgL3_2e0c0f7 rgT2_d592b55 (vinI (by omega) (by omega)) dX9_keeps_33 (fun H locs hP9 hD9 hS9 => ?_)
      obtain ⟨y20, e_y20⟩ : ∃ y, (upd w11_2 l11_1.toNatClampNeg x19) = y := ⟨_, rfl⟩
      clear hP hD hS
      obtain ⟨hP, hD⟩ := rgS3_10d75bf (e := (a0_39, .inl (a0_39_c, 2112, .inl y20))) hP9 hD9 (congrArg (fun z9 => (((a0_39, .inl (a0_39_c, 2112, .inl z9)) : Nat × va_E))) e_y20)
      have hS := hS9; clear hP9 hD9 hS9
      obtain ⟨x21, e_x21⟩ : ∃ y : Int32, y = l11_1 + 1 := ⟨_, rfl⟩
      refine lv_iinc (v := x21) (lv' := [(1, .int x21), (0, .ref a0)]) hx hb dX9_keeps_34 hl (k := 0) rfl (by rw [e_x21]; rfl) (by decide) rfl (fun ls hl => ?_)
      try have e_x21 := ti_add e_x21 rfl (show (1 : Int32).toInt = 1 by decide) (by omega)
      refine lv_goto (tgt := 11) hx hb dX9_keeps_37 (by decide) ?_
      exact ih11 ((2147483647 - x21.toInt).toNat) _ _ _ (by omega) ⟨x21, y20, rfl, (by omega), (CPS.step gx11_0 e_y20 e_x19 (by omega) (by omega) (by omega)), lv_sub hl [0, 1] rfl, hP, hD, hS⟩
