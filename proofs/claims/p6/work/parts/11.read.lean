theorem dX5_readPeopleOf_0 : decode cX5_readPeopleOf 0 = .ok (.iconst 0, 1) := by decide +kernel
theorem dX5_readPeopleOf_1 : decode cX5_readPeopleOf 1 = .ok (.istore_n 1, 1) := by decide +kernel
theorem dX5_readPeopleOf_2 : decode cX5_readPeopleOf 2 = .ok (.iconst 0, 1) := by decide +kernel
theorem dX5_readPeopleOf_3 : decode cX5_readPeopleOf 3 = .ok (.istore_n 2, 1) := by decide +kernel
theorem dX5_readPeopleOf_4 : decode cX5_readPeopleOf 4 = .ok (.iload_n 2, 1) := by decide +kernel
theorem dX5_readPeopleOf_5 : decode cX5_readPeopleOf 5 = .ok (.iconst 4, 1) := by decide +kernel
theorem dX5_readPeopleOf_6 : decode cX5_readPeopleOf 6 = .ok (.if_icmp .gt 82, 3) := by decide +kernel
theorem dX5_readPeopleOf_9 : decode cX5_readPeopleOf 9 = .ok (.aload_n 0, 1) := by decide +kernel
theorem dX5_readPeopleOf_10 : decode cX5_readPeopleOf 10 = .ok (.getfield 12, 3) := by decide +kernel
theorem dX5_readPeopleOf_13 : decode cX5_readPeopleOf 13 = .ok (.getfield 48, 3) := by decide +kernel
theorem dX5_readPeopleOf_16 : decode cX5_readPeopleOf 16 = .ok (.bipush 6, 2) := by decide +kernel
theorem dX5_readPeopleOf_18 : decode cX5_readPeopleOf 18 = .ok (.if_icmp .ne 70, 3) := by decide +kernel
theorem dX5_readPeopleOf_21 : decode cX5_readPeopleOf 21 = .ok (.iload_n 2, 1) := by decide +kernel
theorem dX5_readPeopleOf_22 : decode cX5_readPeopleOf 22 = .ok (.iconst 4, 1) := by decide +kernel
theorem dX5_readPeopleOf_23 : decode cX5_readPeopleOf 23 = .ok (.if_icmp .ne 15, 3) := by decide +kernel
theorem dX5_readPeopleOf_26 : decode cX5_readPeopleOf 26 = .ok (.aload_n 0, 1) := by decide +kernel
theorem dX5_readPeopleOf_27 : decode cX5_readPeopleOf 27 = .ok (.iconst 5, 1) := by decide +kernel
theorem dX5_readPeopleOf_28 : decode cX5_readPeopleOf 28 = .ok (.aload_n 0, 1) := by decide +kernel
theorem dX5_readPeopleOf_29 : decode cX5_readPeopleOf 29 = .ok (.getfield 12, 3) := by decide +kernel
theorem dX5_readPeopleOf_32 : decode cX5_readPeopleOf 32 = .ok (.getfield 65, 3) := by decide +kernel
theorem dX5_readPeopleOf_35 : decode cX5_readPeopleOf 35 = .ok (.invokevirtual 68, 3) := by decide +kernel
theorem dX5_readPeopleOf_38 : decode cX5_readPeopleOf 38 = .ok (.aload_n 0, 1) := by decide +kernel
theorem dX5_readPeopleOf_39 : decode cX5_readPeopleOf 39 = .ok (.getfield 12, 3) := by decide +kernel
theorem dX5_readPeopleOf_42 : decode cX5_readPeopleOf 42 = .ok (.invokevirtual 75, 3) := by decide +kernel
theorem dX5_readPeopleOf_45 : decode cX5_readPeopleOf 45 = .ok (.aload_n 0, 1) := by decide +kernel
theorem dX5_readPeopleOf_46 : decode cX5_readPeopleOf 46 = .ok (.getfield 12, 3) := by decide +kernel
theorem dX5_readPeopleOf_49 : decode cX5_readPeopleOf 49 = .ok (.getfield 65, 3) := by decide +kernel
theorem dX5_readPeopleOf_52 : decode cX5_readPeopleOf 52 = .ok (.istore_n 3, 1) := by decide +kernel
theorem dX5_readPeopleOf_53 : decode cX5_readPeopleOf 53 = .ok (.aload_n 0, 1) := by decide +kernel
theorem dX5_readPeopleOf_54 : decode cX5_readPeopleOf 54 = .ok (.iconst 0, 1) := by decide +kernel
theorem dX5_readPeopleOf_55 : decode cX5_readPeopleOf 55 = .ok (.invokevirtual 116, 3) := by decide +kernel
theorem dX5_readPeopleOf_58 : decode cX5_readPeopleOf 58 = .ok (.istore 4, 2) := by decide +kernel
theorem dX5_readPeopleOf_60 : decode cX5_readPeopleOf 60 = .ok (.iload_n 1, 1) := by decide +kernel
theorem dX5_readPeopleOf_61 : decode cX5_readPeopleOf 61 = .ok (.iload 4, 2) := by decide +kernel
theorem dX5_readPeopleOf_63 : decode cX5_readPeopleOf 63 = .ok (.invokestatic 132, 3) := by decide +kernel
theorem dX5_readPeopleOf_66 : decode cX5_readPeopleOf 66 = .ok (.ifCond .eq 9, 3) := by decide +kernel
theorem dX5_readPeopleOf_69 : decode cX5_readPeopleOf 69 = .ok (.aload_n 0, 1) := by decide +kernel
theorem dX5_readPeopleOf_70 : decode cX5_readPeopleOf 70 = .ok (.iconst 2, 1) := by decide +kernel
theorem dX5_readPeopleOf_71 : decode cX5_readPeopleOf 71 = .ok (.iload_n 3, 1) := by decide +kernel
theorem dX5_readPeopleOf_72 : decode cX5_readPeopleOf 72 = .ok (.invokevirtual 68, 3) := by decide +kernel
theorem dX5_readPeopleOf_75 : decode cX5_readPeopleOf 75 = .ok (.iload_n 1, 1) := by decide +kernel
theorem dX5_readPeopleOf_76 : decode cX5_readPeopleOf 76 = .ok (.iconst 1, 1) := by decide +kernel
theorem dX5_readPeopleOf_77 : decode cX5_readPeopleOf 77 = .ok (.iload 4, 2) := by decide +kernel
theorem dX5_readPeopleOf_79 : decode cX5_readPeopleOf 79 = .ok (.ishl, 1) := by decide +kernel
theorem dX5_readPeopleOf_80 : decode cX5_readPeopleOf 80 = .ok (.ior, 1) := by decide +kernel
theorem dX5_readPeopleOf_81 : decode cX5_readPeopleOf 81 = .ok (.istore_n 1, 1) := by decide +kernel
theorem dX5_readPeopleOf_82 : decode cX5_readPeopleOf 82 = .ok (.iinc 2 1, 3) := by decide +kernel
theorem dX5_readPeopleOf_85 : decode cX5_readPeopleOf 85 = .ok (.goto (-81), 3) := by decide +kernel
theorem dX5_readPeopleOf_88 : decode cX5_readPeopleOf 88 = .ok (.iload_n 1, 1) := by decide +kernel
theorem dX5_readPeopleOf_89 : decode cX5_readPeopleOf 89 = .ok (.ireturn, 1) := by decide +kernel
theorem dX5_closureSort_0 : decode cX5_closureSort 0 = .ok (.iload_n 0, 1) := by decide +kernel
theorem dX5_closureSort_1 : decode cX5_closureSort 1 = .ok (.lookupswitch 51 #[(0, 45), (3, 47), (9, 43), (10, 49)], 43) := by decide +kernel
theorem dX5_closureSort_44 : decode cX5_closureSort 44 = .ok (.iconst 0, 1) := by decide +kernel
theorem dX5_closureSort_45 : decode cX5_closureSort 45 = .ok (.ireturn, 1) := by decide +kernel
theorem dX5_closureSort_46 : decode cX5_closureSort 46 = .ok (.iconst 1, 1) := by decide +kernel
theorem dX5_closureSort_47 : decode cX5_closureSort 47 = .ok (.ireturn, 1) := by decide +kernel
theorem dX5_closureSort_48 : decode cX5_closureSort 48 = .ok (.iconst 2, 1) := by decide +kernel
theorem dX5_closureSort_49 : decode cX5_closureSort 49 = .ok (.ireturn, 1) := by decide +kernel
theorem dX5_closureSort_50 : decode cX5_closureSort 50 = .ok (.iconst 3, 1) := by decide +kernel
theorem dX5_closureSort_51 : decode cX5_closureSort 51 = .ok (.ireturn, 1) := by decide +kernel
theorem dX5_closureSort_52 : decode cX5_closureSort 52 = .ok (.iconst (-1), 1) := by decide +kernel
theorem dX5_closureSort_53 : decode cX5_closureSort 53 = .ok (.ireturn, 1) := by decide +kernel
theorem dX5_readYears_0 : decode cX5_readYears 0 = .ok (.iconst 0, 1) := by decide +kernel
theorem dX5_readYears_1 : decode cX5_readYears 1 = .ok (.istore_n 3, 1) := by decide +kernel
theorem dX5_readYears_2 : decode cX5_readYears 2 = .ok (.iload_n 3, 1) := by decide +kernel
theorem dX5_readYears_3 : decode cX5_readYears 3 = .ok (.iload_n 2, 1) := by decide +kernel
theorem dX5_readYears_4 : decode cX5_readYears 4 = .ok (.if_icmp .ge 26, 3) := by decide +kernel
theorem dX5_readYears_7 : decode cX5_readYears 7 = .ok (.iload_n 3, 1) := by decide +kernel
theorem dX5_readYears_8 : decode cX5_readYears 8 = .ok (.aload_n 1, 1) := by decide +kernel
theorem dX5_readYears_9 : decode cX5_readYears 9 = .ok (.arraylength, 1) := by decide +kernel
theorem dX5_readYears_10 : decode cX5_readYears 10 = .ok (.if_icmp .ge 20, 3) := by decide +kernel
theorem dX5_readYears_13 : decode cX5_readYears 13 = .ok (.aload_n 1, 1) := by decide +kernel
theorem dX5_readYears_14 : decode cX5_readYears 14 = .ok (.iload_n 3, 1) := by decide +kernel
theorem dX5_readYears_15 : decode cX5_readYears 15 = .ok (.aload_n 0, 1) := by decide +kernel
theorem dX5_readYears_16 : decode cX5_readYears 16 = .ok (.iconst 0, 1) := by decide +kernel
theorem dX5_readYears_17 : decode cX5_readYears 17 = .ok (.sipush 200, 3) := by decide +kernel
theorem dX5_readYears_20 : decode cX5_readYears 20 = .ok (.invokevirtual 166, 3) := by decide +kernel
theorem dX5_readYears_23 : decode cX5_readYears 23 = .ok (.iastore, 1) := by decide +kernel
theorem dX5_readYears_24 : decode cX5_readYears 24 = .ok (.iinc 3 1, 3) := by decide +kernel
theorem dX5_readYears_27 : decode cX5_readYears 27 = .ok (.goto (-25), 3) := by decide +kernel
theorem dX5_readYears_30 : decode cX5_readYears 30 = .ok (.return_, 1) := by decide +kernel
theorem dX5_readDate_0 : decode cX5_readDate 0 = .ok (.aload_n 0, 1) := by decide +kernel
theorem dX5_readDate_1 : decode cX5_readDate 1 = .ok (.sipush 1700, 3) := by decide +kernel
theorem dX5_readDate_4 : decode cX5_readDate 4 = .ok (.sipush 2299, 3) := by decide +kernel
theorem dX5_readDate_7 : decode cX5_readDate 7 = .ok (.invokevirtual 166, 3) := by decide +kernel
theorem dX5_readDate_10 : decode cX5_readDate 10 = .ok (.istore_n 1, 1) := by decide +kernel
theorem dX5_readDate_11 : decode cX5_readDate 11 = .ok (.aload_n 0, 1) := by decide +kernel
theorem dX5_readDate_12 : decode cX5_readDate 12 = .ok (.iconst 1, 1) := by decide +kernel
theorem dX5_readDate_13 : decode cX5_readDate 13 = .ok (.getstatic 172, 3) := by decide +kernel
theorem dX5_readDate_16 : decode cX5_readDate 16 = .ok (.arraylength, 1) := by decide +kernel
theorem dX5_readDate_17 : decode cX5_readDate 17 = .ok (.invokevirtual 166, 3) := by decide +kernel
theorem dX5_readDate_20 : decode cX5_readDate 20 = .ok (.istore_n 2, 1) := by decide +kernel
theorem dX5_readDate_21 : decode cX5_readDate 21 = .ok (.aload_n 0, 1) := by decide +kernel
theorem dX5_readDate_22 : decode cX5_readDate 22 = .ok (.iconst 1, 1) := by decide +kernel
theorem dX5_readDate_23 : decode cX5_readDate 23 = .ok (.iload_n 1, 1) := by decide +kernel
theorem dX5_readDate_24 : decode cX5_readDate 24 = .ok (.iload_n 2, 1) := by decide +kernel
theorem dX5_readDate_25 : decode cX5_readDate 25 = .ok (.invokestatic 175, 3) := by decide +kernel
theorem dX5_readDate_28 : decode cX5_readDate 28 = .ok (.invokevirtual 166, 3) := by decide +kernel
theorem dX5_readDate_31 : decode cX5_readDate 31 = .ok (.istore_n 3, 1) := by decide +kernel
theorem dX5_readDate_32 : decode cX5_readDate 32 = .ok (.iload_n 1, 1) := by decide +kernel
theorem dX5_readDate_33 : decode cX5_readDate 33 = .ok (.iload_n 2, 1) := by decide +kernel
theorem dX5_readDate_34 : decode cX5_readDate 34 = .ok (.iload_n 3, 1) := by decide +kernel
theorem dX5_readDate_35 : decode cX5_readDate 35 = .ok (.invokestatic 178, 3) := by decide +kernel
theorem dX5_readDate_38 : decode cX5_readDate 38 = .ok (.ireturn, 1) := by decide +kernel
theorem dX5_readNumber_0 : decode cX5_readNumber 0 = .ok (.aload_n 0, 1) := by decide +kernel
theorem dX5_readNumber_1 : decode cX5_readNumber 1 = .ok (.getfield 12, 3) := by decide +kernel
theorem dX5_readNumber_4 : decode cX5_readNumber 4 = .ok (.getfield 48, 3) := by decide +kernel
theorem dX5_readNumber_7 : decode cX5_readNumber 7 = .ok (.bipush 13, 2) := by decide +kernel
theorem dX5_readNumber_9 : decode cX5_readNumber 9 = .ok (.if_icmp .eq 17, 3) := by decide +kernel
theorem dX5_readNumber_12 : decode cX5_readNumber 12 = .ok (.aload_n 0, 1) := by decide +kernel
theorem dX5_readNumber_13 : decode cX5_readNumber 13 = .ok (.iconst 1, 1) := by decide +kernel
theorem dX5_readNumber_14 : decode cX5_readNumber 14 = .ok (.aload_n 0, 1) := by decide +kernel
theorem dX5_readNumber_15 : decode cX5_readNumber 15 = .ok (.getfield 12, 3) := by decide +kernel
theorem dX5_readNumber_18 : decode cX5_readNumber 18 = .ok (.getfield 65, 3) := by decide +kernel
theorem dX5_readNumber_21 : decode cX5_readNumber 21 = .ok (.invokevirtual 68, 3) := by decide +kernel
theorem dX5_readNumber_24 : decode cX5_readNumber 24 = .ok (.iconst (-1), 1) := by decide +kernel
theorem dX5_readNumber_25 : decode cX5_readNumber 25 = .ok (.ireturn, 1) := by decide +kernel
theorem dX5_readNumber_26 : decode cX5_readNumber 26 = .ok (.aload_n 0, 1) := by decide +kernel
theorem dX5_readNumber_27 : decode cX5_readNumber 27 = .ok (.getfield 12, 3) := by decide +kernel
theorem dX5_readNumber_30 : decode cX5_readNumber 30 = .ok (.getfield 182, 3) := by decide +kernel
theorem dX5_readNumber_33 : decode cX5_readNumber 33 = .ok (.istore_n 3, 1) := by decide +kernel
theorem dX5_readNumber_34 : decode cX5_readNumber 34 = .ok (.iload_n 3, 1) := by decide +kernel
theorem dX5_readNumber_35 : decode cX5_readNumber 35 = .ok (.iload_n 1, 1) := by decide +kernel
theorem dX5_readNumber_36 : decode cX5_readNumber 36 = .ok (.if_icmp .lt 8, 3) := by decide +kernel
theorem dX5_readNumber_39 : decode cX5_readNumber 39 = .ok (.iload_n 3, 1) := by decide +kernel
theorem dX5_readNumber_40 : decode cX5_readNumber 40 = .ok (.iload_n 2, 1) := by decide +kernel
theorem dX5_readNumber_41 : decode cX5_readNumber 41 = .ok (.if_icmp .le 15, 3) := by decide +kernel
theorem dX5_readNumber_44 : decode cX5_readNumber 44 = .ok (.aload_n 0, 1) := by decide +kernel
theorem dX5_readNumber_45 : decode cX5_readNumber 45 = .ok (.iconst 4, 1) := by decide +kernel
theorem dX5_readNumber_46 : decode cX5_readNumber 46 = .ok (.aload_n 0, 1) := by decide +kernel
theorem dX5_readNumber_47 : decode cX5_readNumber 47 = .ok (.getfield 12, 3) := by decide +kernel
theorem dX5_readNumber_50 : decode cX5_readNumber 50 = .ok (.getfield 65, 3) := by decide +kernel
theorem dX5_readNumber_53 : decode cX5_readNumber 53 = .ok (.invokevirtual 68, 3) := by decide +kernel
theorem dX5_readNumber_56 : decode cX5_readNumber 56 = .ok (.aload_n 0, 1) := by decide +kernel
theorem dX5_readNumber_57 : decode cX5_readNumber 57 = .ok (.getfield 12, 3) := by decide +kernel
theorem dX5_readNumber_60 : decode cX5_readNumber 60 = .ok (.invokevirtual 75, 3) := by decide +kernel
theorem dX5_readNumber_63 : decode cX5_readNumber 63 = .ok (.iload_n 3, 1) := by decide +kernel
theorem dX5_readNumber_64 : decode cX5_readNumber 64 = .ok (.ireturn, 1) := by decide +kernel
theorem dX5_readNewName_0 : decode cX5_readNewName 0 = .ok (.aload_n 0, 1) := by decide +kernel
theorem dX5_readNewName_1 : decode cX5_readNewName 1 = .ok (.getfield 12, 3) := by decide +kernel
theorem dX5_readNewName_4 : decode cX5_readNewName 4 = .ok (.getfield 48, 3) := by decide +kernel
theorem dX5_readNewName_7 : decode cX5_readNewName 7 = .ok (.bipush 12, 2) := by decide +kernel
theorem dX5_readNewName_9 : decode cX5_readNewName 9 = .ok (.if_icmp .eq 17, 3) := by decide +kernel
theorem dX5_readNewName_12 : decode cX5_readNewName 12 = .ok (.aload_n 0, 1) := by decide +kernel
theorem dX5_readNewName_13 : decode cX5_readNewName 13 = .ok (.iconst 1, 1) := by decide +kernel
theorem dX5_readNewName_14 : decode cX5_readNewName 14 = .ok (.aload_n 0, 1) := by decide +kernel
theorem dX5_readNewName_15 : decode cX5_readNewName 15 = .ok (.getfield 12, 3) := by decide +kernel
theorem dX5_readNewName_18 : decode cX5_readNewName 18 = .ok (.getfield 65, 3) := by decide +kernel
theorem dX5_readNewName_21 : decode cX5_readNewName 21 = .ok (.invokevirtual 68, 3) := by decide +kernel
theorem dX5_readNewName_24 : decode cX5_readNewName 24 = .ok (.lconst 0, 1) := by decide +kernel
theorem dX5_readNewName_25 : decode cX5_readNewName 25 = .ok (.lreturn, 1) := by decide +kernel
theorem dX5_readNewName_26 : decode cX5_readNewName 26 = .ok (.aload_n 0, 1) := by decide +kernel
theorem dX5_readNewName_27 : decode cX5_readNewName 27 = .ok (.getfield 12, 3) := by decide +kernel
theorem dX5_readNewName_30 : decode cX5_readNewName 30 = .ok (.getfield 185, 3) := by decide +kernel
theorem dX5_readNewName_33 : decode cX5_readNewName 33 = .ok (.lstore_n 1, 1) := by decide +kernel
theorem dX5_readNewName_34 : decode cX5_readNewName 34 = .ok (.aload_n 0, 1) := by decide +kernel
theorem dX5_readNewName_35 : decode cX5_readNewName 35 = .ok (.lload_n 1, 1) := by decide +kernel
theorem dX5_readNewName_36 : decode cX5_readNewName 36 = .ok (.invokevirtual 189, 3) := by decide +kernel
theorem dX5_readNewName_39 : decode cX5_readNewName 39 = .ok (.iconst (-1), 1) := by decide +kernel
theorem dX5_readNewName_40 : decode cX5_readNewName 40 = .ok (.if_icmp .eq 15, 3) := by decide +kernel
theorem dX5_readNewName_43 : decode cX5_readNewName 43 = .ok (.aload_n 0, 1) := by decide +kernel
theorem dX5_readNewName_44 : decode cX5_readNewName 44 = .ok (.iconst 2, 1) := by decide +kernel
theorem dX5_readNewName_45 : decode cX5_readNewName 45 = .ok (.aload_n 0, 1) := by decide +kernel
theorem dX5_readNewName_46 : decode cX5_readNewName 46 = .ok (.getfield 12, 3) := by decide +kernel
theorem dX5_readNewName_49 : decode cX5_readNewName 49 = .ok (.getfield 65, 3) := by decide +kernel
theorem dX5_readNewName_52 : decode cX5_readNewName 52 = .ok (.invokevirtual 68, 3) := by decide +kernel
theorem dX5_readNewName_55 : decode cX5_readNewName 55 = .ok (.aload_n 0, 1) := by decide +kernel
theorem dX5_readNewName_56 : decode cX5_readNewName 56 = .ok (.getfield 12, 3) := by decide +kernel
theorem dX5_readNewName_59 : decode cX5_readNewName 59 = .ok (.invokevirtual 75, 3) := by decide +kernel
theorem dX5_readNewName_62 : decode cX5_readNewName 62 = .ok (.lload_n 1, 1) := by decide +kernel
theorem dX5_readNewName_63 : decode cX5_readNewName 63 = .ok (.lreturn, 1) := by decide +kernel
theorem dX5_readName_0 : decode cX5_readName 0 = .ok (.aload_n 0, 1) := by decide +kernel
theorem dX5_readName_1 : decode cX5_readName 1 = .ok (.getfield 12, 3) := by decide +kernel
theorem dX5_readName_4 : decode cX5_readName 4 = .ok (.getfield 48, 3) := by decide +kernel
theorem dX5_readName_7 : decode cX5_readName 7 = .ok (.bipush 12, 2) := by decide +kernel
theorem dX5_readName_9 : decode cX5_readName 9 = .ok (.if_icmp .eq 17, 3) := by decide +kernel
theorem dX5_readName_12 : decode cX5_readName 12 = .ok (.aload_n 0, 1) := by decide +kernel
theorem dX5_readName_13 : decode cX5_readName 13 = .ok (.iconst 1, 1) := by decide +kernel
theorem dX5_readName_14 : decode cX5_readName 14 = .ok (.aload_n 0, 1) := by decide +kernel
theorem dX5_readName_15 : decode cX5_readName 15 = .ok (.getfield 12, 3) := by decide +kernel
theorem dX5_readName_18 : decode cX5_readName 18 = .ok (.getfield 65, 3) := by decide +kernel
theorem dX5_readName_21 : decode cX5_readName 21 = .ok (.invokevirtual 68, 3) := by decide +kernel
theorem dX5_readName_24 : decode cX5_readName 24 = .ok (.iconst (-1), 1) := by decide +kernel
theorem dX5_readName_25 : decode cX5_readName 25 = .ok (.ireturn, 1) := by decide +kernel
theorem dX5_readName_26 : decode cX5_readName 26 = .ok (.aload_n 0, 1) := by decide +kernel
theorem dX5_readName_27 : decode cX5_readName 27 = .ok (.aload_n 0, 1) := by decide +kernel
theorem dX5_readName_28 : decode cX5_readName 28 = .ok (.getfield 12, 3) := by decide +kernel
theorem dX5_readName_31 : decode cX5_readName 31 = .ok (.getfield 185, 3) := by decide +kernel
theorem dX5_readName_34 : decode cX5_readName 34 = .ok (.invokevirtual 189, 3) := by decide +kernel
theorem dX5_readName_37 : decode cX5_readName 37 = .ok (.istore_n 2, 1) := by decide +kernel
theorem dX5_readName_38 : decode cX5_readName 38 = .ok (.iload_n 2, 1) := by decide +kernel
theorem dX5_readName_39 : decode cX5_readName 39 = .ok (.iconst (-1), 1) := by decide +kernel
theorem dX5_readName_40 : decode cX5_readName 40 = .ok (.if_icmp .eq 17, 3) := by decide +kernel
theorem dX5_readName_43 : decode cX5_readName 43 = .ok (.aload_n 0, 1) := by decide +kernel
theorem dX5_readName_44 : decode cX5_readName 44 = .ok (.getfield 22, 3) := by decide +kernel
theorem dX5_readName_47 : decode cX5_readName 47 = .ok (.iload_n 2, 1) := by decide +kernel
theorem dX5_readName_48 : decode cX5_readName 48 = .ok (.iaload, 1) := by decide +kernel
theorem dX5_readName_49 : decode cX5_readName 49 = .ok (.iload_n 1, 1) := by decide +kernel
theorem dX5_readName_50 : decode cX5_readName 50 = .ok (.if_icmp .ne 7, 3) := by decide +kernel
theorem dX5_readName_53 : decode cX5_readName 53 = .ok (.iconst 1, 1) := by decide +kernel
theorem dX5_readName_54 : decode cX5_readName 54 = .ok (.goto 4, 3) := by decide +kernel
theorem dX5_readName_57 : decode cX5_readName 57 = .ok (.iconst 0, 1) := by decide +kernel
theorem dX5_readName_58 : decode cX5_readName 58 = .ok (.istore_n 3, 1) := by decide +kernel
theorem dX5_readName_59 : decode cX5_readName 59 = .ok (.iload_n 3, 1) := by decide +kernel
theorem dX5_readName_60 : decode cX5_readName 60 = .ok (.ifCond .ne 15, 3) := by decide +kernel
theorem dX5_readName_63 : decode cX5_readName 63 = .ok (.aload_n 0, 1) := by decide +kernel
theorem dX5_readName_64 : decode cX5_readName 64 = .ok (.iconst 3, 1) := by decide +kernel
theorem dX5_readName_65 : decode cX5_readName 65 = .ok (.aload_n 0, 1) := by decide +kernel
theorem dX5_readName_66 : decode cX5_readName 66 = .ok (.getfield 12, 3) := by decide +kernel
theorem dX5_readName_69 : decode cX5_readName 69 = .ok (.getfield 65, 3) := by decide +kernel
theorem dX5_readName_72 : decode cX5_readName 72 = .ok (.invokevirtual 68, 3) := by decide +kernel
theorem dX5_readName_75 : decode cX5_readName 75 = .ok (.aload_n 0, 1) := by decide +kernel
theorem dX5_readName_76 : decode cX5_readName 76 = .ok (.getfield 12, 3) := by decide +kernel
theorem dX5_readName_79 : decode cX5_readName 79 = .ok (.invokevirtual 75, 3) := by decide +kernel
theorem dX5_readName_82 : decode cX5_readName 82 = .ok (.iload_n 3, 1) := by decide +kernel
theorem dX5_readName_83 : decode cX5_readName 83 = .ok (.ifCond .eq 12, 3) := by decide +kernel
theorem dX5_readName_86 : decode cX5_readName 86 = .ok (.aload_n 0, 1) := by decide +kernel
theorem dX5_readName_87 : decode cX5_readName 87 = .ok (.getfield 26, 3) := by decide +kernel
theorem dX5_readName_90 : decode cX5_readName 90 = .ok (.iload_n 2, 1) := by decide +kernel
theorem dX5_readName_91 : decode cX5_readName 91 = .ok (.iaload, 1) := by decide +kernel
theorem dX5_readName_92 : decode cX5_readName 92 = .ok (.goto 4, 3) := by decide +kernel
theorem dX5_readName_95 : decode cX5_readName 95 = .ok (.iconst (-1), 1) := by decide +kernel
theorem dX5_readName_96 : decode cX5_readName 96 = .ok (.ireturn, 1) := by decide +kernel
theorem dX5_slotOf_0 : decode cX5_slotOf 0 = .ok (.iconst 0, 1) := by decide +kernel
theorem dX5_slotOf_1 : decode cX5_slotOf 1 = .ok (.istore_n 3, 1) := by decide +kernel
theorem dX5_slotOf_2 : decode cX5_slotOf 2 = .ok (.iload_n 3, 1) := by decide +kernel
theorem dX5_slotOf_3 : decode cX5_slotOf 3 = .ok (.aload_n 0, 1) := by decide +kernel
theorem dX5_slotOf_4 : decode cX5_slotOf 4 = .ok (.getfield 37, 3) := by decide +kernel
theorem dX5_slotOf_7 : decode cX5_slotOf 7 = .ok (.if_icmp .ge 22, 3) := by decide +kernel
theorem dX5_slotOf_10 : decode cX5_slotOf 10 = .ok (.aload_n 0, 1) := by decide +kernel
theorem dX5_slotOf_11 : decode cX5_slotOf 11 = .ok (.getfield 18, 3) := by decide +kernel
theorem dX5_slotOf_14 : decode cX5_slotOf 14 = .ok (.iload_n 3, 1) := by decide +kernel
theorem dX5_slotOf_15 : decode cX5_slotOf 15 = .ok (.laload, 1) := by decide +kernel
theorem dX5_slotOf_16 : decode cX5_slotOf 16 = .ok (.lload_n 1, 1) := by decide +kernel
theorem dX5_slotOf_17 : decode cX5_slotOf 17 = .ok (.lcmp, 1) := by decide +kernel
theorem dX5_slotOf_18 : decode cX5_slotOf 18 = .ok (.ifCond .ne 5, 3) := by decide +kernel
theorem dX5_slotOf_21 : decode cX5_slotOf 21 = .ok (.iload_n 3, 1) := by decide +kernel
theorem dX5_slotOf_22 : decode cX5_slotOf 22 = .ok (.ireturn, 1) := by decide +kernel
theorem dX5_slotOf_23 : decode cX5_slotOf 23 = .ok (.iinc 3 1, 3) := by decide +kernel
theorem dX5_slotOf_26 : decode cX5_slotOf 26 = .ok (.goto (-24), 3) := by decide +kernel
theorem dX5_slotOf_29 : decode cX5_slotOf 29 = .ok (.iconst (-1), 1) := by decide +kernel
theorem dX5_slotOf_30 : decode cX5_slotOf 30 = .ok (.ireturn, 1) := by decide +kernel
theorem dX5_addName_0 : decode cX5_addName 0 = .ok (.aload_n 0, 1) := by decide +kernel
theorem dX5_addName_1 : decode cX5_addName 1 = .ok (.getfield 37, 3) := by decide +kernel
theorem dX5_addName_4 : decode cX5_addName 4 = .ok (.bipush 36, 2) := by decide +kernel
theorem dX5_addName_6 : decode cX5_addName 6 = .ok (.if_icmp .lt 4, 3) := by decide +kernel
theorem dX5_addName_9 : decode cX5_addName 9 = .ok (.return_, 1) := by decide +kernel
theorem dX5_addName_10 : decode cX5_addName 10 = .ok (.aload_n 0, 1) := by decide +kernel
theorem dX5_addName_11 : decode cX5_addName 11 = .ok (.getfield 18, 3) := by decide +kernel
theorem dX5_addName_14 : decode cX5_addName 14 = .ok (.aload_n 0, 1) := by decide +kernel
theorem dX5_addName_15 : decode cX5_addName 15 = .ok (.getfield 37, 3) := by decide +kernel
theorem dX5_addName_18 : decode cX5_addName 18 = .ok (.lload_n 1, 1) := by decide +kernel
theorem dX5_addName_19 : decode cX5_addName 19 = .ok (.lastore, 1) := by decide +kernel
theorem dX5_addName_20 : decode cX5_addName 20 = .ok (.aload_n 0, 1) := by decide +kernel
theorem dX5_addName_21 : decode cX5_addName 21 = .ok (.getfield 22, 3) := by decide +kernel
theorem dX5_addName_24 : decode cX5_addName 24 = .ok (.aload_n 0, 1) := by decide +kernel
theorem dX5_addName_25 : decode cX5_addName 25 = .ok (.getfield 37, 3) := by decide +kernel
theorem dX5_addName_28 : decode cX5_addName 28 = .ok (.iload_n 3, 1) := by decide +kernel
theorem dX5_addName_29 : decode cX5_addName 29 = .ok (.iastore, 1) := by decide +kernel
theorem dX5_addName_30 : decode cX5_addName 30 = .ok (.aload_n 0, 1) := by decide +kernel
theorem dX5_addName_31 : decode cX5_addName 31 = .ok (.getfield 26, 3) := by decide +kernel
theorem dX5_addName_34 : decode cX5_addName 34 = .ok (.aload_n 0, 1) := by decide +kernel
theorem dX5_addName_35 : decode cX5_addName 35 = .ok (.getfield 37, 3) := by decide +kernel
theorem dX5_addName_38 : decode cX5_addName 38 = .ok (.iload 4, 2) := by decide +kernel
theorem dX5_addName_40 : decode cX5_addName 40 = .ok (.iastore, 1) := by decide +kernel
theorem dX5_addName_41 : decode cX5_addName 41 = .ok (.aload_n 0, 1) := by decide +kernel
theorem dX5_addName_42 : decode cX5_addName 42 = .ok (.dup, 1) := by decide +kernel
theorem dX5_addName_43 : decode cX5_addName 43 = .ok (.getfield 37, 3) := by decide +kernel
theorem dX5_addName_46 : decode cX5_addName 46 = .ok (.iconst 1, 1) := by decide +kernel
theorem dX5_addName_47 : decode cX5_addName 47 = .ok (.iadd, 1) := by decide +kernel
theorem dX5_addName_48 : decode cX5_addName 48 = .ok (.putfield 37, 3) := by decide +kernel
theorem dX5_addName_51 : decode cX5_addName 51 = .ok (.return_, 1) := by decide +kernel
theorem dX5_passes_0 : decode cX5_passes 0 = .ok (.aload_n 0, 1) := by decide +kernel
theorem dX5_passes_1 : decode cX5_passes 1 = .ok (.getfield 12, 3) := by decide +kernel
theorem dX5_passes_4 : decode cX5_passes 4 = .ok (.getfield 48, 3) := by decide +kernel
theorem dX5_passes_7 : decode cX5_passes 7 = .ok (.iload_n 1, 1) := by decide +kernel
theorem dX5_passes_8 : decode cX5_passes 8 = .ok (.if_icmp .eq 5, 3) := by decide +kernel
theorem dX5_passes_11 : decode cX5_passes 11 = .ok (.iconst 0, 1) := by decide +kernel
theorem dX5_passes_12 : decode cX5_passes 12 = .ok (.ireturn, 1) := by decide +kernel
theorem dX5_passes_13 : decode cX5_passes 13 = .ok (.aload_n 0, 1) := by decide +kernel
theorem dX5_passes_14 : decode cX5_passes 14 = .ok (.getfield 12, 3) := by decide +kernel
theorem dX5_passes_17 : decode cX5_passes 17 = .ok (.invokevirtual 75, 3) := by decide +kernel
theorem dX5_passes_20 : decode cX5_passes 20 = .ok (.iconst 1, 1) := by decide +kernel
theorem dX5_passes_21 : decode cX5_passes 21 = .ok (.ireturn, 1) := by decide +kernel
theorem dX5_pass_0 : decode cX5_pass 0 = .ok (.aload_n 0, 1) := by decide +kernel
theorem dX5_pass_1 : decode cX5_pass 1 = .ok (.iload_n 1, 1) := by decide +kernel
theorem dX5_pass_2 : decode cX5_pass 2 = .ok (.invokevirtual 82, 3) := by decide +kernel
theorem dX5_pass_5 : decode cX5_pass 5 = .ok (.ifCond .ne 15, 3) := by decide +kernel
theorem dX5_pass_8 : decode cX5_pass 8 = .ok (.aload_n 0, 1) := by decide +kernel
theorem dX5_pass_9 : decode cX5_pass 9 = .ok (.iconst 1, 1) := by decide +kernel
theorem dX5_pass_10 : decode cX5_pass 10 = .ok (.aload_n 0, 1) := by decide +kernel
theorem dX5_pass_11 : decode cX5_pass 11 = .ok (.getfield 12, 3) := by decide +kernel
theorem dX5_pass_14 : decode cX5_pass 14 = .ok (.getfield 65, 3) := by decide +kernel
theorem dX5_pass_17 : decode cX5_pass 17 = .ok (.invokevirtual 68, 3) := by decide +kernel
theorem dX5_pass_20 : decode cX5_pass 20 = .ok (.return_, 1) := by decide +kernel
theorem dX5_fail_0 : decode cX5_fail 0 = .ok (.aload_n 0, 1) := by decide +kernel
theorem dX5_fail_1 : decode cX5_fail 1 = .ok (.getfield 41, 3) := by decide +kernel
theorem dX5_fail_4 : decode cX5_fail 4 = .ok (.iconst (-1), 1) := by decide +kernel
theorem dX5_fail_5 : decode cX5_fail 5 = .ok (.if_icmp .ne 13, 3) := by decide +kernel
theorem dX5_fail_8 : decode cX5_fail 8 = .ok (.aload_n 0, 1) := by decide +kernel
theorem dX5_fail_9 : decode cX5_fail 9 = .ok (.bipush 8, 2) := by decide +kernel
theorem dX5_fail_11 : decode cX5_fail 11 = .ok (.iload_n 2, 1) := by decide +kernel
theorem dX5_fail_12 : decode cX5_fail 12 = .ok (.imul, 1) := by decide +kernel
theorem dX5_fail_13 : decode cX5_fail 13 = .ok (.iload_n 1, 1) := by decide +kernel
theorem dX5_fail_14 : decode cX5_fail 14 = .ok (.iadd, 1) := by decide +kernel
theorem dX5_fail_15 : decode cX5_fail 15 = .ok (.putfield 41, 3) := by decide +kernel
theorem dX5_fail_18 : decode cX5_fail 18 = .ok (.return_, 1) := by decide +kernel
theorem qw_97 : (Cond.fieldLink RX5 41 "ClosedUntil$TextReader" "fault" "I" : Cond) ∈ TBL := List.mem_of_getElem? (i := 219) (by decide +kernel)
theorem qw_98 : (Cond.fieldLink RX5 12 "ClosedUntil$TextReader" "tokens" "LClosedUntil$Tokens;" : Cond) ∈ TBL := List.mem_of_getElem? (i := 54) (by decide +kernel)
theorem qw_99 : (Cond.code yX5_passes cX5_passes 2 (some .boolean) : Cond) ∈ TBL := List.mem_of_getElem? (i := 281) (by decide +kernel)
theorem qw_100 : (Cond.initialized RX5 : Cond) ∈ TBL := List.mem_of_getElem? (i := 19) (by decide +kernel)
theorem qw_101 : (Cond.methodLink RX5 82 yX5_passes : Cond) ∈ TBL := List.mem_of_getElem? (i := 278) (by decide +kernel)
theorem qw_102 : (Cond.instanceMethod yX5_passes : Cond) ∈ TBL := List.mem_of_getElem? (i := 279) (by decide +kernel)
theorem qw_103 : (Cond.selects RX5 yX5_passes yX5_passes : Cond) ∈ TBL := List.mem_of_getElem? (i := 280) (by decide +kernel)
theorem qw_104 : (Cond.code yX5_fail cX5_fail 3 none : Cond) ∈ TBL := List.mem_of_getElem? (i := 269) (by decide +kernel)
theorem qw_105 : (Cond.methodLink RX5 68 yX5_fail : Cond) ∈ TBL := List.mem_of_getElem? (i := 266) (by decide +kernel)
theorem qw_106 : (Cond.instanceMethod yX5_fail : Cond) ∈ TBL := List.mem_of_getElem? (i := 267) (by decide +kernel)
theorem qw_107 : (Cond.selects RX5 yX5_fail yX5_fail : Cond) ∈ TBL := List.mem_of_getElem? (i := 268) (by decide +kernel)
theorem qw_108 : (Cond.fieldLink RX5 37 "ClosedUntil$TextReader" "nameCount" "I" : Cond) ∈ TBL := List.mem_of_getElem? (i := 218) (by decide +kernel)
theorem qw_109 : (Cond.fieldLink RX5 18 "ClosedUntil$TextReader" "names" "[J" : Cond) ∈ TBL := List.mem_of_getElem? (i := 55) (by decide +kernel)
theorem qw_110 : (Cond.fieldLink RX5 22 "ClosedUntil$TextReader" "nameKinds" "[I" : Cond) ∈ TBL := List.mem_of_getElem? (i := 57) (by decide +kernel)
theorem qw_111 : (Cond.fieldLink RX5 26 "ClosedUntil$TextReader" "nameNumbers" "[I" : Cond) ∈ TBL := List.mem_of_getElem? (i := 58) (by decide +kernel)
theorem qw_112 : (Cond.code yX5_slotOf cX5_slotOf 4 (some .int) : Cond) ∈ TBL := List.mem_of_getElem? (i := 277) (by decide +kernel)
theorem qw_113 : (Cond.methodLink RX5 189 yX5_slotOf : Cond) ∈ TBL := List.mem_of_getElem? (i := 274) (by decide +kernel)
theorem qw_114 : (Cond.instanceMethod yX5_slotOf : Cond) ∈ TBL := List.mem_of_getElem? (i := 275) (by decide +kernel)
theorem qw_115 : (Cond.selects RX5 yX5_slotOf yX5_slotOf : Cond) ∈ TBL := List.mem_of_getElem? (i := 276) (by decide +kernel)
theorem qw_116 : (Cond.code yX5_readNumber cX5_readNumber 4 (some .int) : Cond) ∈ TBL := List.mem_of_getElem? (i := 289) (by decide +kernel)
theorem qw_117 : (Cond.methodLink RX5 166 yX5_readNumber : Cond) ∈ TBL := List.mem_of_getElem? (i := 286) (by decide +kernel)
theorem qw_118 : (Cond.instanceMethod yX5_readNumber : Cond) ∈ TBL := List.mem_of_getElem? (i := 287) (by decide +kernel)
theorem qw_119 : (Cond.selects RX5 yX5_readNumber yX5_readNumber : Cond) ∈ TBL := List.mem_of_getElem? (i := 288) (by decide +kernel)
theorem qw_120 : (Cond.code yX5_readName cX5_readName 4 (some .int) : Cond) ∈ TBL := List.mem_of_getElem? (i := 319) (by decide +kernel)
theorem qw_121 : (Cond.methodLink RX5 116 yX5_readName : Cond) ∈ TBL := List.mem_of_getElem? (i := 316) (by decide +kernel)
theorem qw_122 : (Cond.instanceMethod yX5_readName : Cond) ∈ TBL := List.mem_of_getElem? (i := 317) (by decide +kernel)
theorem qw_123 : (Cond.selects RX5 yX5_readName yX5_readName : Cond) ∈ TBL := List.mem_of_getElem? (i := 318) (by decide +kernel)
theorem rgP4_55f25ec {D : va_G} {cl : List vw_C} {H : Heap} {c0 c1 c2 c3 : Nat × va_E} (h : va_P D cl ([c0, c1, c2, c3]) H) : va_P D cl ([c1, c2, c3]) H := h.sub (ws' := [c1, c2, c3]) [1, 2, 3] rfl
theorem rgD4_5354514 {A : Nat → Prop} {c0 c1 c2 c3 : Nat × va_E} (h : va_D A ([c0, c1, c2, c3])) : va_D A ([c1, c2, c3]) := h.sub (ws' := [c1, c2, c3]) [1, 2, 3] (by decide +kernel) rfl
theorem rgJ4_484dfc6 {A0 : Nat → Prop} {D : va_G} {cl : List vw_C} {H H1 : Heap} {c0 c1 c2 c3 : Nat × va_E} {d0 d1 d2 : Nat × va_E} (hP : va_P D cl ([c0, c1, c2, c3]) H) (hD : va_D A0 ([c0, c1, c2, c3])) (hk : ∀ q : Nat, q < H.size → ¬ va_A ([c1, c2, c3]) H.size q → H1[q]? = H[q]?) (hF : ∀ q, va_A ([c1, c2, c3]) H.size q → A0 q) (hP1 : va_P D cl ([d0, d1, d2]) H1) (hD1 : va_D (va_A ([c1, c2, c3]) H.size) ([d0, d1, d2])) : va_P D cl ([c0, d0, d1, d2]) H1 ∧ va_D A0 ([c0, d0, d1, d2]) := by
  obtain ⟨h1, h2⟩ := va_join (ws := [c0, c1, c2, c3]) (wc := [c1, c2, c3]) (wr := [c0]) (w1 := [d0, d1, d2]) hP hD [1, 2, 3] [0] rfl rfl (by decide +kernel) (by decide +kernel) hk hF hP1 hD1
  exact ⟨va_P.sub (ws := [c0, d0, d1, d2]) (ws' := [c0, d0, d1, d2]) h1 [0, 1, 2, 3] rfl, va_D.sub (ws := [c0, d0, d1, d2]) (ws' := [c0, d0, d1, d2]) h2 [0, 1, 2, 3] (by decide +kernel) rfl⟩
theorem rgP4_afa90ad {D : va_G} {cl : List vw_C} {H : Heap} {c0 c1 c2 c3 : Nat × va_E} (h : va_P D cl ([c0, c1, c2, c3]) H) : va_P D cl ([c0]) H := h.sub (ws' := [c0]) [0] rfl
theorem rgD4_a246c7e {A : Nat → Prop} {c0 c1 c2 c3 : Nat × va_E} (h : va_D A ([c0, c1, c2, c3])) : va_D A ([c0]) := h.sub (ws' := [c0]) [0] (by decide +kernel) rfl
theorem rgJ4_202d814 {A0 : Nat → Prop} {D : va_G} {cl : List vw_C} {H H1 : Heap} {c0 c1 c2 c3 : Nat × va_E} {d0 : Nat × va_E} (hP : va_P D cl ([c0, c1, c2, c3]) H) (hD : va_D A0 ([c0, c1, c2, c3])) (hk : ∀ q : Nat, q < H.size → ¬ va_A ([c0]) H.size q → H1[q]? = H[q]?) (hF : ∀ q, va_A ([c0]) H.size q → A0 q) (hP1 : va_P D cl ([d0]) H1) (hD1 : va_D (va_A ([c0]) H.size) ([d0])) : va_P D cl ([d0, c1, c2, c3]) H1 ∧ va_D A0 ([d0, c1, c2, c3]) := by
  obtain ⟨h1, h2⟩ := va_join (ws := [c0, c1, c2, c3]) (wc := [c0]) (wr := [c1, c2, c3]) (w1 := [d0]) hP hD [0] [1, 2, 3] rfl rfl (by decide +kernel) (by decide +kernel) hk hF hP1 hD1
  exact ⟨va_P.sub (ws := [c1, c2, c3, d0]) (ws' := [d0, c1, c2, c3]) h1 [3, 0, 1, 2] rfl, va_D.sub (ws := [c1, c2, c3, d0]) (ws' := [d0, c1, c2, c3]) h2 [3, 0, 1, 2] (by decide +kernel) rfl⟩
theorem rgL7_2e0bc46 {c0 c1 c2 c3 c4 c5 c6 : Nat × va_E} : (([c0, c1, c2, c3, c4, c5, c6] : va_W))[0]? = some c0 := rfl
theorem rgL7_c83edf0 {c0 c1 c2 c3 c4 c5 c6 : Nat × va_E} : (([c0, c1, c2, c3, c4, c5, c6] : va_W))[1]? = some c1 := rfl
theorem rgP7_36ca781 {D : va_G} {cl : List vw_C} {H : Heap} {c0 c1 c2 c3 c4 c5 c6 : Nat × va_E} (h : va_P D cl ([c0, c1, c2, c3, c4, c5, c6]) H) : va_P D cl ([c0, c4]) H := h.sub (ws' := [c0, c4]) [0, 4] rfl
theorem rgK5_f94995a {D : va_G} {cl : List vw_C} {U : State} {t0 t1 t2 t3 t4 : ClassId × FieldType} (h : va_K D cl [t0, t1, t2, t3, t4] U) : va_K D cl [t2] U := h.sub (tys' := [t2]) [2] rfl
theorem rgP7_244302c {D : va_G} {cl : List vw_C} {H : Heap} {c0 c1 c2 c3 c4 c5 c6 : Nat × va_E} (h : va_P D cl ([c0, c1, c2, c3, c4, c5, c6]) H) : va_P D cl ([c0]) H := h.sub (ws' := [c0]) [0] rfl
theorem rgK5_6e78cbf {D : va_G} {cl : List vw_C} {U : State} {t0 t1 t2 t3 t4 : ClassId × FieldType} (h : va_K D cl [t0, t1, t2, t3, t4] U) : va_K D cl [] U := h.sub (tys' := []) [] rfl
theorem rgD7_6d0fc28 {A : Nat → Prop} {c0 c1 c2 c3 c4 c5 c6 : Nat × va_E} (h : va_D A ([c0, c1, c2, c3, c4, c5, c6])) : va_D A ([c0]) := h.sub (ws' := [c0]) [0] (by decide +kernel) rfl
theorem rgJ7_b79231f {A0 : Nat → Prop} {D : va_G} {cl : List vw_C} {H H1 : Heap} {c0 c1 c2 c3 c4 c5 c6 : Nat × va_E} {d0 : Nat × va_E} (hP : va_P D cl ([c0, c1, c2, c3, c4, c5, c6]) H) (hD : va_D A0 ([c0, c1, c2, c3, c4, c5, c6])) (hk : ∀ q : Nat, q < H.size → ¬ va_A ([c0]) H.size q → H1[q]? = H[q]?) (hF : ∀ q, va_A ([c0]) H.size q → A0 q) (hP1 : va_P D cl ([d0]) H1) (hD1 : va_D (va_A ([c0]) H.size) ([d0])) : va_P D cl ([d0, c1, c2, c3, c4, c5, c6]) H1 ∧ va_D A0 ([d0, c1, c2, c3, c4, c5, c6]) := by
  obtain ⟨h1, h2⟩ := va_join (ws := [c0, c1, c2, c3, c4, c5, c6]) (wc := [c0]) (wr := [c1, c2, c3, c4, c5, c6]) (w1 := [d0]) hP hD [0] [1, 2, 3, 4, 5, 6] rfl rfl (by decide +kernel) (by decide +kernel) hk hF hP1 hD1
  exact ⟨va_P.sub (ws := [c1, c2, c3, c4, c5, c6, d0]) (ws' := [d0, c1, c2, c3, c4, c5, c6]) h1 [6, 0, 1, 2, 3, 4, 5] rfl, va_D.sub (ws := [c1, c2, c3, c4, c5, c6, d0]) (ws' := [d0, c1, c2, c3, c4, c5, c6]) h2 [6, 0, 1, 2, 3, 4, 5] (by decide +kernel) rfl⟩
theorem rgP7_a74a570 {D : va_G} {cl : List vw_C} {H : Heap} {c0 c1 c2 c3 c4 c5 c6 : Nat × va_E} (h : va_P D cl ([c0, c1, c2, c3, c4, c5, c6]) H) : va_P D cl ([c1, c2, c3]) H := h.sub (ws' := [c1, c2, c3]) [1, 2, 3] rfl
theorem rgK5_ee8ec44 {D : va_G} {cl : List vw_C} {U : State} {t0 t1 t2 t3 t4 : ClassId × FieldType} (h : va_K D cl [t0, t1, t2, t3, t4] U) : va_K D cl [t0, t1] U := h.sub (tys' := [t0, t1]) [0, 1] rfl
theorem rgD7_2f58844 {A : Nat → Prop} {c0 c1 c2 c3 c4 c5 c6 : Nat × va_E} (h : va_D A ([c0, c1, c2, c3, c4, c5, c6])) : va_D A ([c1, c2, c3]) := h.sub (ws' := [c1, c2, c3]) [1, 2, 3] (by decide +kernel) rfl
theorem rgJ7_b862400 {A0 : Nat → Prop} {D : va_G} {cl : List vw_C} {H H1 : Heap} {c0 c1 c2 c3 c4 c5 c6 : Nat × va_E} {d0 d1 d2 : Nat × va_E} (hP : va_P D cl ([c0, c1, c2, c3, c4, c5, c6]) H) (hD : va_D A0 ([c0, c1, c2, c3, c4, c5, c6])) (hk : ∀ q : Nat, q < H.size → ¬ va_A ([c1, c2, c3]) H.size q → H1[q]? = H[q]?) (hF : ∀ q, va_A ([c1, c2, c3]) H.size q → A0 q) (hP1 : va_P D cl ([d0, d1, d2]) H1) (hD1 : va_D (va_A ([c1, c2, c3]) H.size) ([d0, d1, d2])) : va_P D cl ([c0, d0, d1, d2, c4, c5, c6]) H1 ∧ va_D A0 ([c0, d0, d1, d2, c4, c5, c6]) := by
  obtain ⟨h1, h2⟩ := va_join (ws := [c0, c1, c2, c3, c4, c5, c6]) (wc := [c1, c2, c3]) (wr := [c0, c4, c5, c6]) (w1 := [d0, d1, d2]) hP hD [1, 2, 3] [0, 4, 5, 6] rfl rfl (by decide +kernel) (by decide +kernel) hk hF hP1 hD1
  exact ⟨va_P.sub (ws := [c0, c4, c5, c6, d0, d1, d2]) (ws' := [c0, d0, d1, d2, c4, c5, c6]) h1 [0, 4, 5, 6, 1, 2, 3] rfl, va_D.sub (ws := [c0, c4, c5, c6, d0, d1, d2]) (ws' := [c0, d0, d1, d2, c4, c5, c6]) h2 [0, 4, 5, 6, 1, 2, 3] (by decide +kernel) rfl⟩
theorem rgL7_8fc37de {c0 c1 c2 c3 c4 c5 c6 : Nat × va_E} : (([c0, c1, c2, c3, c4, c5, c6] : va_W))[5]? = some c5 := rfl
theorem rgT5_5f7a9a6 {t0 t1 t2 t3 t4 : ClassId × FieldType} : (([t0, t1, t2, t3, t4] : List (ClassId × FieldType)))[3]? = some t3 := rfl
theorem rgL7_9f858b7 {c0 c1 c2 c3 c4 c5 c6 : Nat × va_E} : (([c0, c1, c2, c3, c4, c5, c6] : va_W))[6]? = some c6 := rfl
theorem rgT5_860c1f5 {t0 t1 t2 t3 t4 : ClassId × FieldType} : (([t0, t1, t2, t3, t4] : List (ClassId × FieldType)))[4]? = some t4 := rfl
theorem rgP5_80be5ac {D : va_G} {cl : List vw_C} {H : Heap} {c0 c1 c2 c3 c4 : Nat × va_E} (h : va_P D cl ([c0, c1, c2, c3, c4]) H) : va_P D cl ([c0, c4]) H := h.sub (ws' := [c0, c4]) [0, 4] rfl
theorem rgK3_deae889 {D : va_G} {cl : List vw_C} {U : State} {t0 t1 t2 : ClassId × FieldType} (h : va_K D cl [t0, t1, t2] U) : va_K D cl [t2] U := h.sub (tys' := [t2]) [2] rfl
theorem rgP5_1e878c8 {D : va_G} {cl : List vw_C} {H : Heap} {c0 c1 c2 c3 c4 : Nat × va_E} (h : va_P D cl ([c0, c1, c2, c3, c4]) H) : va_P D cl ([c1, c2, c3]) H := h.sub (ws' := [c1, c2, c3]) [1, 2, 3] rfl
theorem rgK3_ea8775c {D : va_G} {cl : List vw_C} {U : State} {t0 t1 t2 : ClassId × FieldType} (h : va_K D cl [t0, t1, t2] U) : va_K D cl [t0, t1] U := h.sub (tys' := [t0, t1]) [0, 1] rfl
theorem rgD5_f9d6234 {A : Nat → Prop} {c0 c1 c2 c3 c4 : Nat × va_E} (h : va_D A ([c0, c1, c2, c3, c4])) : va_D A ([c1, c2, c3]) := h.sub (ws' := [c1, c2, c3]) [1, 2, 3] (by decide +kernel) rfl
theorem rgJ5_c720206 {A0 : Nat → Prop} {D : va_G} {cl : List vw_C} {H H1 : Heap} {c0 c1 c2 c3 c4 : Nat × va_E} {d0 d1 d2 : Nat × va_E} (hP : va_P D cl ([c0, c1, c2, c3, c4]) H) (hD : va_D A0 ([c0, c1, c2, c3, c4])) (hk : ∀ q : Nat, q < H.size → ¬ va_A ([c1, c2, c3]) H.size q → H1[q]? = H[q]?) (hF : ∀ q, va_A ([c1, c2, c3]) H.size q → A0 q) (hP1 : va_P D cl ([d0, d1, d2]) H1) (hD1 : va_D (va_A ([c1, c2, c3]) H.size) ([d0, d1, d2])) : va_P D cl ([c0, d0, d1, d2, c4]) H1 ∧ va_D A0 ([c0, d0, d1, d2, c4]) := by
  obtain ⟨h1, h2⟩ := va_join (ws := [c0, c1, c2, c3, c4]) (wc := [c1, c2, c3]) (wr := [c0, c4]) (w1 := [d0, d1, d2]) hP hD [1, 2, 3] [0, 4] rfl rfl (by decide +kernel) (by decide +kernel) hk hF hP1 hD1
  exact ⟨va_P.sub (ws := [c0, c4, d0, d1, d2]) (ws' := [c0, d0, d1, d2, c4]) h1 [0, 2, 3, 4, 1] rfl, va_D.sub (ws := [c0, c4, d0, d1, d2]) (ws' := [c0, d0, d1, d2, c4]) h2 [0, 2, 3, 4, 1] (by decide +kernel) rfl⟩
theorem rgP5_89a3f62 {D : va_G} {cl : List vw_C} {H : Heap} {c0 c1 c2 c3 c4 : Nat × va_E} (h : va_P D cl ([c0, c1, c2, c3, c4]) H) : va_P D cl ([c0]) H := h.sub (ws' := [c0]) [0] rfl
theorem rgD5_0e893dd {A : Nat → Prop} {c0 c1 c2 c3 c4 : Nat × va_E} (h : va_D A ([c0, c1, c2, c3, c4])) : va_D A ([c0]) := h.sub (ws' := [c0]) [0] (by decide +kernel) rfl
theorem rgJ5_178c2bf {A0 : Nat → Prop} {D : va_G} {cl : List vw_C} {H H1 : Heap} {c0 c1 c2 c3 c4 : Nat × va_E} {d0 : Nat × va_E} (hP : va_P D cl ([c0, c1, c2, c3, c4]) H) (hD : va_D A0 ([c0, c1, c2, c3, c4])) (hk : ∀ q : Nat, q < H.size → ¬ va_A ([c0]) H.size q → H1[q]? = H[q]?) (hF : ∀ q, va_A ([c0]) H.size q → A0 q) (hP1 : va_P D cl ([d0]) H1) (hD1 : va_D (va_A ([c0]) H.size) ([d0])) : va_P D cl ([d0, c1, c2, c3, c4]) H1 ∧ va_D A0 ([d0, c1, c2, c3, c4]) := by
  obtain ⟨h1, h2⟩ := va_join (ws := [c0, c1, c2, c3, c4]) (wc := [c0]) (wr := [c1, c2, c3, c4]) (w1 := [d0]) hP hD [0] [1, 2, 3, 4] rfl rfl (by decide +kernel) (by decide +kernel) hk hF hP1 hD1
  exact ⟨va_P.sub (ws := [c1, c2, c3, c4, d0]) (ws' := [d0, c1, c2, c3, c4]) h1 [4, 0, 1, 2, 3] rfl, va_D.sub (ws := [c1, c2, c3, c4, d0]) (ws' := [d0, c1, c2, c3, c4]) h2 [4, 0, 1, 2, 3] (by decide +kernel) rfl⟩
theorem rgP4_4a5626e {D : va_G} {cl : List vw_C} {H : Heap} {c0 c1 c2 c3 : Nat × va_E} (h : va_P D cl ([c0, c1, c2, c3]) H) : va_P D cl ([]) H := h.sub (ws' := []) [] rfl
theorem rgP4_d636d8f {D : va_G} {cl : List vw_C} {H : Heap} {c0 c1 c2 c3 : Nat × va_E} {R : va_W} (h : va_P D cl ([c0, c1, c2, c3] ++ R) H) : va_P D cl ([c0, c1, c2, c3]) H := h.sub (ws' := [c0, c1, c2, c3]) [0, 1, 2, 3] rfl
theorem rgD4_3c16b7d {A : Nat → Prop} {c0 c1 c2 c3 : Nat × va_E} {R : va_W} (h : va_D A ([c0, c1, c2, c3] ++ R)) : va_D A ([c0, c1, c2, c3]) := h.sub (ws' := [c0, c1, c2, c3]) [0, 1, 2, 3] (by decide +kernel) rfl
theorem rgJ4_ca42cf3 {A0 : Nat → Prop} {D : va_G} {cl : List vw_C} {H H1 : Heap} {c0 c1 c2 c3 : Nat × va_E} {d0 d1 d2 d3 : Nat × va_E} {R : va_W} (hP : va_P D cl ([c0, c1, c2, c3] ++ R) H) (hD : va_D A0 ([c0, c1, c2, c3] ++ R)) (hk : ∀ q : Nat, q < H.size → ¬ va_A ([c0, c1, c2, c3]) H.size q → H1[q]? = H[q]?) (hF : ∀ q, va_A ([c0, c1, c2, c3]) H.size q → A0 q) (hP1 : va_P D cl ([d0, d1, d2, d3]) H1) (hD1 : va_D (va_A ([c0, c1, c2, c3]) H.size) ([d0, d1, d2, d3])) : va_P D cl ([d0, d1, d2, d3] ++ R) H1 ∧ va_D A0 ([d0, d1, d2, d3] ++ R) := by
  obtain ⟨h1, h2⟩ := va_joinQ (X := [c0, c1, c2, c3]) (cx := [c0, c1, c2, c3]) (wr := []) (w1 := [d0, d1, d2, d3]) hP hD [0, 1, 2, 3] [] rfl rfl (by decide +kernel) (by decide +kernel) hk hF hP1 hD1
  exact ⟨va_P.part (X := [d0, d1, d2, d3]) (cx := [d0, d1, d2, d3]) h1 [0, 1, 2, 3] rfl, va_D.part (X := [d0, d1, d2, d3]) (cx := [d0, d1, d2, d3]) h2 [0, 1, 2, 3] (by decide +kernel) rfl⟩
theorem rgJ7_74b057b {A0 : Nat → Prop} {D : va_G} {cl : List vw_C} {H H1 : Heap} {c0 c1 c2 c3 c4 c5 c6 : Nat × va_E} {d0 d1 d2 d3 d4 d5 d6 : Nat × va_E} (hP : va_P D cl ([c0, c1, c2, c3, c4, c5, c6]) H) (hD : va_D A0 ([c0, c1, c2, c3, c4, c5, c6])) (hk : ∀ q : Nat, q < H.size → ¬ va_A ([c0, c1, c2, c3, c4, c5, c6]) H.size q → H1[q]? = H[q]?) (hF : ∀ q, va_A ([c0, c1, c2, c3, c4, c5, c6]) H.size q → A0 q) (hP1 : va_P D cl ([d0, d1, d2, d3, d4, d5, d6]) H1) (hD1 : va_D (va_A ([c0, c1, c2, c3, c4, c5, c6]) H.size) ([d0, d1, d2, d3, d4, d5, d6])) : va_P D cl ([d0, d1, d2, d3, d4, d5, d6]) H1 ∧ va_D A0 ([d0, d1, d2, d3, d4, d5, d6]) := by
  obtain ⟨h1, h2⟩ := va_join (ws := [c0, c1, c2, c3, c4, c5, c6]) (wc := [c0, c1, c2, c3, c4, c5, c6]) (wr := []) (w1 := [d0, d1, d2, d3, d4, d5, d6]) hP hD [0, 1, 2, 3, 4, 5, 6] [] rfl rfl (by decide +kernel) (by decide +kernel) hk hF hP1 hD1
  exact ⟨va_P.sub (ws := [d0, d1, d2, d3, d4, d5, d6]) (ws' := [d0, d1, d2, d3, d4, d5, d6]) h1 [0, 1, 2, 3, 4, 5, 6] rfl, va_D.sub (ws := [d0, d1, d2, d3, d4, d5, d6]) (ws' := [d0, d1, d2, d3, d4, d5, d6]) h2 [0, 1, 2, 3, 4, 5, 6] (by decide +kernel) rfl⟩
theorem rgP7_0bb1494 {D : va_G} {cl : List vw_C} {H : Heap} {c0 c1 c2 c3 c4 c5 c6 : Nat × va_E} (h : va_P D cl ([c0, c1, c2, c3, c4, c5, c6]) H) : va_P D cl ([]) H := h.sub (ws' := []) [] rfl
set_option maxHeartbeats 4000000 in
set_option maxRecDepth 100000 in
theorem k_X5_fail (l : Launch) (dC : Nat → ClassId) (dI : Nat → Nat → Nat) (g : Gv) (sz : Nat) (a0 : Nat) (a1 : Int32) (a2 : Int32) (a0_0 : Nat) (a0_1 : Nat) (a0_2 : Nat) (a0_3 : Nat) (a0_4 : Int32) (a0_5 : Int32) (h_a0_4 : 0 ≤ a0_4.toInt ∧ a0_4.toInt ≤ 36) (hk : 1 ≤ a1.toInt ∧ a1.toInt ≤ 5) (hp : 0 ≤ a2.toInt ∧ a2.toInt ≤ 1000) : Met l yX5_fail (.code yX5_fail cX5_fail 3 none :: TBL) ({ frames := 0, cells := 0, slots := 0, locals := 0 }) (va_Pc [.ref a0, .int a1, .int a2] (fun U => U.heap.size = sz ∧ va_P (dC, dI) vwCl [(a0, .inr (4, [.ref a0_0, .ref a0_1, .ref a0_2, .ref a0_3, .int a0_4, .int a0_5]))] U.heap ∧ va_K (dC, dI) vwCl [] U ∧ va_D (fun _ => True) [(a0, .inr (4, [.ref a0_0, .ref a0_1, .ref a0_2, .ref a0_3, .int a0_4, .int a0_5]))] ∧ Ev g (va_A [(a0, .inr (4, [.ref a0_0, .ref a0_1, .ref a0_2, .ref a0_3, .int a0_4, .int a0_5]))] sz) U)) (va_Qv (fun (_ : Unit) => True) (fun (_ : Unit) (t : State) => ∃ (za0_5 : Int32), (za0_5.toInt ≠ -1) ∧ va_P (dC, dI) vwCl [(a0, .inr (4, [.ref a0_0, .ref a0_1, .ref a0_2, .ref a0_3, .int a0_4, .int za0_5]))] t.heap ∧ va_K (dC, dI) vwCl [] t ∧ va_D (va_A [(a0, .inr (4, [.ref a0_0, .ref a0_1, .ref a0_2, .ref a0_3, .int a0_4, .int a0_5]))] sz) [(a0, .inr (4, [.ref a0_0, .ref a0_1, .ref a0_2, .ref a0_3, .int a0_4, .int za0_5]))]) (va_A [(a0, .inr (4, [.ref a0_0, .ref a0_1, .ref a0_2, .ref a0_3, .int a0_4, .int a0_5]))] sz)) 0 0 (va_A [(a0, .inr (4, [.ref a0_0, .ref a0_1, .ref a0_2, .ref a0_3, .int a0_4, .int a0_5]))] sz) := by
  refine Met.ofW (cc := cX5_fail) (maxL := 3) (ret := none) (by decide) rfl ?_
  intro p e s m args below meth c s₁ B hml hv
  obtain ⟨rfl, hsz, hP, hK, hD0, hE⟩ := hv
  have hx := B.exec
  have hb := B.bytes
  have hr := B.returns
  have hts0 := atoms_spec (ws := (.code yX5_fail cX5_fail 3 none :: TBL)) B.pre
  have hts := fun (w : Cond) (h : w ∈ TBL) => hts0 w (List.mem_cons_of_mem _ h)
  have hown : s.vm.findClass RX5 = some m.cls := findClass_of_methodNamed B.named
  have hlocks := B.notSynchronized
  have hN := hE.1
  subst hsz
  have hD := hD0.self (sz := s.heap.size)
  generalize hAe : va_A [(a0, .inr (4, [.ref a0_0, .ref a0_1, .ref a0_2, .ref a0_3, .int a0_4, .int a0_5]))] s.heap.size = A at hD hE ⊢
  have hA : ∀ q : Nat, s.heap.size ≤ q → A q := fun q h => by rw [← hAe]; exact Or.inr h
  have hS : va_S A s.heap s.heap [] := va_S.rf
  replace hP : va_P (dC, dI) vwCl [(a0, .inr (4, [.ref a0_0, .ref a0_1, .ref a0_2, .ref a0_3, .int a0_4, .int a0_5]))] s.heap := hP
  have hl := lv_entry ([.ref a0, .int a1, .int a2]) (n := 3) (Nat.le_of_ble_eq_true rfl)
  rw [lg_entry_eq]
  generalize (lg_sl ([.ref a0, .int a1, .int a2]) ++ List.replicate (3 - (lg_sl ([.ref a0, .int a1, .int a2])).length) Slot.unset).toArray = ls at hl ⊢
  have hl : lv_has ls 3 [(0, .ref a0), (1, .int a1), (2, .int a2)] := hl
  have b_a1 := i32b a1
  have b_a2 := i32b a2
  have b_a0_5 := i32b a0_5
  refine lv_aload_n hx hb dX5_fail_0 rfl (lv_at hl 0 rfl) ?_
  refine va_get (D := (dC, dI)) (ci := 4) (v := .int a0_5) (C := RX5) (T := TX5) (N := 6) hx hb hts inlX5 hown hK hP 0 rgL1_f9e15c6 rfl 5 (by decide) (hts (.fieldLink RX5 41 "ClosedUntil$TextReader" "fault" "I") qw_97) (fun _ h9 => h9) rfl dX5_fail_1 ?_
  refine lv_iconst (v := (-1)) hx hb dX5_fail_4 (by decide) ?_
  refine lv_icmp_ne (tgt := 18) hx hb dX5_fail_5 (by decide) (fun c5_1 => ?_) (fun c5_1 => ?_)
  · have c5_1 : ¬ (a0_5.toInt = (-1)) := mt (cv_eq rfl (by decide)).mpr c5_1
    refine W.widen (k := 0) (n := 0) (Nat.le_of_ble_eq_true rfl) (Nat.le_of_ble_eq_true rfl) ?_
    have hP9 := hP
    have hD9 := hD
    have hK9 := hK
    have hf9_0 : (a0_5.toInt ≠ -1) := by omega
    exact W.vret hx hb hr (fun t ht hW => ⟨⟨(), rfl, trivial, a0_5, hf9_0, atB ht hP9, va_K.moved hW.alike hK9, hD9⟩, hS.F ht⟩) hS.2.2 dX5_fail_18
  · have c5_1 : a0_5.toInt = (-1) := (cv_eq rfl (by decide)).mp c5_1
    refine lv_aload_n hx hb dX5_fail_8 rfl (lv_at hl 0 rfl) ?_
    refine lv_bipush (v := 8) hx hb dX5_fail_9 (by decide) ?_
    refine lv_iload_n hx hb dX5_fail_11 rfl (lv_at hl 2 rfl) ?_
    refine lv_imul hx hb dX5_fail_12 ?_
    refine lv_topi (fun x2 e_x2 => ?_)
    try have e_x2 := ti_mul e_x2 (show (8 : Int32).toInt = 8 by decide) rfl (by omega)
    refine lv_iload_n hx hb dX5_fail_13 rfl (lv_at hl 1 rfl) ?_
    refine lv_iadd hx hb dX5_fail_14 ?_
    refine lv_topi (fun x3 e_x3 => ?_)
    try have e_x3 := ti_add e_x3 rfl rfl (by omega)
    refine va_put (D := (dC, dI)) (ci := 4) (v := .int x3) (ty := .int) (C := RX5) (T := TX5) (N := 6) hx hb hts inlX5 tyX5 tyX5_ok nmX5 hown hK hP hD hS 0 rgL1_f9e15c6 rfl 5 (by decide) (hts (.fieldLink RX5 41 "ClosedUntil$TextReader" "fault" "I") qw_97) (fun _ h9 => h9) rfl (by decide +kernel) rfl rfl (Nat.le_of_ble_eq_true rfl) dX5_fail_15 (fun H locs hP9 hD9 hS9 => ?_)
    clear hP hD hS
    obtain ⟨hP, hD⟩ := rgS1_4a8b427 (e := (a0, .inr (4, [.ref a0_0, .ref a0_1, .ref a0_2, .ref a0_3, .int a0_4, .int x3]))) hP9 hD9 rfl
    have hS := hS9; clear hP9 hD9 hS9
    refine W.widen (k := 0) (n := 0) (Nat.le_of_ble_eq_true rfl) (Nat.le_of_ble_eq_true rfl) ?_
    have hP9 := hP
    have hD9 := hD
    have hK9 := hK
    have hf9_0 : (x3.toInt ≠ -1) := by omega
    exact W.vret hx hb hr (fun t ht hW => ⟨⟨(), rfl, trivial, x3, hf9_0, atB ht hP9, va_K.moved hW.alike hK9, hD9⟩, hS.F ht⟩) hS.2.2 dX5_fail_18
set_option maxHeartbeats 4000000 in
set_option maxRecDepth 100000 in
theorem k_X5_passes (l : Launch) (dC : Nat → ClassId) (dI : Nat → Nat → Nat) (g : Gv) (sz : Nat) (a0 : Nat) (a1 : Int32) (a0_0 : Nat) (a0_1 : Nat) (a0_2 : Nat) (a0_3 : Nat) (a0_4 : Int32) (a0_5 : Int32) (a0_0_0 : Nat) (a0_0_1 : Nat) (a0_0_2 : Int32) (a0_0_3 : Int32) (a0_0_4 : Int32) (a0_0_5 : Int32) (a0_0_6 : Int64) (a0_0_7 : Int32) (a0_0_0_c : ClassId) (a0_0_0_f : Nat → Int64) (a0_0_1_c : ClassId) (a0_0_1_f : Nat → Int32) (h_a0_4 : 0 ≤ a0_4.toInt ∧ a0_4.toInt ≤ 36) (h_a0_0_2 : 0 ≤ a0_0_2.toInt ∧ a0_0_2.toInt ≤ 1000) (h_a0_0_3 : 0 ≤ a0_0_3.toInt ∧ a0_0_3.toInt ≤ 1000) (h_a0_0_5 : 0 ≤ a0_0_5.toInt ∧ a0_0_5.toInt ≤ 1000) : Met l yX5_passes (.code yX5_passes cX5_passes 2 (some .boolean) :: TBL) ({ frames := 3, cells := 0, slots := 0, locals := 63 }) (va_Pc [.ref a0, .int a1] (fun U => U.heap.size = sz ∧ va_P (dC, dI) vwCl [(a0, .inr (4, [.ref a0_0, .ref a0_1, .ref a0_2, .ref a0_3, .int a0_4, .int a0_5])), (a0_0, .inr (6, [.ref a0_0_0, .ref a0_0_1, .int a0_0_2, .int a0_0_3, .int a0_0_4, .int a0_0_5, .long a0_0_6, .int a0_0_7])), (a0_0_0, .inl (a0_0_0_c, 12, .inr (.inl a0_0_0_f))), (a0_0_1, .inl (a0_0_1_c, 1000, .inl a0_0_1_f))] U.heap ∧ va_K (dC, dI) vwCl [(a0_0_0_c, .long), (a0_0_1_c, .byte)] U ∧ va_D (fun _ => True) [(a0, .inr (4, [.ref a0_0, .ref a0_1, .ref a0_2, .ref a0_3, .int a0_4, .int a0_5])), (a0_0, .inr (6, [.ref a0_0_0, .ref a0_0_1, .int a0_0_2, .int a0_0_3, .int a0_0_4, .int a0_0_5, .long a0_0_6, .int a0_0_7])), (a0_0_0, .inl (a0_0_0_c, 12, .inr (.inl a0_0_0_f))), (a0_0_1, .inl (a0_0_1_c, 1000, .inl a0_0_1_f))] ∧ Ev g (va_A [(a0, .inr (4, [.ref a0_0, .ref a0_1, .ref a0_2, .ref a0_3, .int a0_4, .int a0_5])), (a0_0, .inr (6, [.ref a0_0_0, .ref a0_0_1, .int a0_0_2, .int a0_0_3, .int a0_0_4, .int a0_0_5, .long a0_0_6, .int a0_0_7])), (a0_0_0, .inl (a0_0_0_c, 12, .inr (.inl a0_0_0_f))), (a0_0_1, .inl (a0_0_1_c, 1000, .inl a0_0_1_f))] sz) U)) (va_Qi (fun (r : Int32) (u : Int32) => u = r) (fun (u : Int32) (t : State) => ∃ (za0_0_3 : Int32) (za0_0_4 : Int32) (za0_0_5 : Int32) (za0_0_6 : Int64) (za0_0_7 : Int32), (0 ≤ za0_0_3.toInt ∧ za0_0_3.toInt ≤ 1000) ∧ (0 ≤ za0_0_5.toInt ∧ za0_0_5.toInt ≤ 1000) ∧ (u = 0 ∨ u = 1) ∧ va_P (dC, dI) vwCl [(a0, .inr (4, [.ref a0_0, .ref a0_1, .ref a0_2, .ref a0_3, .int a0_4, .int a0_5])), (a0_0, .inr (6, [.ref a0_0_0, .ref a0_0_1, .int a0_0_2, .int za0_0_3, .int za0_0_4, .int za0_0_5, .long za0_0_6, .int za0_0_7])), (a0_0_0, .inl (a0_0_0_c, 12, .inr (.inl a0_0_0_f))), (a0_0_1, .inl (a0_0_1_c, 1000, .inl a0_0_1_f))] t.heap ∧ va_K (dC, dI) vwCl [] t ∧ va_D (va_A [(a0, .inr (4, [.ref a0_0, .ref a0_1, .ref a0_2, .ref a0_3, .int a0_4, .int a0_5])), (a0_0, .inr (6, [.ref a0_0_0, .ref a0_0_1, .int a0_0_2, .int a0_0_3, .int a0_0_4, .int a0_0_5, .long a0_0_6, .int a0_0_7])), (a0_0_0, .inl (a0_0_0_c, 12, .inr (.inl a0_0_0_f))), (a0_0_1, .inl (a0_0_1_c, 1000, .inl a0_0_1_f))] sz) [(a0, .inr (4, [.ref a0_0, .ref a0_1, .ref a0_2, .ref a0_3, .int a0_4, .int a0_5])), (a0_0, .inr (6, [.ref a0_0_0, .ref a0_0_1, .int a0_0_2, .int za0_0_3, .int za0_0_4, .int za0_0_5, .long za0_0_6, .int za0_0_7])), (a0_0_0, .inl (a0_0_0_c, 12, .inr (.inl a0_0_0_f))), (a0_0_1, .inl (a0_0_1_c, 1000, .inl a0_0_1_f))]) (va_A [(a0, .inr (4, [.ref a0_0, .ref a0_1, .ref a0_2, .ref a0_3, .int a0_4, .int a0_5])), (a0_0, .inr (6, [.ref a0_0_0, .ref a0_0_1, .int a0_0_2, .int a0_0_3, .int a0_0_4, .int a0_0_5, .long a0_0_6, .int a0_0_7])), (a0_0_0, .inl (a0_0_0_c, 12, .inr (.inl a0_0_0_f))), (a0_0_1, .inl (a0_0_1_c, 1000, .inl a0_0_1_f))] sz)) 0 0 (va_A [(a0, .inr (4, [.ref a0_0, .ref a0_1, .ref a0_2, .ref a0_3, .int a0_4, .int a0_5])), (a0_0, .inr (6, [.ref a0_0_0, .ref a0_0_1, .int a0_0_2, .int a0_0_3, .int a0_0_4, .int a0_0_5, .long a0_0_6, .int a0_0_7])), (a0_0_0, .inl (a0_0_0_c, 12, .inr (.inl a0_0_0_f))), (a0_0_1, .inl (a0_0_1_c, 1000, .inl a0_0_1_f))] sz) := by
  refine Met.ofW (cc := cX5_passes) (maxL := 2) (ret := (some .boolean)) (by decide) rfl ?_
  intro p e s m args below meth c s₁ B hml hv
  obtain ⟨rfl, hsz, hP, hK, hD0, hE⟩ := hv
  have hx := B.exec
  have hb := B.bytes
  have hr := B.returns
  have hts0 := atoms_spec (ws := (.code yX5_passes cX5_passes 2 (some .boolean) :: TBL)) B.pre
  have hts := fun (w : Cond) (h : w ∈ TBL) => hts0 w (List.mem_cons_of_mem _ h)
  have hown : s.vm.findClass RX5 = some m.cls := findClass_of_methodNamed B.named
  have hlocks := B.notSynchronized
  have hN := hE.1
  subst hsz
  have hD := hD0.self (sz := s.heap.size)
  generalize hAe : va_A [(a0, .inr (4, [.ref a0_0, .ref a0_1, .ref a0_2, .ref a0_3, .int a0_4, .int a0_5])), (a0_0, .inr (6, [.ref a0_0_0, .ref a0_0_1, .int a0_0_2, .int a0_0_3, .int a0_0_4, .int a0_0_5, .long a0_0_6, .int a0_0_7])), (a0_0_0, .inl (a0_0_0_c, 12, .inr (.inl a0_0_0_f))), (a0_0_1, .inl (a0_0_1_c, 1000, .inl a0_0_1_f))] s.heap.size = A at hD hE ⊢
  have hA : ∀ q : Nat, s.heap.size ≤ q → A q := fun q h => by rw [← hAe]; exact Or.inr h
  have hS : va_S A s.heap s.heap [] := va_S.rf
  replace hP : va_P (dC, dI) vwCl [(a0, .inr (4, [.ref a0_0, .ref a0_1, .ref a0_2, .ref a0_3, .int a0_4, .int a0_5])), (a0_0, .inr (6, [.ref a0_0_0, .ref a0_0_1, .int a0_0_2, .int a0_0_3, .int a0_0_4, .int a0_0_5, .long a0_0_6, .int a0_0_7])), (a0_0_0, .inl (a0_0_0_c, 12, .inr (.inl a0_0_0_f))), (a0_0_1, .inl (a0_0_1_c, 1000, .inl a0_0_1_f))] s.heap := hP
  have hl := lv_entry ([.ref a0, .int a1]) (n := 2) (Nat.le_of_ble_eq_true rfl)
  rw [lg_entry_eq]
  generalize (lg_sl ([.ref a0, .int a1]) ++ List.replicate (2 - (lg_sl ([.ref a0, .int a1])).length) Slot.unset).toArray = ls at hl ⊢
  have hl : lv_has ls 2 [(0, .ref a0), (1, .int a1)] := hl
  have b_a1 := i32b a1
  have b_a0_5 := i32b a0_5
  have b_a0_0_4 := i32b a0_0_4
  have b_a0_0_7 := i32b a0_0_7
  refine lv_aload_n hx hb dX5_passes_0 rfl (lv_at hl 0 rfl) ?_
  refine va_get (D := (dC, dI)) (ci := 4) (v := .ref a0_0) (C := RX5) (T := TX5) (N := 6) hx hb hts inlX5 hown hK hP 0 rgL4_25bb07f rfl 0 (by decide) (hts (.fieldLink RX5 12 "ClosedUntil$TextReader" "tokens" "LClosedUntil$Tokens;") qw_98) (fun _ h9 => h9) rfl dX5_passes_1 ?_
  refine va_getN (D := (dC, dI)) (ci := 6) (v := .int a0_0_4) (C := RX7) (T := TX7) (N := 8) hx hb hts inlX7 hown hK hP 1 rgL4_60d974a rfl 4 (by decide) (va_Nw.use rfl (nf_2 hN)) (fun _ h9 => h9) rfl dX5_passes_4 ?_
  refine lv_iload_n hx hb dX5_passes_7 rfl (lv_at hl 1 rfl) ?_
  refine lv_icmp_eq (tgt := 13) hx hb dX5_passes_8 (by decide) (fun c8_1 => ?_) (fun c8_1 => ?_)
  · have c8_1 : a0_0_4.toInt = a1.toInt := (cv_eq rfl rfl).mp c8_1
    refine lv_aload_n hx hb dX5_passes_13 rfl (lv_at hl 0 rfl) ?_
    refine va_get (D := (dC, dI)) (ci := 4) (v := .ref a0_0) (C := RX5) (T := TX5) (N := 6) hx hb hts inlX5 hown hK hP 0 rgL4_25bb07f rfl 0 (by decide) (hts (.fieldLink RX5 12 "ClosedUntil$TextReader" "tokens" "LClosedUntil$Tokens;") qw_98) (fun _ h9 => h9) rfl dX5_passes_14 ?_
    have hPc := (rgP4_55f25ec hP)
    have hKc := hK
    have hDc := (rgD4_5354514 hD)
    have hFc := freeW hDc hS hA
    refine va_callv (va_runVN (As := []) (rest := []) ⟨hx, hb, hml, hown, hts⟩ (k_X7_advance l dC dI g s.heap.size (a0_0) (a0_0_0) (a0_0_1) (a0_0_2) (a0_0_3) (a0_0_4) (a0_0_5) (a0_0_6) (a0_0_7) (a0_0_0_c) (a0_0_0_f) (a0_0_1_c) (a0_0_1_f) (by omega) (by omega) (by omega)) ⟨va_cnB 0 hts (gwC qw_93) rfl rfl rfl (nm_13 hN) (hts (.initialized RX7) qw_70) (by decide +kernel) ⟨Nat.le_of_ble_eq_true rfl, Nat.le_of_ble_eq_true rfl⟩, (hts (.instanceMethod yX7_advance) qw_95), (hts (.selects RX7 yX7_advance yX7_advance) qw_96)⟩ ⟨fun a U g9 mk q => ⟨q.1, q.2.1, q.2.2.1, va_K.moved (u := U) (U := U.calling g9 mk a) (Vm.Alike.refl U.vm) q.2.2.2.1, q.2.2.2.2.1, Ev.bl q.2.2.2.2.2⟩, va_recv hK hP (ci := 6) (q0 := 1) rfl rgL4_60d974a, fun U hU hW => ⟨rfl, by rw [hU], atB hU hPc, va_K.moved hW.alike hKc, hDc.weaken (fun _ _ _ _ => trivial), hE.go hS hFc hU hW⟩⟩ rfl rfl hl.1 rfl (lv_room (Nat.le_of_ble_eq_true rfl)) dX5_passes_17 ⟨Nat.le_of_ble_eq_true rfl, Nat.le_of_ble_eq_true rfl⟩) hS (fun q _ h => hFc q h) hFc (fun u2 t H1 locs ht hvm h_u2 hB hz1 hk1 hS => ?_)
    obtain ⟨za0_3_4, za0_4_5, za0_5_6, za0_6_7, za0_7_8, hF9, hF10, hP1, hK1, hD1⟩ := hB
    have hK1 := va_K.moved hvm.symm hK1
    have hJ9 := rgJ4_484dfc6 hP hD hk1 hFc (atH ht hP1) hD1
    clear hP hD hPc hKc hDc hFc hP1 hD1 hk1 hz1
    obtain ⟨hP, hD⟩ := hJ9
    clear hK1
    generalize H1 = H at hP hS ⊢
    refine W.widen (k := 0) (n := 0) (Nat.le_of_ble_eq_true rfl) (Nat.le_of_ble_eq_true rfl) ?_
    refine lv_iconst (v := 1) hx hb dX5_passes_20 (by decide) ?_
    have qc1 : (1 : Int32).toInt = 1 := by decide
    refine W.widen (k := 0) (n := 0) (Nat.le_of_ble_eq_true rfl) (Nat.le_of_ble_eq_true rfl) ?_
    have hP9 := hP
    have hD9 := hD
    have hK9 := (rgK2_b4df2fa hK)
    have hf9_0 : (0 ≤ za0_3_4.toInt ∧ za0_3_4.toInt ≤ 1000) := by omega
    have hf9_1 : (0 ≤ za0_5_6.toInt ∧ za0_5_6.toInt ≤ 1000) := by omega
    have hf9_2 : ((1 : Int32) = 0 ∨ (1 : Int32) = 1) := (by decide)
    exact W.zret (v := 1) hx hb hr rfl (fun t ht hW => ⟨⟨1, 1, rfl, rfl, za0_3_4, za0_4_5, za0_5_6, za0_6_7, za0_7_8, hf9_0, hf9_1, hf9_2, atB ht hP9, va_K.moved hW.alike hK9, hD9⟩, hS.F ht⟩) hS.2.2 dX5_passes_21
  · have c8_1 : ¬ (a0_0_4.toInt = a1.toInt) := mt (cv_eq rfl rfl).mpr c8_1
    refine lv_iconst (v := 0) hx hb dX5_passes_11 (by decide) ?_
    have qc0 : (0 : Int32).toInt = 0 := by decide
    refine W.widen (k := 0) (n := 0) (Nat.le_of_ble_eq_true rfl) (Nat.le_of_ble_eq_true rfl) ?_
    have hP9 := hP
    have hD9 := hD
    have hK9 := (rgK2_b4df2fa hK)
    have hf9_0 : (0 ≤ a0_0_3.toInt ∧ a0_0_3.toInt ≤ 1000) := by omega
    have hf9_1 : (0 ≤ a0_0_5.toInt ∧ a0_0_5.toInt ≤ 1000) := by omega
    have hf9_2 : ((0 : Int32) = 0 ∨ (0 : Int32) = 1) := (by decide)
    exact W.zret (v := 0) hx hb hr rfl (fun t ht hW => ⟨⟨0, 0, rfl, rfl, a0_0_3, a0_0_4, a0_0_5, a0_0_6, a0_0_7, hf9_0, hf9_1, hf9_2, atB ht hP9, va_K.moved hW.alike hK9, hD9⟩, hS.F ht⟩) hS.2.2 dX5_passes_12
set_option maxHeartbeats 4000000 in
set_option maxRecDepth 100000 in
theorem k_X5_pass (l : Launch) (dC : Nat → ClassId) (dI : Nat → Nat → Nat) (g : Gv) (sz : Nat) (a0 : Nat) (a1 : Int32) (a0_0 : Nat) (a0_1 : Nat) (a0_2 : Nat) (a0_3 : Nat) (a0_4 : Int32) (a0_5 : Int32) (a0_0_0 : Nat) (a0_0_1 : Nat) (a0_0_2 : Int32) (a0_0_3 : Int32) (a0_0_4 : Int32) (a0_0_5 : Int32) (a0_0_6 : Int64) (a0_0_7 : Int32) (a0_0_0_c : ClassId) (a0_0_0_f : Nat → Int64) (a0_0_1_c : ClassId) (a0_0_1_f : Nat → Int32) (h_a0_4 : 0 ≤ a0_4.toInt ∧ a0_4.toInt ≤ 36) (h_a0_0_2 : 0 ≤ a0_0_2.toInt ∧ a0_0_2.toInt ≤ 1000) (h_a0_0_3 : 0 ≤ a0_0_3.toInt ∧ a0_0_3.toInt ≤ 1000) (h_a0_0_5 : 0 ≤ a0_0_5.toInt ∧ a0_0_5.toInt ≤ 1000) : Met l yX5_pass (.code yX5_pass cX5_pass 2 none :: TBL) ({ frames := 4, cells := 0, slots := 0, locals := 84 }) (va_Pc [.ref a0, .int a1] (fun U => U.heap.size = sz ∧ va_P (dC, dI) vwCl [(a0, .inr (4, [.ref a0_0, .ref a0_1, .ref a0_2, .ref a0_3, .int a0_4, .int a0_5])), (a0_0, .inr (6, [.ref a0_0_0, .ref a0_0_1, .int a0_0_2, .int a0_0_3, .int a0_0_4, .int a0_0_5, .long a0_0_6, .int a0_0_7])), (a0_0_0, .inl (a0_0_0_c, 12, .inr (.inl a0_0_0_f))), (a0_0_1, .inl (a0_0_1_c, 1000, .inl a0_0_1_f))] U.heap ∧ va_K (dC, dI) vwCl [(a0_0_0_c, .long), (a0_0_1_c, .byte)] U ∧ va_D (fun _ => True) [(a0, .inr (4, [.ref a0_0, .ref a0_1, .ref a0_2, .ref a0_3, .int a0_4, .int a0_5])), (a0_0, .inr (6, [.ref a0_0_0, .ref a0_0_1, .int a0_0_2, .int a0_0_3, .int a0_0_4, .int a0_0_5, .long a0_0_6, .int a0_0_7])), (a0_0_0, .inl (a0_0_0_c, 12, .inr (.inl a0_0_0_f))), (a0_0_1, .inl (a0_0_1_c, 1000, .inl a0_0_1_f))] ∧ Ev g (va_A [(a0, .inr (4, [.ref a0_0, .ref a0_1, .ref a0_2, .ref a0_3, .int a0_4, .int a0_5])), (a0_0, .inr (6, [.ref a0_0_0, .ref a0_0_1, .int a0_0_2, .int a0_0_3, .int a0_0_4, .int a0_0_5, .long a0_0_6, .int a0_0_7])), (a0_0_0, .inl (a0_0_0_c, 12, .inr (.inl a0_0_0_f))), (a0_0_1, .inl (a0_0_1_c, 1000, .inl a0_0_1_f))] sz) U)) (va_Qv (fun (_ : Unit) => True) (fun (_ : Unit) (t : State) => ∃ (za0_5 : Int32) (za0_0_3 : Int32) (za0_0_4 : Int32) (za0_0_5 : Int32) (za0_0_6 : Int64) (za0_0_7 : Int32), (0 ≤ za0_0_3.toInt ∧ za0_0_3.toInt ≤ 1000) ∧ (0 ≤ za0_0_5.toInt ∧ za0_0_5.toInt ≤ 1000) ∧ (a0_5.toInt ≠ -1 → za0_5.toInt ≠ -1) ∧ va_P (dC, dI) vwCl [(a0, .inr (4, [.ref a0_0, .ref a0_1, .ref a0_2, .ref a0_3, .int a0_4, .int za0_5])), (a0_0, .inr (6, [.ref a0_0_0, .ref a0_0_1, .int a0_0_2, .int za0_0_3, .int za0_0_4, .int za0_0_5, .long za0_0_6, .int za0_0_7])), (a0_0_0, .inl (a0_0_0_c, 12, .inr (.inl a0_0_0_f))), (a0_0_1, .inl (a0_0_1_c, 1000, .inl a0_0_1_f))] t.heap ∧ va_K (dC, dI) vwCl [] t ∧ va_D (va_A [(a0, .inr (4, [.ref a0_0, .ref a0_1, .ref a0_2, .ref a0_3, .int a0_4, .int a0_5])), (a0_0, .inr (6, [.ref a0_0_0, .ref a0_0_1, .int a0_0_2, .int a0_0_3, .int a0_0_4, .int a0_0_5, .long a0_0_6, .int a0_0_7])), (a0_0_0, .inl (a0_0_0_c, 12, .inr (.inl a0_0_0_f))), (a0_0_1, .inl (a0_0_1_c, 1000, .inl a0_0_1_f))] sz) [(a0, .inr (4, [.ref a0_0, .ref a0_1, .ref a0_2, .ref a0_3, .int a0_4, .int za0_5])), (a0_0, .inr (6, [.ref a0_0_0, .ref a0_0_1, .int a0_0_2, .int za0_0_3, .int za0_0_4, .int za0_0_5, .long za0_0_6, .int za0_0_7])), (a0_0_0, .inl (a0_0_0_c, 12, .inr (.inl a0_0_0_f))), (a0_0_1, .inl (a0_0_1_c, 1000, .inl a0_0_1_f))]) (va_A [(a0, .inr (4, [.ref a0_0, .ref a0_1, .ref a0_2, .ref a0_3, .int a0_4, .int a0_5])), (a0_0, .inr (6, [.ref a0_0_0, .ref a0_0_1, .int a0_0_2, .int a0_0_3, .int a0_0_4, .int a0_0_5, .long a0_0_6, .int a0_0_7])), (a0_0_0, .inl (a0_0_0_c, 12, .inr (.inl a0_0_0_f))), (a0_0_1, .inl (a0_0_1_c, 1000, .inl a0_0_1_f))] sz)) 0 0 (va_A [(a0, .inr (4, [.ref a0_0, .ref a0_1, .ref a0_2, .ref a0_3, .int a0_4, .int a0_5])), (a0_0, .inr (6, [.ref a0_0_0, .ref a0_0_1, .int a0_0_2, .int a0_0_3, .int a0_0_4, .int a0_0_5, .long a0_0_6, .int a0_0_7])), (a0_0_0, .inl (a0_0_0_c, 12, .inr (.inl a0_0_0_f))), (a0_0_1, .inl (a0_0_1_c, 1000, .inl a0_0_1_f))] sz) := by
  refine Met.ofW (cc := cX5_pass) (maxL := 2) (ret := none) (by decide) rfl ?_
  intro p e s m args below meth c s₁ B hml hv
  obtain ⟨rfl, hsz, hP, hK, hD0, hE⟩ := hv
  have hx := B.exec
  have hb := B.bytes
  have hr := B.returns
  have hts0 := atoms_spec (ws := (.code yX5_pass cX5_pass 2 none :: TBL)) B.pre
  have hts := fun (w : Cond) (h : w ∈ TBL) => hts0 w (List.mem_cons_of_mem _ h)
  have hown : s.vm.findClass RX5 = some m.cls := findClass_of_methodNamed B.named
  have hlocks := B.notSynchronized
  have hN := hE.1
  subst hsz
  have hD := hD0.self (sz := s.heap.size)
  generalize hAe : va_A [(a0, .inr (4, [.ref a0_0, .ref a0_1, .ref a0_2, .ref a0_3, .int a0_4, .int a0_5])), (a0_0, .inr (6, [.ref a0_0_0, .ref a0_0_1, .int a0_0_2, .int a0_0_3, .int a0_0_4, .int a0_0_5, .long a0_0_6, .int a0_0_7])), (a0_0_0, .inl (a0_0_0_c, 12, .inr (.inl a0_0_0_f))), (a0_0_1, .inl (a0_0_1_c, 1000, .inl a0_0_1_f))] s.heap.size = A at hD hE ⊢
  have hA : ∀ q : Nat, s.heap.size ≤ q → A q := fun q h => by rw [← hAe]; exact Or.inr h
  have hS : va_S A s.heap s.heap [] := va_S.rf
  replace hP : va_P (dC, dI) vwCl [(a0, .inr (4, [.ref a0_0, .ref a0_1, .ref a0_2, .ref a0_3, .int a0_4, .int a0_5])), (a0_0, .inr (6, [.ref a0_0_0, .ref a0_0_1, .int a0_0_2, .int a0_0_3, .int a0_0_4, .int a0_0_5, .long a0_0_6, .int a0_0_7])), (a0_0_0, .inl (a0_0_0_c, 12, .inr (.inl a0_0_0_f))), (a0_0_1, .inl (a0_0_1_c, 1000, .inl a0_0_1_f))] s.heap := hP
  have hl := lv_entry ([.ref a0, .int a1]) (n := 2) (Nat.le_of_ble_eq_true rfl)
  rw [lg_entry_eq]
  generalize (lg_sl ([.ref a0, .int a1]) ++ List.replicate (2 - (lg_sl ([.ref a0, .int a1])).length) Slot.unset).toArray = ls at hl ⊢
  have hl : lv_has ls 2 [(0, .ref a0), (1, .int a1)] := hl
  have b_a1 := i32b a1
  have b_a0_5 := i32b a0_5
  have b_a0_0_4 := i32b a0_0_4
  have b_a0_0_7 := i32b a0_0_7
  refine lv_aload_n hx hb dX5_pass_0 rfl (lv_at hl 0 rfl) ?_
  refine lv_iload_n hx hb dX5_pass_1 rfl (lv_at hl 1 rfl) ?_
  have hPc := hP
  have hKc := hK
  have hDc := hD
  have hFc := freeW hDc hS hA
  refine va_calli (va_runV (As := [.int a1]) (rest := []) ⟨hx, hb, hml, hown, hts⟩ (k_X5_passes l dC dI g s.heap.size (a0) (a1) (a0_0) (a0_1) (a0_2) (a0_3) (a0_4) (a0_5) (a0_0_0) (a0_0_1) (a0_0_2) (a0_0_3) (a0_0_4) (a0_0_5) (a0_0_6) (a0_0_7) (a0_0_0_c) (a0_0_0_f) (a0_0_1_c) (a0_0_1_f) (by omega) (by omega) (by omega) (by omega)) (cwV 1 hts (gwV qw_101 qw_102 qw_103 qw_100 qw_99) rfl rfl rfl (by decide +kernel) ⟨Nat.le_of_ble_eq_true rfl, Nat.le_of_ble_eq_true rfl⟩) ⟨fun a U g9 mk q => ⟨q.1, q.2.1, q.2.2.1, va_K.moved (u := U) (U := U.calling g9 mk a) (Vm.Alike.refl U.vm) q.2.2.2.1, q.2.2.2.2.1, Ev.bl q.2.2.2.2.2⟩, va_recv hK hP (ci := 4) (q0 := 0) rfl rgL4_25bb07f, fun U hU hW => ⟨rfl, by rw [hU], atB hU hPc, va_K.moved hW.alike hKc, hDc.weaken (fun _ _ _ _ => trivial), hE.go hS hFc hU hW⟩⟩ rfl rfl hl.1 rfl (lv_room (Nat.le_of_ble_eq_true rfl)) dX5_pass_2 ⟨Nat.le_of_ble_eq_true rfl, Nat.le_of_ble_eq_true rfl⟩) hS (fun q _ h => hFc q h) hFc (fun r2 u1 t H1 locs ht hvm h_u1 hB hz1 hk1 hS => ?_)
  obtain ⟨za0_0_3_3, za0_0_4_4, za0_0_5_5, za0_0_6_6, za0_0_7_7, hF8, hF9, hF10, hP1, hK1, hD1⟩ := hB
  have hK1 := va_K.moved hvm.symm hK1
  have hJ9 := rgJ4_df87ba1 hP hD hk1 hFc (atH ht hP1) hD1
  clear hP hD hPc hKc hDc hFc hP1 hD1 hk1 hz1
  obtain ⟨hP, hD⟩ := hJ9
  clear hK1
  generalize H1 = H at hP hS ⊢
  refine W.widen (k := 0) (n := 0) (Nat.le_of_ble_eq_true rfl) (Nat.le_of_ble_eq_true rfl) ?_
  have h_r2 := congrArg Int32.toInt h_u1
  have hz_r2 : r2 = 0 ∨ r2 = 1 := h_u1 ▸ hF10
  have b_r2 := z01 hz_r2
  refine lv_if_ne (tgt := 20) hx hb dX5_pass_5 (by decide) (fun c5_11 => ?_) (fun c5_11 => ?_)
  · have c5_11 : ¬ (r2.toInt = 0) := mt (cv_eq rfl (by decide)).mpr c5_11
    refine W.widen (k := 0) (n := 0) (Nat.le_of_ble_eq_true rfl) (Nat.le_of_ble_eq_true rfl) ?_
    have hP9 := hP
    have hD9 := hD
    have hK9 := (rgK2_b4df2fa hK)
    have hf9_0 : (0 ≤ za0_0_3_3.toInt ∧ za0_0_3_3.toInt ≤ 1000) := by omega
    have hf9_1 : (0 ≤ za0_0_5_5.toInt ∧ za0_0_5_5.toInt ≤ 1000) := by omega
    have hf9_2 : (a0_5.toInt ≠ -1 → a0_5.toInt ≠ -1) := by omega
    exact W.vret hx hb hr (fun t ht hW => ⟨⟨(), rfl, trivial, a0_5, za0_0_3_3, za0_0_4_4, za0_0_5_5, za0_0_6_6, za0_0_7_7, hf9_0, hf9_1, hf9_2, atB ht hP9, va_K.moved hW.alike hK9, hD9⟩, hS.F ht⟩) hS.2.2 dX5_pass_20
  · have c5_11 : r2.toInt = 0 := (cv_eq rfl (by decide)).mp c5_11
    refine lv_aload_n hx hb dX5_pass_8 rfl (lv_at hl 0 rfl) ?_
    refine lv_iconst (v := 1) hx hb dX5_pass_9 (by decide) ?_
    refine lv_aload_n hx hb dX5_pass_10 rfl (lv_at hl 0 rfl) ?_
    refine va_get (D := (dC, dI)) (ci := 4) (v := .ref a0_0) (C := RX5) (T := TX5) (N := 6) hx hb hts inlX5 hown hK hP 0 rgL4_25bb07f rfl 0 (by decide) (hts (.fieldLink RX5 12 "ClosedUntil$TextReader" "tokens" "LClosedUntil$Tokens;") qw_98) (fun _ h9 => h9) rfl dX5_pass_11 ?_
    refine va_getN (D := (dC, dI)) (ci := 6) (v := .int za0_0_5_5) (C := RX7) (T := TX7) (N := 8) hx hb hts inlX7 hown hK hP 1 rgL4_60d974a rfl 5 (by decide) (va_Nw.use rfl (nf_3 hN)) (fun _ h9 => h9) rfl dX5_pass_14 ?_
    have qc1 : (1 : Int32).toInt = 1 := by decide
    have hPc := (rgP4_afa90ad hP)
    have hKc := (rgK2_b4df2fa hK)
    have hDc := (rgD4_a246c7e hD)
    have hFc := freeW hDc hS hA
    refine va_callv (va_runV (As := [.int 1, .int za0_0_5_5]) (rest := []) ⟨hx, hb, hml, hown, hts⟩ (k_X5_fail l dC dI g H.size (a0) (1) (za0_0_5_5) (a0_0) (a0_1) (a0_2) (a0_3) (a0_4) (a0_5) (by omega) (by omega) (by omega)) (cwV 2 hts (gwV qw_105 qw_106 qw_107 qw_100 qw_104) rfl rfl rfl (by decide +kernel) ⟨Nat.le_of_ble_eq_true rfl, Nat.le_of_ble_eq_true rfl⟩) ⟨fun a U g9 mk q => ⟨q.1, q.2.1, q.2.2.1, va_K.moved (u := U) (U := U.calling g9 mk a) (Vm.Alike.refl U.vm) q.2.2.2.1, q.2.2.2.2.1, Ev.bl q.2.2.2.2.2⟩, va_recv hK hP (ci := 4) (q0 := 0) rfl rgL4_25bb07f, fun U hU hW => ⟨rfl, by rw [hU], atB hU hPc, va_K.moved hW.alike hKc, hDc.weaken (fun _ _ _ _ => trivial), hE.go hS hFc hU hW⟩⟩ rfl rfl hl.1 rfl (lv_room (Nat.le_of_ble_eq_true rfl)) dX5_pass_17 ⟨Nat.le_of_ble_eq_true rfl, Nat.le_of_ble_eq_true rfl⟩) hS (fun q _ h => hFc q h) hFc (fun u12 t H1 locs ht hvm h_u12 hB hz1 hk1 hS => ?_)
    obtain ⟨za0_5_14, hF15, hP1, hK1, hD1⟩ := hB
    have hK1 := va_K.moved hvm.symm hK1
    have hJ9 := rgJ4_202d814 hP hD hk1 hFc (atH ht hP1) hD1
    clear hP hD hPc hKc hDc hFc hP1 hD1 hk1 hz1
    obtain ⟨hP, hD⟩ := hJ9
    clear hK1
    generalize H1 = H at hP hS ⊢
    refine W.widen (k := 0) (n := 0) (Nat.le_of_ble_eq_true rfl) (Nat.le_of_ble_eq_true rfl) ?_
    refine W.widen (k := 0) (n := 0) (Nat.le_of_ble_eq_true rfl) (Nat.le_of_ble_eq_true rfl) ?_
    have hP9 := hP
    have hD9 := hD
    have hK9 := (rgK2_b4df2fa hK)
    have hf9_0 : (0 ≤ za0_0_3_3.toInt ∧ za0_0_3_3.toInt ≤ 1000) := by omega
    have hf9_1 : (0 ≤ za0_0_5_5.toInt ∧ za0_0_5_5.toInt ≤ 1000) := by omega
    have hf9_2 : (a0_5.toInt ≠ -1 → za0_5_14.toInt ≠ -1) := by omega
    exact W.vret hx hb hr (fun t ht hW => ⟨⟨(), rfl, trivial, za0_5_14, za0_0_3_3, za0_0_4_4, za0_0_5_5, za0_0_6_6, za0_0_7_7, hf9_0, hf9_1, hf9_2, atB ht hP9, va_K.moved hW.alike hK9, hD9⟩, hS.F ht⟩) hS.2.2 dX5_pass_20
set_option maxHeartbeats 4000000 in
set_option maxRecDepth 100000 in
theorem k_X5_addName (l : Launch) (dC : Nat → ClassId) (dI : Nat → Nat → Nat) (g : Gv) (sz : Nat) (a0 : Nat) (a1 : Int64) (a2 : Int32) (a3 : Int32) (a0_0 : Nat) (a0_1 : Nat) (a0_2 : Nat) (a0_3 : Nat) (a0_4 : Int32) (a0_5 : Int32) (a0_1_c : ClassId) (a0_1_f : Nat → Int64) (a0_2_c : ClassId) (a0_2_f : Nat → Int32) (a0_3_c : ClassId) (a0_3_f : Nat → Int32) (h_a0_4 : 0 ≤ a0_4.toInt ∧ a0_4.toInt ≤ 36) (hno : NOk a0_2_f a0_3_f a0_4) (hkn : (a2.toInt = 0 → 0 ≤ a3.toInt ∧ a3.toInt < 8) ∧ (a2.toInt = 3 → 0 ≤ a3.toInt ∧ a3.toInt < 4)) : Met l yX5_addName (.code yX5_addName cX5_addName 5 none :: TBL) ({ frames := 0, cells := 0, slots := 0, locals := 0 }) (va_Pc [.ref a0, .long a1, .int a2, .int a3] (fun U => U.heap.size = sz ∧ va_P (dC, dI) vwCl [(a0, .inr (4, [.ref a0_0, .ref a0_1, .ref a0_2, .ref a0_3, .int a0_4, .int a0_5])), (a0_1, .inl (a0_1_c, 36, .inr (.inl a0_1_f))), (a0_2, .inl (a0_2_c, 36, .inl a0_2_f)), (a0_3, .inl (a0_3_c, 36, .inl a0_3_f))] U.heap ∧ va_K (dC, dI) vwCl [(a0_1_c, .long), (a0_2_c, .int), (a0_3_c, .int)] U ∧ va_D (fun _ => True) [(a0, .inr (4, [.ref a0_0, .ref a0_1, .ref a0_2, .ref a0_3, .int a0_4, .int a0_5])), (a0_1, .inl (a0_1_c, 36, .inr (.inl a0_1_f))), (a0_2, .inl (a0_2_c, 36, .inl a0_2_f)), (a0_3, .inl (a0_3_c, 36, .inl a0_3_f))] ∧ Ev g (va_A [(a0, .inr (4, [.ref a0_0, .ref a0_1, .ref a0_2, .ref a0_3, .int a0_4, .int a0_5])), (a0_1, .inl (a0_1_c, 36, .inr (.inl a0_1_f))), (a0_2, .inl (a0_2_c, 36, .inl a0_2_f)), (a0_3, .inl (a0_3_c, 36, .inl a0_3_f))] sz) U)) (va_Qv (fun (_ : Unit) => True) (fun (_ : Unit) (t : State) => ∃ (za0_4 : Int32) (za0_1_f : Nat → Int64) (za0_2_f : Nat → Int32) (za0_3_f : Nat → Int32), (0 ≤ za0_4.toInt ∧ za0_4.toInt ≤ 36) ∧ (NOk za0_2_f za0_3_f za0_4) ∧ va_P (dC, dI) vwCl [(a0, .inr (4, [.ref a0_0, .ref a0_1, .ref a0_2, .ref a0_3, .int za0_4, .int a0_5])), (a0_1, .inl (a0_1_c, 36, .inr (.inl za0_1_f))), (a0_2, .inl (a0_2_c, 36, .inl za0_2_f)), (a0_3, .inl (a0_3_c, 36, .inl za0_3_f))] t.heap ∧ va_K (dC, dI) vwCl [] t ∧ va_D (va_A [(a0, .inr (4, [.ref a0_0, .ref a0_1, .ref a0_2, .ref a0_3, .int a0_4, .int a0_5])), (a0_1, .inl (a0_1_c, 36, .inr (.inl a0_1_f))), (a0_2, .inl (a0_2_c, 36, .inl a0_2_f)), (a0_3, .inl (a0_3_c, 36, .inl a0_3_f))] sz) [(a0, .inr (4, [.ref a0_0, .ref a0_1, .ref a0_2, .ref a0_3, .int za0_4, .int a0_5])), (a0_1, .inl (a0_1_c, 36, .inr (.inl za0_1_f))), (a0_2, .inl (a0_2_c, 36, .inl za0_2_f)), (a0_3, .inl (a0_3_c, 36, .inl za0_3_f))]) (va_A [(a0, .inr (4, [.ref a0_0, .ref a0_1, .ref a0_2, .ref a0_3, .int a0_4, .int a0_5])), (a0_1, .inl (a0_1_c, 36, .inr (.inl a0_1_f))), (a0_2, .inl (a0_2_c, 36, .inl a0_2_f)), (a0_3, .inl (a0_3_c, 36, .inl a0_3_f))] sz)) 0 0 (va_A [(a0, .inr (4, [.ref a0_0, .ref a0_1, .ref a0_2, .ref a0_3, .int a0_4, .int a0_5])), (a0_1, .inl (a0_1_c, 36, .inr (.inl a0_1_f))), (a0_2, .inl (a0_2_c, 36, .inl a0_2_f)), (a0_3, .inl (a0_3_c, 36, .inl a0_3_f))] sz) := by
  refine Met.ofW (cc := cX5_addName) (maxL := 5) (ret := none) (by decide) rfl ?_
  intro p e s m args below meth c s₁ B hml hv
  obtain ⟨rfl, hsz, hP, hK, hD0, hE⟩ := hv
  have hx := B.exec
  have hb := B.bytes
  have hr := B.returns
  have hts0 := atoms_spec (ws := (.code yX5_addName cX5_addName 5 none :: TBL)) B.pre
  have hts := fun (w : Cond) (h : w ∈ TBL) => hts0 w (List.mem_cons_of_mem _ h)
  have hown : s.vm.findClass RX5 = some m.cls := findClass_of_methodNamed B.named
  have hlocks := B.notSynchronized
  have hN := hE.1
  subst hsz
  have hD := hD0.self (sz := s.heap.size)
  generalize hAe : va_A [(a0, .inr (4, [.ref a0_0, .ref a0_1, .ref a0_2, .ref a0_3, .int a0_4, .int a0_5])), (a0_1, .inl (a0_1_c, 36, .inr (.inl a0_1_f))), (a0_2, .inl (a0_2_c, 36, .inl a0_2_f)), (a0_3, .inl (a0_3_c, 36, .inl a0_3_f))] s.heap.size = A at hD hE ⊢
  have hA : ∀ q : Nat, s.heap.size ≤ q → A q := fun q h => by rw [← hAe]; exact Or.inr h
  have hS : va_S A s.heap s.heap [] := va_S.rf
  replace hP : va_P (dC, dI) vwCl [(a0, .inr (4, [.ref a0_0, .ref a0_1, .ref a0_2, .ref a0_3, .int a0_4, .int a0_5])), (a0_1, .inl (a0_1_c, 36, .inr (.inl a0_1_f))), (a0_2, .inl (a0_2_c, 36, .inl a0_2_f)), (a0_3, .inl (a0_3_c, 36, .inl a0_3_f))] s.heap := hP
  have hl := lv_entry ([.ref a0, .long a1, .int a2, .int a3]) (n := 5) (Nat.le_of_ble_eq_true rfl)
  rw [lg_entry_eq]
  generalize (lg_sl ([.ref a0, .long a1, .int a2, .int a3]) ++ List.replicate (5 - (lg_sl ([.ref a0, .long a1, .int a2, .int a3])).length) Slot.unset).toArray = ls at hl ⊢
  have hl : lv_has ls 5 [(0, .ref a0), (1, .long a1), (3, .int a2), (4, .int a3)] := hl
  have b_a2 := i32b a2
  have b_a3 := i32b a3
  have b_a0_5 := i32b a0_5
  refine lv_aload_n hx hb dX5_addName_0 rfl (lv_at hl 0 rfl) ?_
  refine va_get (D := (dC, dI)) (ci := 4) (v := .int a0_4) (C := RX5) (T := TX5) (N := 6) hx hb hts inlX5 hown hK hP 0 rgL4_25bb07f rfl 4 (by decide) (hts (.fieldLink RX5 37 "ClosedUntil$TextReader" "nameCount" "I") qw_108) (fun _ h9 => h9) rfl dX5_addName_1 ?_
  refine lv_bipush (v := 36) hx hb dX5_addName_4 (by decide) ?_
  refine lv_icmp_lt (tgt := 10) hx hb dX5_addName_6 (by decide) (fun c6_1 => ?_) (fun c6_1 => ?_)
  · have c6_1 : a0_4.toInt < 36 := (cv_lt rfl (by decide)).mp c6_1
    refine lv_aload_n hx hb dX5_addName_10 rfl (lv_at hl 0 rfl) ?_
    refine va_get (D := (dC, dI)) (ci := 4) (v := .ref a0_1) (C := RX5) (T := TX5) (N := 6) hx hb hts inlX5 hown hK hP 0 rgL4_25bb07f rfl 1 (by decide) (hts (.fieldLink RX5 18 "ClosedUntil$TextReader" "names" "[J") qw_109) (fun _ h9 => h9) rfl dX5_addName_11 ?_
    refine lv_aload_n hx hb dX5_addName_14 rfl (lv_at hl 0 rfl) ?_
    refine va_get (D := (dC, dI)) (ci := 4) (v := .int a0_4) (C := RX5) (T := TX5) (N := 6) hx hb hts inlX5 hown hK hP 0 rgL4_25bb07f rfl 4 (by decide) (hts (.fieldLink RX5 37 "ClosedUntil$TextReader" "nameCount" "I") qw_108) (fun _ h9 => h9) rfl dX5_addName_15 ?_
    refine lv_lload_n hx hb dX5_addName_18 rfl (lv_at hl 1 rfl) ?_
    refine va_last hx hb hK hP hD hS 1 0 rgL4_60d974a rgT3_b86a1dc (vinI (by omega) (by omega)) dX5_addName_19 (fun H locs hP9 hD9 hS9 => ?_)
    obtain ⟨y2, e_y2⟩ : ∃ y, (vp_updL a0_1_f a0_4.toNatClampNeg a1) = y := ⟨_, rfl⟩
    clear hP hD hS
    obtain ⟨hP, hD⟩ := rgS4_7eaf579 (e := (a0_1, .inl (a0_1_c, 36, .inr (.inl y2)))) hP9 hD9 (congrArg (fun z9 => (((a0_1, .inl (a0_1_c, 36, .inr (.inl z9))) : Nat × va_E))) e_y2)
    have hS := hS9; clear hP9 hD9 hS9
    refine lv_aload_n hx hb dX5_addName_20 rfl (lv_at hl 0 rfl) ?_
    refine va_get (D := (dC, dI)) (ci := 4) (v := .ref a0_2) (C := RX5) (T := TX5) (N := 6) hx hb hts inlX5 hown hK hP 0 rgL4_25bb07f rfl 2 (by decide) (hts (.fieldLink RX5 22 "ClosedUntil$TextReader" "nameKinds" "[I") qw_110) (fun _ h9 => h9) rfl dX5_addName_21 ?_
    refine lv_aload_n hx hb dX5_addName_24 rfl (lv_at hl 0 rfl) ?_
    refine va_get (D := (dC, dI)) (ci := 4) (v := .int a0_4) (C := RX5) (T := TX5) (N := 6) hx hb hts inlX5 hown hK hP 0 rgL4_25bb07f rfl 4 (by decide) (hts (.fieldLink RX5 37 "ClosedUntil$TextReader" "nameCount" "I") qw_108) (fun _ h9 => h9) rfl dX5_addName_25 ?_
    refine lv_iload_n hx hb dX5_addName_28 rfl (lv_at hl 2 rfl) ?_
    refine va_iast hx hb hK hP hD hS 2 1 rgL4_682b397 rgT3_9bdde83 (vinI (by omega) (by omega)) dX5_addName_29 (fun H locs hP9 hD9 hS9 => ?_)
    obtain ⟨y3, e_y3⟩ : ∃ y, (upd a0_2_f a0_4.toNatClampNeg a2) = y := ⟨_, rfl⟩
    clear hP hD hS
    obtain ⟨hP, hD⟩ := rgS4_558cc52 (e := (a0_2, .inl (a0_2_c, 36, .inl y3))) hP9 hD9 (congrArg (fun z9 => (((a0_2, .inl (a0_2_c, 36, .inl z9)) : Nat × va_E))) e_y3)
    have hS := hS9; clear hP9 hD9 hS9
    refine lv_aload_n hx hb dX5_addName_30 rfl (lv_at hl 0 rfl) ?_
    refine va_get (D := (dC, dI)) (ci := 4) (v := .ref a0_3) (C := RX5) (T := TX5) (N := 6) hx hb hts inlX5 hown hK hP 0 rgL4_25bb07f rfl 3 (by decide) (hts (.fieldLink RX5 26 "ClosedUntil$TextReader" "nameNumbers" "[I") qw_111) (fun _ h9 => h9) rfl dX5_addName_31 ?_
    refine lv_aload_n hx hb dX5_addName_34 rfl (lv_at hl 0 rfl) ?_
    refine va_get (D := (dC, dI)) (ci := 4) (v := .int a0_4) (C := RX5) (T := TX5) (N := 6) hx hb hts inlX5 hown hK hP 0 rgL4_25bb07f rfl 4 (by decide) (hts (.fieldLink RX5 37 "ClosedUntil$TextReader" "nameCount" "I") qw_108) (fun _ h9 => h9) rfl dX5_addName_35 ?_
    refine lv_iload hx hb dX5_addName_38 (lv_at hl 3 rfl) ?_
    refine va_iast hx hb hK hP hD hS 3 2 rgL4_582d62e rgT3_173f9f1 (vinI (by omega) (by omega)) dX5_addName_40 (fun H locs hP9 hD9 hS9 => ?_)
    obtain ⟨y4, e_y4⟩ : ∃ y, (upd a0_3_f a0_4.toNatClampNeg a3) = y := ⟨_, rfl⟩
    clear hP hD hS
    obtain ⟨hP, hD⟩ := rgS4_c467359 (e := (a0_3, .inl (a0_3_c, 36, .inl y4))) hP9 hD9 (congrArg (fun z9 => (((a0_3, .inl (a0_3_c, 36, .inl z9)) : Nat × va_E))) e_y4)
    have hS := hS9; clear hP9 hD9 hS9
    refine lv_aload_n hx hb dX5_addName_41 rfl (lv_at hl 0 rfl) ?_
    refine lv_dup hx hb dX5_addName_42 rfl ?_
    refine va_get (D := (dC, dI)) (ci := 4) (v := .int a0_4) (C := RX5) (T := TX5) (N := 6) hx hb hts inlX5 hown hK hP 0 rgL4_25bb07f rfl 4 (by decide) (hts (.fieldLink RX5 37 "ClosedUntil$TextReader" "nameCount" "I") qw_108) (fun _ h9 => h9) rfl dX5_addName_43 ?_
    refine lv_iconst (v := 1) hx hb dX5_addName_46 (by decide) ?_
    refine lv_iadd hx hb dX5_addName_47 ?_
    refine lv_topi (fun x5 e_x5 => ?_)
    try have e_x5 := ti_add e_x5 rfl (show (1 : Int32).toInt = 1 by decide) (by omega)
    refine va_put (D := (dC, dI)) (ci := 4) (v := .int x5) (ty := .int) (C := RX5) (T := TX5) (N := 6) hx hb hts inlX5 tyX5 tyX5_ok nmX5 hown hK hP hD hS 0 rgL4_25bb07f rfl 4 (by decide) (hts (.fieldLink RX5 37 "ClosedUntil$TextReader" "nameCount" "I") qw_108) (fun _ h9 => h9) rfl (by decide +kernel) rfl rfl (Nat.le_of_ble_eq_true rfl) dX5_addName_48 (fun H locs hP9 hD9 hS9 => ?_)
    clear hP hD hS
    obtain ⟨hP, hD⟩ := rgS4_3ebc7b6 (e := (a0, .inr (4, [.ref a0_0, .ref a0_1, .ref a0_2, .ref a0_3, .int x5, .int a0_5]))) hP9 hD9 rfl
    have hS := hS9; clear hP9 hD9 hS9
    refine W.widen (k := 0) (n := 0) (Nat.le_of_ble_eq_true rfl) (Nat.le_of_ble_eq_true rfl) ?_
    have hP9 := hP
    have hD9 := hD
    have hK9 := (rgK3_e7c053f hK)
    have hf9_0 : (0 ≤ x5.toInt ∧ x5.toInt ≤ 36) := by omega
    have hf9_1 : (NOk y3 y4 x5) := NOk.grow hno e_y3 e_y4 rfl (by omega) (by omega) (by omega)
    exact W.vret hx hb hr (fun t ht hW => ⟨⟨(), rfl, trivial, x5, y2, y3, y4, hf9_0, hf9_1, atB ht hP9, va_K.moved hW.alike hK9, hD9⟩, hS.F ht⟩) hS.2.2 dX5_addName_51
  · have c6_1 : ¬ (a0_4.toInt < 36) := mt (cv_lt rfl (by decide)).mpr c6_1
    refine W.widen (k := 0) (n := 0) (Nat.le_of_ble_eq_true rfl) (Nat.le_of_ble_eq_true rfl) ?_
    have hP9 := hP
    have hD9 := hD
    have hK9 := (rgK3_e7c053f hK)
    have hf9_0 : (0 ≤ a0_4.toInt ∧ a0_4.toInt ≤ 36) := by omega
    have hf9_1 : (NOk a0_2_f a0_3_f a0_4) := hno
    exact W.vret hx hb hr (fun t ht hW => ⟨⟨(), rfl, trivial, a0_4, a0_1_f, a0_2_f, a0_3_f, hf9_0, hf9_1, atB ht hP9, va_K.moved hW.alike hK9, hD9⟩, hS.F ht⟩) hS.2.2 dX5_addName_9
set_option maxHeartbeats 4000000 in
set_option maxRecDepth 100000 in
theorem k_X5_slotOf (l : Launch) (dC : Nat → ClassId) (dI : Nat → Nat → Nat) (g : Gv) (a0 : Nat) (a1 : Int64) (a0_0 : Nat) (a0_1 : Nat) (a0_2 : Nat) (a0_3 : Nat) (a0_4 : Int32) (a0_5 : Int32) (a0_1_c : ClassId) (a0_1_f : Nat → Int64) (h_a0_4 : 0 ≤ a0_4.toInt ∧ a0_4.toInt ≤ 36) : Met l yX5_slotOf (.code yX5_slotOf cX5_slotOf 4 (some .int) :: TBL) ({ frames := 0, cells := 0, slots := 0, locals := 0 }) (va_Pc [.ref a0, .long a1] (fun U => va_P (dC, dI) vwCl [(a0, .inr (4, [.ref a0_0, .ref a0_1, .ref a0_2, .ref a0_3, .int a0_4, .int a0_5])), (a0_1, .inl (a0_1_c, 36, .inr (.inl a0_1_f)))] U.heap ∧ va_K (dC, dI) vwCl [(a0_1_c, .long)] U ∧ Ev g (fun _ => False) U)) (vp_Si (fun (r : Int32) => (-1 ≤ r.toInt ∧ r.toInt < a0_4.toInt ∧ r.toInt < 36))) 0 0 (fun _ => False) := by
  refine Met.ofW (cc := cX5_slotOf) (maxL := 4) (ret := (some .int)) (by decide) rfl ?_
  intro p e s m args below meth c s₁ B hml hv
  obtain ⟨rfl, hP, hK, hE⟩ := hv
  have hx := B.exec
  have hb := B.bytes
  have hr := B.returns
  have hts0 := atoms_spec (ws := (.code yX5_slotOf cX5_slotOf 4 (some .int) :: TBL)) B.pre
  have hts := fun (w : Cond) (h : w ∈ TBL) => hts0 w (List.mem_cons_of_mem _ h)
  have hown : s.vm.findClass RX5 = some m.cls := findClass_of_methodNamed B.named
  have hlocks := B.notSynchronized
  have hN := hE.1
  have hS : va_S (fun _ => False) s.heap s.heap [] := va_S.rf
  replace hP : va_P (dC, dI) vwCl [(a0, .inr (4, [.ref a0_0, .ref a0_1, .ref a0_2, .ref a0_3, .int a0_4, .int a0_5])), (a0_1, .inl (a0_1_c, 36, .inr (.inl a0_1_f)))] s.heap := hP
  have hl := lv_entry ([.ref a0, .long a1]) (n := 4) (Nat.le_of_ble_eq_true rfl)
  rw [lg_entry_eq]
  generalize (lg_sl ([.ref a0, .long a1]) ++ List.replicate (4 - (lg_sl ([.ref a0, .long a1])).length) Slot.unset).toArray = ls at hl ⊢
  have hl : lv_has ls 4 [(0, .ref a0), (1, .long a1)] := hl
  have b_a0_5 := i32b a0_5
  refine lv_iconst (v := 0) hx hb dX5_slotOf_0 (by decide) ?_
  refine lv_istore_n (lv' := [(3, .int 0), (0, .ref a0), (1, .long a1)]) hx hb dX5_slotOf_1 rfl hl (by decide) rfl (fun ls hl => ?_)
  have qc0 : (0 : Int32).toInt = 0 := by decide
  refine wloop (fun n H locs ls => ∃ (l2_3 : Int32), n = (2147483647 - l2_3.toInt).toNat ∧ (0 ≤ l2_3.toInt) ∧ lv_has ls 4 [(3, .int l2_3), (0, .ref a0), (1, .long a1)] ∧ H = s.heap ∧ locs = []) ?_ ((2147483647 - (0 : Int32).toInt).toNat) _ _ _ ⟨0, rfl, (by omega), lv_sub hl [0, 1, 2] rfl, rfl, rfl⟩
  intro n2 H locs ls hI ih2
  obtain ⟨l2_3, hn2, g_l2_3, hl, rfl, rfl⟩ := hI
  have b_l2_3 := i32b l2_3
  refine lv_iload_n hx hb dX5_slotOf_2 rfl (lv_at hl 0 rfl) ?_
  refine lv_aload_n hx hb dX5_slotOf_3 rfl (lv_at hl 1 rfl) ?_
  refine va_get (D := (dC, dI)) (ci := 4) (v := .int a0_4) (C := RX5) (T := TX5) (N := 6) hx hb hts inlX5 hown hK hP 0 rgL2_5ac5f51 rfl 4 (by decide) (hts (.fieldLink RX5 37 "ClosedUntil$TextReader" "nameCount" "I") qw_108) (fun _ h9 => h9) rfl dX5_slotOf_4 ?_
  refine lv_icmp_ge (tgt := 29) hx hb dX5_slotOf_7 (by decide) (fun c7_1 => ?_) (fun c7_1 => ?_)
  · have c7_1 : a0_4.toInt ≤ l2_3.toInt := (cv_le rfl rfl).mp c7_1
    refine lv_iconst (v := (-1)) hx hb dX5_slotOf_29 (by decide) ?_
    exact W.iret (v := (-1)) hx hb hr (fun t ht hW => ⟨(-1), rfl, (by have q := (show ((-1) : Int32).toInt = (-1) by decide); omega), ht⟩) (fun _ h => absurd h List.not_mem_nil) dX5_slotOf_30
  · have c7_1 : ¬ (a0_4.toInt ≤ l2_3.toInt) := mt (cv_le rfl rfl).mpr c7_1
    refine lv_aload_n hx hb dX5_slotOf_10 rfl (lv_at hl 1 rfl) ?_
    refine va_get (D := (dC, dI)) (ci := 4) (v := .ref a0_1) (C := RX5) (T := TX5) (N := 6) hx hb hts inlX5 hown hK hP 0 rgL2_5ac5f51 rfl 1 (by decide) (hts (.fieldLink RX5 18 "ClosedUntil$TextReader" "names" "[J") qw_109) (fun _ h9 => h9) rfl dX5_slotOf_11 ?_
    refine lv_iload_n hx hb dX5_slotOf_14 rfl (lv_at hl 0 rfl) ?_
    refine va_lald hx hb hK hP 1 0 rgL2_906ef0f rgT1_bb00d73 (vinI (by omega) (by omega)) dX5_slotOf_15 ?_
    refine lv_topl (fun x2 e_x2 => ?_)
    refine lv_lload_n hx hb dX5_slotOf_16 rfl (lv_at hl 2 rfl) ?_
    refine W.lcmp hx hb dX5_slotOf_17 ?_
    refine lv_topi (fun x3 e_x3 => ?_)
    refine lv_if_ne (tgt := 23) hx hb dX5_slotOf_18 (by decide) (fun c18_4 => ?_) (fun c18_4 => ?_)
    · have c18_4 : ¬ (x3.toInt = 0) := mt (cv_eq rfl (by decide)).mpr c18_4
      obtain ⟨x5, e_x5⟩ : ∃ y : Int32, y = l2_3 + 1 := ⟨_, rfl⟩
      refine lv_iinc (v := x5) (lv' := [(3, .int x5), (0, .ref a0), (1, .long a1)]) hx hb dX5_slotOf_23 hl (k := 0) rfl (by rw [e_x5]; rfl) (by decide) rfl (fun ls hl => ?_)
      try have e_x5 := ti_add e_x5 rfl (show (1 : Int32).toInt = 1 by decide) (by omega)
      refine lv_goto (tgt := 2) hx hb dX5_slotOf_26 (by decide) ?_
      exact ih2 ((2147483647 - x5.toInt).toNat) _ _ _ (by omega) ⟨x5, rfl, (by omega), lv_sub hl [0, 1, 2] rfl, rfl, rfl⟩
    · have c18_4 : x3.toInt = 0 := (cv_eq rfl (by decide)).mp c18_4
      refine lv_iload_n hx hb dX5_slotOf_21 rfl (lv_at hl 0 rfl) ?_
      exact W.iret (v := l2_3) hx hb hr (fun t ht hW => ⟨l2_3, rfl, (by omega), ht⟩) (fun _ h => absurd h List.not_mem_nil) dX5_slotOf_22
set_option maxHeartbeats 4000000 in
set_option maxRecDepth 100000 in
theorem k_X5_readName (l : Launch) (dC : Nat → ClassId) (dI : Nat → Nat → Nat) (g : Gv) (sz : Nat) (a0 : Nat) (a1 : Int32) (a0_0 : Nat) (a0_1 : Nat) (a0_2 : Nat) (a0_3 : Nat) (a0_4 : Int32) (a0_5 : Int32) (a0_0_0 : Nat) (a0_0_1 : Nat) (a0_0_2 : Int32) (a0_0_3 : Int32) (a0_0_4 : Int32) (a0_0_5 : Int32) (a0_0_6 : Int64) (a0_0_7 : Int32) (a0_0_0_c : ClassId) (a0_0_0_f : Nat → Int64) (a0_0_1_c : ClassId) (a0_0_1_f : Nat → Int32) (a0_1_c : ClassId) (a0_1_f : Nat → Int64) (a0_2_c : ClassId) (a0_2_f : Nat → Int32) (a0_3_c : ClassId) (a0_3_f : Nat → Int32) (h_a0_4 : 0 ≤ a0_4.toInt ∧ a0_4.toInt ≤ 36) (h_a0_0_2 : 0 ≤ a0_0_2.toInt ∧ a0_0_2.toInt ≤ 1000) (h_a0_0_3 : 0 ≤ a0_0_3.toInt ∧ a0_0_3.toInt ≤ 1000) (h_a0_0_5 : 0 ≤ a0_0_5.toInt ∧ a0_0_5.toInt ≤ 1000) (hno : NOk a0_2_f a0_3_f a0_4) : Met l yX5_readName (.code yX5_readName cX5_readName 4 (some .int) :: TBL) ({ frames := 3, cells := 0, slots := 0, locals := 63 }) (va_Pc [.ref a0, .int a1] (fun U => U.heap.size = sz ∧ va_P (dC, dI) vwCl [(a0, .inr (4, [.ref a0_0, .ref a0_1, .ref a0_2, .ref a0_3, .int a0_4, .int a0_5])), (a0_0, .inr (6, [.ref a0_0_0, .ref a0_0_1, .int a0_0_2, .int a0_0_3, .int a0_0_4, .int a0_0_5, .long a0_0_6, .int a0_0_7])), (a0_0_0, .inl (a0_0_0_c, 12, .inr (.inl a0_0_0_f))), (a0_0_1, .inl (a0_0_1_c, 1000, .inl a0_0_1_f)), (a0_1, .inl (a0_1_c, 36, .inr (.inl a0_1_f))), (a0_2, .inl (a0_2_c, 36, .inl a0_2_f)), (a0_3, .inl (a0_3_c, 36, .inl a0_3_f))] U.heap ∧ va_K (dC, dI) vwCl [(a0_0_0_c, .long), (a0_0_1_c, .byte), (a0_1_c, .long), (a0_2_c, .int), (a0_3_c, .int)] U ∧ va_D (fun _ => True) [(a0, .inr (4, [.ref a0_0, .ref a0_1, .ref a0_2, .ref a0_3, .int a0_4, .int a0_5])), (a0_0, .inr (6, [.ref a0_0_0, .ref a0_0_1, .int a0_0_2, .int a0_0_3, .int a0_0_4, .int a0_0_5, .long a0_0_6, .int a0_0_7])), (a0_0_0, .inl (a0_0_0_c, 12, .inr (.inl a0_0_0_f))), (a0_0_1, .inl (a0_0_1_c, 1000, .inl a0_0_1_f)), (a0_1, .inl (a0_1_c, 36, .inr (.inl a0_1_f))), (a0_2, .inl (a0_2_c, 36, .inl a0_2_f)), (a0_3, .inl (a0_3_c, 36, .inl a0_3_f))] ∧ Ev g (va_A [(a0, .inr (4, [.ref a0_0, .ref a0_1, .ref a0_2, .ref a0_3, .int a0_4, .int a0_5])), (a0_0, .inr (6, [.ref a0_0_0, .ref a0_0_1, .int a0_0_2, .int a0_0_3, .int a0_0_4, .int a0_0_5, .long a0_0_6, .int a0_0_7])), (a0_0_0, .inl (a0_0_0_c, 12, .inr (.inl a0_0_0_f))), (a0_0_1, .inl (a0_0_1_c, 1000, .inl a0_0_1_f)), (a0_1, .inl (a0_1_c, 36, .inr (.inl a0_1_f))), (a0_2, .inl (a0_2_c, 36, .inl a0_2_f)), (a0_3, .inl (a0_3_c, 36, .inl a0_3_f))] sz) U)) (va_Qi (fun (r : Int32) (u : Int32) => u = r) (fun (u : Int32) (t : State) => ∃ (za0_5 : Int32) (za0_0_3 : Int32) (za0_0_4 : Int32) (za0_0_5 : Int32) (za0_0_6 : Int64) (za0_0_7 : Int32), (0 ≤ za0_0_3.toInt ∧ za0_0_3.toInt ≤ 1000) ∧ (0 ≤ za0_0_5.toInt ∧ za0_0_5.toInt ≤ 1000) ∧ (a0_5.toInt ≠ -1 → za0_5.toInt ≠ -1) ∧ (za0_5.toInt ≠ -1 ∨ ((a1.toInt = 0 → 0 ≤ u.toInt ∧ u.toInt < 8) ∧ (a1.toInt = 3 → 0 ≤ u.toInt ∧ u.toInt < 4))) ∧ va_P (dC, dI) vwCl [(a0, .inr (4, [.ref a0_0, .ref a0_1, .ref a0_2, .ref a0_3, .int a0_4, .int za0_5])), (a0_0, .inr (6, [.ref a0_0_0, .ref a0_0_1, .int a0_0_2, .int za0_0_3, .int za0_0_4, .int za0_0_5, .long za0_0_6, .int za0_0_7])), (a0_0_0, .inl (a0_0_0_c, 12, .inr (.inl a0_0_0_f))), (a0_0_1, .inl (a0_0_1_c, 1000, .inl a0_0_1_f)), (a0_1, .inl (a0_1_c, 36, .inr (.inl a0_1_f))), (a0_2, .inl (a0_2_c, 36, .inl a0_2_f)), (a0_3, .inl (a0_3_c, 36, .inl a0_3_f))] t.heap ∧ va_K (dC, dI) vwCl [] t ∧ va_D (va_A [(a0, .inr (4, [.ref a0_0, .ref a0_1, .ref a0_2, .ref a0_3, .int a0_4, .int a0_5])), (a0_0, .inr (6, [.ref a0_0_0, .ref a0_0_1, .int a0_0_2, .int a0_0_3, .int a0_0_4, .int a0_0_5, .long a0_0_6, .int a0_0_7])), (a0_0_0, .inl (a0_0_0_c, 12, .inr (.inl a0_0_0_f))), (a0_0_1, .inl (a0_0_1_c, 1000, .inl a0_0_1_f)), (a0_1, .inl (a0_1_c, 36, .inr (.inl a0_1_f))), (a0_2, .inl (a0_2_c, 36, .inl a0_2_f)), (a0_3, .inl (a0_3_c, 36, .inl a0_3_f))] sz) [(a0, .inr (4, [.ref a0_0, .ref a0_1, .ref a0_2, .ref a0_3, .int a0_4, .int za0_5])), (a0_0, .inr (6, [.ref a0_0_0, .ref a0_0_1, .int a0_0_2, .int za0_0_3, .int za0_0_4, .int za0_0_5, .long za0_0_6, .int za0_0_7])), (a0_0_0, .inl (a0_0_0_c, 12, .inr (.inl a0_0_0_f))), (a0_0_1, .inl (a0_0_1_c, 1000, .inl a0_0_1_f)), (a0_1, .inl (a0_1_c, 36, .inr (.inl a0_1_f))), (a0_2, .inl (a0_2_c, 36, .inl a0_2_f)), (a0_3, .inl (a0_3_c, 36, .inl a0_3_f))]) (va_A [(a0, .inr (4, [.ref a0_0, .ref a0_1, .ref a0_2, .ref a0_3, .int a0_4, .int a0_5])), (a0_0, .inr (6, [.ref a0_0_0, .ref a0_0_1, .int a0_0_2, .int a0_0_3, .int a0_0_4, .int a0_0_5, .long a0_0_6, .int a0_0_7])), (a0_0_0, .inl (a0_0_0_c, 12, .inr (.inl a0_0_0_f))), (a0_0_1, .inl (a0_0_1_c, 1000, .inl a0_0_1_f)), (a0_1, .inl (a0_1_c, 36, .inr (.inl a0_1_f))), (a0_2, .inl (a0_2_c, 36, .inl a0_2_f)), (a0_3, .inl (a0_3_c, 36, .inl a0_3_f))] sz)) 0 0 (va_A [(a0, .inr (4, [.ref a0_0, .ref a0_1, .ref a0_2, .ref a0_3, .int a0_4, .int a0_5])), (a0_0, .inr (6, [.ref a0_0_0, .ref a0_0_1, .int a0_0_2, .int a0_0_3, .int a0_0_4, .int a0_0_5, .long a0_0_6, .int a0_0_7])), (a0_0_0, .inl (a0_0_0_c, 12, .inr (.inl a0_0_0_f))), (a0_0_1, .inl (a0_0_1_c, 1000, .inl a0_0_1_f)), (a0_1, .inl (a0_1_c, 36, .inr (.inl a0_1_f))), (a0_2, .inl (a0_2_c, 36, .inl a0_2_f)), (a0_3, .inl (a0_3_c, 36, .inl a0_3_f))] sz) := by
  refine Met.ofW (cc := cX5_readName) (maxL := 4) (ret := (some .int)) (by decide) rfl ?_
  intro p e s m args below meth c s₁ B hml hv
  obtain ⟨rfl, hsz, hP, hK, hD0, hE⟩ := hv
  have hx := B.exec
  have hb := B.bytes
  have hr := B.returns
  have hts0 := atoms_spec (ws := (.code yX5_readName cX5_readName 4 (some .int) :: TBL)) B.pre
  have hts := fun (w : Cond) (h : w ∈ TBL) => hts0 w (List.mem_cons_of_mem _ h)
  have hown : s.vm.findClass RX5 = some m.cls := findClass_of_methodNamed B.named
  have hlocks := B.notSynchronized
  have hN := hE.1
  subst hsz
  have hD := hD0.self (sz := s.heap.size)
  generalize hAe : va_A [(a0, .inr (4, [.ref a0_0, .ref a0_1, .ref a0_2, .ref a0_3, .int a0_4, .int a0_5])), (a0_0, .inr (6, [.ref a0_0_0, .ref a0_0_1, .int a0_0_2, .int a0_0_3, .int a0_0_4, .int a0_0_5, .long a0_0_6, .int a0_0_7])), (a0_0_0, .inl (a0_0_0_c, 12, .inr (.inl a0_0_0_f))), (a0_0_1, .inl (a0_0_1_c, 1000, .inl a0_0_1_f)), (a0_1, .inl (a0_1_c, 36, .inr (.inl a0_1_f))), (a0_2, .inl (a0_2_c, 36, .inl a0_2_f)), (a0_3, .inl (a0_3_c, 36, .inl a0_3_f))] s.heap.size = A at hD hE ⊢
  have hA : ∀ q : Nat, s.heap.size ≤ q → A q := fun q h => by rw [← hAe]; exact Or.inr h
  have hS : va_S A s.heap s.heap [] := va_S.rf
  replace hP : va_P (dC, dI) vwCl [(a0, .inr (4, [.ref a0_0, .ref a0_1, .ref a0_2, .ref a0_3, .int a0_4, .int a0_5])), (a0_0, .inr (6, [.ref a0_0_0, .ref a0_0_1, .int a0_0_2, .int a0_0_3, .int a0_0_4, .int a0_0_5, .long a0_0_6, .int a0_0_7])), (a0_0_0, .inl (a0_0_0_c, 12, .inr (.inl a0_0_0_f))), (a0_0_1, .inl (a0_0_1_c, 1000, .inl a0_0_1_f)), (a0_1, .inl (a0_1_c, 36, .inr (.inl a0_1_f))), (a0_2, .inl (a0_2_c, 36, .inl a0_2_f)), (a0_3, .inl (a0_3_c, 36, .inl a0_3_f))] s.heap := hP
  have hl := lv_entry ([.ref a0, .int a1]) (n := 4) (Nat.le_of_ble_eq_true rfl)
  rw [lg_entry_eq]
  generalize (lg_sl ([.ref a0, .int a1]) ++ List.replicate (4 - (lg_sl ([.ref a0, .int a1])).length) Slot.unset).toArray = ls at hl ⊢
  have hl : lv_has ls 4 [(0, .ref a0), (1, .int a1)] := hl
  have b_a1 := i32b a1
  have b_a0_5 := i32b a0_5
  have b_a0_0_4 := i32b a0_0_4
  have b_a0_0_7 := i32b a0_0_7
  refine lv_aload_n hx hb dX5_readName_0 rfl (lv_at hl 0 rfl) ?_
  refine va_get (D := (dC, dI)) (ci := 4) (v := .ref a0_0) (C := RX5) (T := TX5) (N := 6) hx hb hts inlX5 hown hK hP 0 rgL7_2e0bc46 rfl 0 (by decide) (hts (.fieldLink RX5 12 "ClosedUntil$TextReader" "tokens" "LClosedUntil$Tokens;") qw_98) (fun _ h9 => h9) rfl dX5_readName_1 ?_
  refine va_getN (D := (dC, dI)) (ci := 6) (v := .int a0_0_4) (C := RX7) (T := TX7) (N := 8) hx hb hts inlX7 hown hK hP 1 rgL7_c83edf0 rfl 4 (by decide) (va_Nw.use rfl (nf_2 hN)) (fun _ h9 => h9) rfl dX5_readName_4 ?_
  refine lv_bipush (v := 12) hx hb dX5_readName_7 (by decide) ?_
  refine lv_icmp_eq (tgt := 26) hx hb dX5_readName_9 (by decide) (fun c9_1 => ?_) (fun c9_1 => ?_)
  · have c9_1 : a0_0_4.toInt = 12 := (cv_eq rfl (by decide)).mp c9_1
    refine lv_aload_n hx hb dX5_readName_26 rfl (lv_at hl 0 rfl) ?_
    refine lv_aload_n hx hb dX5_readName_27 rfl (lv_at hl 0 rfl) ?_
    refine va_get (D := (dC, dI)) (ci := 4) (v := .ref a0_0) (C := RX5) (T := TX5) (N := 6) hx hb hts inlX5 hown hK hP 0 rgL7_2e0bc46 rfl 0 (by decide) (hts (.fieldLink RX5 12 "ClosedUntil$TextReader" "tokens" "LClosedUntil$Tokens;") qw_98) (fun _ h9 => h9) rfl dX5_readName_28 ?_
    refine va_getN (D := (dC, dI)) (ci := 6) (v := .long a0_0_6) (C := RX7) (T := TX7) (N := 8) hx hb hts inlX7 hown hK hP 1 rgL7_c83edf0 rfl 6 (by decide) (va_Nw.use rfl (nf_4 hN)) (fun _ h9 => h9) rfl dX5_readName_31 ?_
    have hPc := (rgP7_36ca781 hP)
    have hKc := (rgK5_f94995a hK)
    refine vp_callSi ((va_runV (As := [.long a0_0_6]) (rest := []) ⟨hx, hb, hml, hown, hts⟩ (k_X5_slotOf l dC dI g (a0) (a0_0_6) (a0_0) (a0_1) (a0_2) (a0_3) (a0_4) (a0_5) (a0_1_c) (a0_1_f) (by omega)) (cwV 1 hts (gwV qw_113 qw_114 qw_115 qw_100 qw_112) rfl rfl rfl (by decide +kernel) ⟨Nat.le_of_ble_eq_true rfl, Nat.le_of_ble_eq_true rfl⟩) ⟨fun a U g9 mk q => ⟨q.1, q.2.1, va_K.moved (u := U) (U := U.calling g9 mk a) (Vm.Alike.refl U.vm) q.2.2.1, Ev.bl q.2.2.2⟩, va_recv hK hP (ci := 4) (q0 := 0) rfl rgL7_2e0bc46, fun U hU hW => ⟨rfl, atB hU hPc, va_K.moved hW.alike hKc, hE.go hS (fun _ h => h.elim) hU hW⟩⟩ rfl rfl hl.1 rfl (lv_room (Nat.le_of_ble_eq_true rfl)) dX5_readName_34 ⟨Nat.le_of_ble_eq_true rfl, Nat.le_of_ble_eq_true rfl⟩)).run (fun r2 h_r2 => ?_)
    have h_r2 : (-1 ≤ r2.toInt ∧ r2.toInt < a0_4.toInt ∧ r2.toInt < 36) := h_r2
    have b_r2 := i32b r2
    refine lv_istore_n (lv' := [(2, .int r2), (0, .ref a0), (1, .int a1)]) hx hb dX5_readName_37 rfl hl (by decide) rfl (fun ls hl => ?_)
    refine lv_iload_n hx hb dX5_readName_38 rfl (lv_at hl 0 rfl) ?_
    refine lv_iconst (v := (-1)) hx hb dX5_readName_39 (by decide) ?_
    refine lv_icmp_eq (tgt := 57) hx hb dX5_readName_40 (by decide) (fun c40_3 => ?_) (fun c40_3 => ?_)
    · have c40_3 : r2.toInt = (-1) := (cv_eq rfl (by decide)).mp c40_3
      refine lv_iconst (v := 0) hx hb dX5_readName_57 (by decide) ?_
      refine lv_istore_n (lv' := [(3, .int 0), (2, .int r2), (0, .ref a0), (1, .int a1)]) hx hb dX5_readName_58 rfl hl (by decide) rfl (fun ls hl => ?_)
      refine lv_iload_n hx hb dX5_readName_59 rfl (lv_at hl 0 rfl) ?_
      refine lv_if_ne (tgt := 75) hx hb dX5_readName_60 (by decide) (fun c60_4 => by exfalso; exact absurd c60_4 (by decide)) (fun c60_4 => ?_)
      refine lv_aload_n hx hb dX5_readName_63 rfl (lv_at hl 2 rfl) ?_
      refine lv_iconst (v := 3) hx hb dX5_readName_64 (by decide) ?_
      refine lv_aload_n hx hb dX5_readName_65 rfl (lv_at hl 2 rfl) ?_
      refine va_get (D := (dC, dI)) (ci := 4) (v := .ref a0_0) (C := RX5) (T := TX5) (N := 6) hx hb hts inlX5 hown hK hP 0 rgL7_2e0bc46 rfl 0 (by decide) (hts (.fieldLink RX5 12 "ClosedUntil$TextReader" "tokens" "LClosedUntil$Tokens;") qw_98) (fun _ h9 => h9) rfl dX5_readName_66 ?_
      refine va_getN (D := (dC, dI)) (ci := 6) (v := .int a0_0_5) (C := RX7) (T := TX7) (N := 8) hx hb hts inlX7 hown hK hP 1 rgL7_c83edf0 rfl 5 (by decide) (va_Nw.use rfl (nf_3 hN)) (fun _ h9 => h9) rfl dX5_readName_69 ?_
      have qc3 : (3 : Int32).toInt = 3 := by decide
      have hPc := (rgP7_244302c hP)
      have hKc := (rgK5_6e78cbf hK)
      have hDc := (rgD7_6d0fc28 hD)
      have hFc := freeW hDc hS hA
      refine va_callv (va_runV (As := [.int 3, .int a0_0_5]) (rest := []) ⟨hx, hb, hml, hown, hts⟩ (k_X5_fail l dC dI g s.heap.size (a0) (3) (a0_0_5) (a0_0) (a0_1) (a0_2) (a0_3) (a0_4) (a0_5) (by omega) (by omega) (by omega)) (cwV 2 hts (gwV qw_105 qw_106 qw_107 qw_100 qw_104) rfl rfl rfl (by decide +kernel) ⟨Nat.le_of_ble_eq_true rfl, Nat.le_of_ble_eq_true rfl⟩) ⟨fun a U g9 mk q => ⟨q.1, q.2.1, q.2.2.1, va_K.moved (u := U) (U := U.calling g9 mk a) (Vm.Alike.refl U.vm) q.2.2.2.1, q.2.2.2.2.1, Ev.bl q.2.2.2.2.2⟩, va_recv hK hP (ci := 4) (q0 := 0) rfl rgL7_2e0bc46, fun U hU hW => ⟨rfl, by rw [hU], atB hU hPc, va_K.moved hW.alike hKc, hDc.weaken (fun _ _ _ _ => trivial), hE.go hS hFc hU hW⟩⟩ rfl rfl hl.1 rfl (lv_room (Nat.le_of_ble_eq_true rfl)) dX5_readName_72 ⟨Nat.le_of_ble_eq_true rfl, Nat.le_of_ble_eq_true rfl⟩) hS (fun q _ h => hFc q h) hFc (fun u5 t H1 locs ht hvm h_u5 hB hz1 hk1 hS => ?_)
      obtain ⟨za0_5_7, hF8, hP1, hK1, hD1⟩ := hB
      have hK1 := va_K.moved hvm.symm hK1
      have hJ9 := rgJ7_b79231f hP hD hk1 hFc (atH ht hP1) hD1
      clear hP hD hPc hKc hDc hFc hP1 hD1 hk1 hz1
      obtain ⟨hP, hD⟩ := hJ9
      clear hK1
      generalize H1 = H at hP hS ⊢
      refine W.widen (k := 0) (n := 0) (Nat.le_of_ble_eq_true rfl) (Nat.le_of_ble_eq_true rfl) ?_
      refine lv_aload_n hx hb dX5_readName_75 rfl (lv_at hl 2 rfl) ?_
      refine va_get (D := (dC, dI)) (ci := 4) (v := .ref a0_0) (C := RX5) (T := TX5) (N := 6) hx hb hts inlX5 hown hK hP 0 rgL7_2e0bc46 rfl 0 (by decide) (hts (.fieldLink RX5 12 "ClosedUntil$TextReader" "tokens" "LClosedUntil$Tokens;") qw_98) (fun _ h9 => h9) rfl dX5_readName_76 ?_
      have hPc := (rgP7_a74a570 hP)
      have hKc := (rgK5_ee8ec44 hK)
      have hDc := (rgD7_2f58844 hD)
      have hFc := freeW hDc hS hA
      refine va_callv (va_runVN (As := []) (rest := []) ⟨hx, hb, hml, hown, hts⟩ (k_X7_advance l dC dI g H.size (a0_0) (a0_0_0) (a0_0_1) (a0_0_2) (a0_0_3) (a0_0_4) (a0_0_5) (a0_0_6) (a0_0_7) (a0_0_0_c) (a0_0_0_f) (a0_0_1_c) (a0_0_1_f) (by omega) (by omega) (by omega)) ⟨va_cnB 0 hts (gwC qw_93) rfl rfl rfl (nm_13 hN) (hts (.initialized RX7) qw_70) (by decide +kernel) ⟨Nat.le_of_ble_eq_true rfl, Nat.le_of_ble_eq_true rfl⟩, (hts (.instanceMethod yX7_advance) qw_95), (hts (.selects RX7 yX7_advance yX7_advance) qw_96)⟩ ⟨fun a U g9 mk q => ⟨q.1, q.2.1, q.2.2.1, va_K.moved (u := U) (U := U.calling g9 mk a) (Vm.Alike.refl U.vm) q.2.2.2.1, q.2.2.2.2.1, Ev.bl q.2.2.2.2.2⟩, va_recv hK hP (ci := 6) (q0 := 1) rfl rgL7_c83edf0, fun U hU hW => ⟨rfl, by rw [hU], atB hU hPc, va_K.moved hW.alike hKc, hDc.weaken (fun _ _ _ _ => trivial), hE.go hS hFc hU hW⟩⟩ rfl rfl hl.1 rfl (lv_room (Nat.le_of_ble_eq_true rfl)) dX5_readName_79 ⟨Nat.le_of_ble_eq_true rfl, Nat.le_of_ble_eq_true rfl⟩) hS (fun q _ h => hFc q h) hFc (fun u9 t H1 locs ht hvm h_u9 hB hz1 hk1 hS => ?_)
      obtain ⟨za0_3_11, za0_4_12, za0_5_13, za0_6_14, za0_7_15, hF16, hF17, hP1, hK1, hD1⟩ := hB
      have hK1 := va_K.moved hvm.symm hK1
      have hJ9 := rgJ7_b862400 hP hD hk1 hFc (atH ht hP1) hD1
      clear hP hD hPc hKc hDc hFc hP1 hD1 hk1 hz1
      obtain ⟨hP, hD⟩ := hJ9
      clear hK1
      generalize H1 = H at hP hS ⊢
      refine W.widen (k := 0) (n := 0) (Nat.le_of_ble_eq_true rfl) (Nat.le_of_ble_eq_true rfl) ?_
      refine lv_iload_n hx hb dX5_readName_82 rfl (lv_at hl 0 rfl) ?_
      refine lv_if_eq (tgt := 95) hx hb dX5_readName_83 (by decide) (fun c83_18 => ?_) (fun c83_18 => by exfalso; exact absurd c83_18 (by decide))
      refine lv_iconst (v := (-1)) hx hb dX5_readName_95 (by decide) ?_
      have qcm1 : ((-1) : Int32).toInt = (-1) := by decide
      refine W.widen (k := 0) (n := 0) (Nat.le_of_ble_eq_true rfl) (Nat.le_of_ble_eq_true rfl) ?_
      have hP9 := hP
      have hD9 := hD
      have hK9 := (rgK5_6e78cbf hK)
      have hf9_0 : (0 ≤ za0_3_11.toInt ∧ za0_3_11.toInt ≤ 1000) := by omega
      have hf9_1 : (0 ≤ za0_5_13.toInt ∧ za0_5_13.toInt ≤ 1000) := by omega
      have hf9_2 : (a0_5.toInt ≠ -1 → za0_5_7.toInt ≠ -1) := by omega
      have hf9_3 : (za0_5_7.toInt ≠ -1 ∨ ((a1.toInt = 0 → 0 ≤ ((-1) : Int32).toInt ∧ ((-1) : Int32).toInt < 8) ∧ (a1.toInt = 3 → 0 ≤ ((-1) : Int32).toInt ∧ ((-1) : Int32).toInt < 4))) := by omega
      exact W.iret (v := (-1)) hx hb hr (fun t ht hW => ⟨⟨(-1), (-1), rfl, rfl, za0_5_7, za0_3_11, za0_4_12, za0_5_13, za0_6_14, za0_7_15, hf9_0, hf9_1, hf9_2, hf9_3, atB ht hP9, va_K.moved hW.alike hK9, hD9⟩, hS.F ht⟩) hS.2.2 dX5_readName_96
    · have c40_3 : ¬ (r2.toInt = (-1)) := mt (cv_eq rfl (by decide)).mpr c40_3
      refine lv_aload_n hx hb dX5_readName_43 rfl (lv_at hl 1 rfl) ?_
      refine va_get (D := (dC, dI)) (ci := 4) (v := .ref a0_2) (C := RX5) (T := TX5) (N := 6) hx hb hts inlX5 hown hK hP 0 rgL7_2e0bc46 rfl 2 (by decide) (hts (.fieldLink RX5 22 "ClosedUntil$TextReader" "nameKinds" "[I") qw_110) (fun _ h9 => h9) rfl dX5_readName_44 ?_
      refine lv_iload_n hx hb dX5_readName_47 rfl (lv_at hl 0 rfl) ?_
      refine va_iald hx hb hK hP 5 3 rgL7_8fc37de rgT5_5f7a9a6 (vinI (by omega) (by omega)) dX5_readName_48 ?_
      refine lv_topi (fun x19 e_x19 => ?_)
      have b_x19 := i32b x19
      refine lv_iload_n hx hb dX5_readName_49 rfl (lv_at hl 2 rfl) ?_
      refine lv_icmp_ne (tgt := 57) hx hb dX5_readName_50 (by decide) (fun c50_20 => ?_) (fun c50_20 => ?_)
      · have c50_20 : ¬ (x19.toInt = a1.toInt) := mt (cv_eq rfl rfl).mpr c50_20
        refine lv_iconst (v := 0) hx hb dX5_readName_57 (by decide) ?_
        refine lv_istore_n (lv' := [(3, .int 0), (2, .int r2), (0, .ref a0), (1, .int a1)]) hx hb dX5_readName_58 rfl hl (by decide) rfl (fun ls hl => ?_)
        refine lv_iload_n hx hb dX5_readName_59 rfl (lv_at hl 0 rfl) ?_
        refine lv_if_ne (tgt := 75) hx hb dX5_readName_60 (by decide) (fun c60_21 => by exfalso; exact absurd c60_21 (by decide)) (fun c60_21 => ?_)
        refine lv_aload_n hx hb dX5_readName_63 rfl (lv_at hl 2 rfl) ?_
        refine lv_iconst (v := 3) hx hb dX5_readName_64 (by decide) ?_
        refine lv_aload_n hx hb dX5_readName_65 rfl (lv_at hl 2 rfl) ?_
        refine va_get (D := (dC, dI)) (ci := 4) (v := .ref a0_0) (C := RX5) (T := TX5) (N := 6) hx hb hts inlX5 hown hK hP 0 rgL7_2e0bc46 rfl 0 (by decide) (hts (.fieldLink RX5 12 "ClosedUntil$TextReader" "tokens" "LClosedUntil$Tokens;") qw_98) (fun _ h9 => h9) rfl dX5_readName_66 ?_
        refine va_getN (D := (dC, dI)) (ci := 6) (v := .int a0_0_5) (C := RX7) (T := TX7) (N := 8) hx hb hts inlX7 hown hK hP 1 rgL7_c83edf0 rfl 5 (by decide) (va_Nw.use rfl (nf_3 hN)) (fun _ h9 => h9) rfl dX5_readName_69 ?_
        have qc3 : (3 : Int32).toInt = 3 := by decide
        have hPc := (rgP7_244302c hP)
        have hKc := (rgK5_6e78cbf hK)
        have hDc := (rgD7_6d0fc28 hD)
        have hFc := freeW hDc hS hA
        refine va_callv (va_runV (As := [.int 3, .int a0_0_5]) (rest := []) ⟨hx, hb, hml, hown, hts⟩ (k_X5_fail l dC dI g s.heap.size (a0) (3) (a0_0_5) (a0_0) (a0_1) (a0_2) (a0_3) (a0_4) (a0_5) (by omega) (by omega) (by omega)) (cwV 2 hts (gwV qw_105 qw_106 qw_107 qw_100 qw_104) rfl rfl rfl (by decide +kernel) ⟨Nat.le_of_ble_eq_true rfl, Nat.le_of_ble_eq_true rfl⟩) ⟨fun a U g9 mk q => ⟨q.1, q.2.1, q.2.2.1, va_K.moved (u := U) (U := U.calling g9 mk a) (Vm.Alike.refl U.vm) q.2.2.2.1, q.2.2.2.2.1, Ev.bl q.2.2.2.2.2⟩, va_recv hK hP (ci := 4) (q0 := 0) rfl rgL7_2e0bc46, fun U hU hW => ⟨rfl, by rw [hU], atB hU hPc, va_K.moved hW.alike hKc, hDc.weaken (fun _ _ _ _ => trivial), hE.go hS hFc hU hW⟩⟩ rfl rfl hl.1 rfl (lv_room (Nat.le_of_ble_eq_true rfl)) dX5_readName_72 ⟨Nat.le_of_ble_eq_true rfl, Nat.le_of_ble_eq_true rfl⟩) hS (fun q _ h => hFc q h) hFc (fun u22 t H1 locs ht hvm h_u22 hB hz1 hk1 hS => ?_)
        obtain ⟨za0_5_24, hF25, hP1, hK1, hD1⟩ := hB
        have hK1 := va_K.moved hvm.symm hK1
        have hJ9 := rgJ7_b79231f hP hD hk1 hFc (atH ht hP1) hD1
        clear hP hD hPc hKc hDc hFc hP1 hD1 hk1 hz1
        obtain ⟨hP, hD⟩ := hJ9
        clear hK1
        generalize H1 = H at hP hS ⊢
        refine W.widen (k := 0) (n := 0) (Nat.le_of_ble_eq_true rfl) (Nat.le_of_ble_eq_true rfl) ?_
        refine lv_aload_n hx hb dX5_readName_75 rfl (lv_at hl 2 rfl) ?_
        refine va_get (D := (dC, dI)) (ci := 4) (v := .ref a0_0) (C := RX5) (T := TX5) (N := 6) hx hb hts inlX5 hown hK hP 0 rgL7_2e0bc46 rfl 0 (by decide) (hts (.fieldLink RX5 12 "ClosedUntil$TextReader" "tokens" "LClosedUntil$Tokens;") qw_98) (fun _ h9 => h9) rfl dX5_readName_76 ?_
        have hPc := (rgP7_a74a570 hP)
        have hKc := (rgK5_ee8ec44 hK)
        have hDc := (rgD7_2f58844 hD)
        have hFc := freeW hDc hS hA
        refine va_callv (va_runVN (As := []) (rest := []) ⟨hx, hb, hml, hown, hts⟩ (k_X7_advance l dC dI g H.size (a0_0) (a0_0_0) (a0_0_1) (a0_0_2) (a0_0_3) (a0_0_4) (a0_0_5) (a0_0_6) (a0_0_7) (a0_0_0_c) (a0_0_0_f) (a0_0_1_c) (a0_0_1_f) (by omega) (by omega) (by omega)) ⟨va_cnB 0 hts (gwC qw_93) rfl rfl rfl (nm_13 hN) (hts (.initialized RX7) qw_70) (by decide +kernel) ⟨Nat.le_of_ble_eq_true rfl, Nat.le_of_ble_eq_true rfl⟩, (hts (.instanceMethod yX7_advance) qw_95), (hts (.selects RX7 yX7_advance yX7_advance) qw_96)⟩ ⟨fun a U g9 mk q => ⟨q.1, q.2.1, q.2.2.1, va_K.moved (u := U) (U := U.calling g9 mk a) (Vm.Alike.refl U.vm) q.2.2.2.1, q.2.2.2.2.1, Ev.bl q.2.2.2.2.2⟩, va_recv hK hP (ci := 6) (q0 := 1) rfl rgL7_c83edf0, fun U hU hW => ⟨rfl, by rw [hU], atB hU hPc, va_K.moved hW.alike hKc, hDc.weaken (fun _ _ _ _ => trivial), hE.go hS hFc hU hW⟩⟩ rfl rfl hl.1 rfl (lv_room (Nat.le_of_ble_eq_true rfl)) dX5_readName_79 ⟨Nat.le_of_ble_eq_true rfl, Nat.le_of_ble_eq_true rfl⟩) hS (fun q _ h => hFc q h) hFc (fun u26 t H1 locs ht hvm h_u26 hB hz1 hk1 hS => ?_)
        obtain ⟨za0_3_28, za0_4_29, za0_5_30, za0_6_31, za0_7_32, hF33, hF34, hP1, hK1, hD1⟩ := hB
        have hK1 := va_K.moved hvm.symm hK1
        have hJ9 := rgJ7_b862400 hP hD hk1 hFc (atH ht hP1) hD1
        clear hP hD hPc hKc hDc hFc hP1 hD1 hk1 hz1
        obtain ⟨hP, hD⟩ := hJ9
        clear hK1
        generalize H1 = H at hP hS ⊢
        refine W.widen (k := 0) (n := 0) (Nat.le_of_ble_eq_true rfl) (Nat.le_of_ble_eq_true rfl) ?_
        refine lv_iload_n hx hb dX5_readName_82 rfl (lv_at hl 0 rfl) ?_
        refine lv_if_eq (tgt := 95) hx hb dX5_readName_83 (by decide) (fun c83_35 => ?_) (fun c83_35 => by exfalso; exact absurd c83_35 (by decide))
        refine lv_iconst (v := (-1)) hx hb dX5_readName_95 (by decide) ?_
        have qcm1 : ((-1) : Int32).toInt = (-1) := by decide
        refine W.widen (k := 0) (n := 0) (Nat.le_of_ble_eq_true rfl) (Nat.le_of_ble_eq_true rfl) ?_
        have hP9 := hP
        have hD9 := hD
        have hK9 := (rgK5_6e78cbf hK)
        have hf9_0 : (0 ≤ za0_3_28.toInt ∧ za0_3_28.toInt ≤ 1000) := by omega
        have hf9_1 : (0 ≤ za0_5_30.toInt ∧ za0_5_30.toInt ≤ 1000) := by omega
        have hf9_2 : (a0_5.toInt ≠ -1 → za0_5_24.toInt ≠ -1) := by omega
        have hf9_3 : (za0_5_24.toInt ≠ -1 ∨ ((a1.toInt = 0 → 0 ≤ ((-1) : Int32).toInt ∧ ((-1) : Int32).toInt < 8) ∧ (a1.toInt = 3 → 0 ≤ ((-1) : Int32).toInt ∧ ((-1) : Int32).toInt < 4))) := by omega
        exact W.iret (v := (-1)) hx hb hr (fun t ht hW => ⟨⟨(-1), (-1), rfl, rfl, za0_5_24, za0_3_28, za0_4_29, za0_5_30, za0_6_31, za0_7_32, hf9_0, hf9_1, hf9_2, hf9_3, atB ht hP9, va_K.moved hW.alike hK9, hD9⟩, hS.F ht⟩) hS.2.2 dX5_readName_96
      · have c50_20 : x19.toInt = a1.toInt := (cv_eq rfl rfl).mp c50_20
        refine lv_iconst (v := 1) hx hb dX5_readName_53 (by decide) ?_
        refine lv_goto (tgt := 58) hx hb dX5_readName_54 (by decide) ?_
        refine lv_istore_n (lv' := [(3, .int 1), (2, .int r2), (0, .ref a0), (1, .int a1)]) hx hb dX5_readName_58 rfl hl (by decide) rfl (fun ls hl => ?_)
        refine lv_iload_n hx hb dX5_readName_59 rfl (lv_at hl 0 rfl) ?_
        refine lv_if_ne (tgt := 75) hx hb dX5_readName_60 (by decide) (fun c60_36 => ?_) (fun c60_36 => by exfalso; exact absurd c60_36 (by decide))
        refine lv_aload_n hx hb dX5_readName_75 rfl (lv_at hl 2 rfl) ?_
        refine va_get (D := (dC, dI)) (ci := 4) (v := .ref a0_0) (C := RX5) (T := TX5) (N := 6) hx hb hts inlX5 hown hK hP 0 rgL7_2e0bc46 rfl 0 (by decide) (hts (.fieldLink RX5 12 "ClosedUntil$TextReader" "tokens" "LClosedUntil$Tokens;") qw_98) (fun _ h9 => h9) rfl dX5_readName_76 ?_
        have hPc := (rgP7_a74a570 hP)
        have hKc := (rgK5_ee8ec44 hK)
        have hDc := (rgD7_2f58844 hD)
        have hFc := freeW hDc hS hA
        refine va_callv (va_runVN (As := []) (rest := []) ⟨hx, hb, hml, hown, hts⟩ (k_X7_advance l dC dI g s.heap.size (a0_0) (a0_0_0) (a0_0_1) (a0_0_2) (a0_0_3) (a0_0_4) (a0_0_5) (a0_0_6) (a0_0_7) (a0_0_0_c) (a0_0_0_f) (a0_0_1_c) (a0_0_1_f) (by omega) (by omega) (by omega)) ⟨va_cnB 0 hts (gwC qw_93) rfl rfl rfl (nm_13 hN) (hts (.initialized RX7) qw_70) (by decide +kernel) ⟨Nat.le_of_ble_eq_true rfl, Nat.le_of_ble_eq_true rfl⟩, (hts (.instanceMethod yX7_advance) qw_95), (hts (.selects RX7 yX7_advance yX7_advance) qw_96)⟩ ⟨fun a U g9 mk q => ⟨q.1, q.2.1, q.2.2.1, va_K.moved (u := U) (U := U.calling g9 mk a) (Vm.Alike.refl U.vm) q.2.2.2.1, q.2.2.2.2.1, Ev.bl q.2.2.2.2.2⟩, va_recv hK hP (ci := 6) (q0 := 1) rfl rgL7_c83edf0, fun U hU hW => ⟨rfl, by rw [hU], atB hU hPc, va_K.moved hW.alike hKc, hDc.weaken (fun _ _ _ _ => trivial), hE.go hS hFc hU hW⟩⟩ rfl rfl hl.1 rfl (lv_room (Nat.le_of_ble_eq_true rfl)) dX5_readName_79 ⟨Nat.le_of_ble_eq_true rfl, Nat.le_of_ble_eq_true rfl⟩) hS (fun q _ h => hFc q h) hFc (fun u37 t H1 locs ht hvm h_u37 hB hz1 hk1 hS => ?_)
        obtain ⟨za0_3_39, za0_4_40, za0_5_41, za0_6_42, za0_7_43, hF44, hF45, hP1, hK1, hD1⟩ := hB
        have hK1 := va_K.moved hvm.symm hK1
        have hJ9 := rgJ7_b862400 hP hD hk1 hFc (atH ht hP1) hD1
        clear hP hD hPc hKc hDc hFc hP1 hD1 hk1 hz1
        obtain ⟨hP, hD⟩ := hJ9
        clear hK1
        generalize H1 = H at hP hS ⊢
        refine W.widen (k := 0) (n := 0) (Nat.le_of_ble_eq_true rfl) (Nat.le_of_ble_eq_true rfl) ?_
        refine lv_iload_n hx hb dX5_readName_82 rfl (lv_at hl 0 rfl) ?_
        refine lv_if_eq (tgt := 95) hx hb dX5_readName_83 (by decide) (fun c83_46 => by exfalso; exact absurd c83_46 (by decide)) (fun c83_46 => ?_)
        refine lv_aload_n hx hb dX5_readName_86 rfl (lv_at hl 2 rfl) ?_
        refine va_get (D := (dC, dI)) (ci := 4) (v := .ref a0_3) (C := RX5) (T := TX5) (N := 6) hx hb hts inlX5 hown hK hP 0 rgL7_2e0bc46 rfl 3 (by decide) (hts (.fieldLink RX5 26 "ClosedUntil$TextReader" "nameNumbers" "[I") qw_111) (fun _ h9 => h9) rfl dX5_readName_87 ?_
        refine lv_iload_n hx hb dX5_readName_90 rfl (lv_at hl 1 rfl) ?_
        refine va_iald hx hb hK hP 6 4 rgL7_9f858b7 rgT5_860c1f5 (vinI (by omega) (by omega)) dX5_readName_91 ?_
        refine lv_topi (fun x47 e_x47 => ?_)
        have b_x47 := i32b x47
        have hnu := NOk.use hno (c := r2) (by omega) (by omega) e_x47 e_x19
        refine lv_goto (tgt := 96) hx hb dX5_readName_92 (by decide) ?_
        refine W.widen (k := 0) (n := 0) (Nat.le_of_ble_eq_true rfl) (Nat.le_of_ble_eq_true rfl) ?_
        have hP9 := hP
        have hD9 := hD
        have hK9 := (rgK5_6e78cbf hK)
        have hf9_0 : (0 ≤ za0_3_39.toInt ∧ za0_3_39.toInt ≤ 1000) := by omega
        have hf9_1 : (0 ≤ za0_5_41.toInt ∧ za0_5_41.toInt ≤ 1000) := by omega
        have hf9_2 : (a0_5.toInt ≠ -1 → a0_5.toInt ≠ -1) := by omega
        have hf9_3 : (a0_5.toInt ≠ -1 ∨ ((a1.toInt = 0 → 0 ≤ x47.toInt ∧ x47.toInt < 8) ∧ (a1.toInt = 3 → 0 ≤ x47.toInt ∧ x47.toInt < 4))) := by omega
        exact W.iret (v := x47) hx hb hr (fun t ht hW => ⟨⟨x47, x47, rfl, rfl, a0_5, za0_3_39, za0_4_40, za0_5_41, za0_6_42, za0_7_43, hf9_0, hf9_1, hf9_2, hf9_3, atB ht hP9, va_K.moved hW.alike hK9, hD9⟩, hS.F ht⟩) hS.2.2 dX5_readName_96
  · have c9_1 : ¬ (a0_0_4.toInt = 12) := mt (cv_eq rfl (by decide)).mpr c9_1
    refine lv_aload_n hx hb dX5_readName_12 rfl (lv_at hl 0 rfl) ?_
    refine lv_iconst (v := 1) hx hb dX5_readName_13 (by decide) ?_
    refine lv_aload_n hx hb dX5_readName_14 rfl (lv_at hl 0 rfl) ?_
    refine va_get (D := (dC, dI)) (ci := 4) (v := .ref a0_0) (C := RX5) (T := TX5) (N := 6) hx hb hts inlX5 hown hK hP 0 rgL7_2e0bc46 rfl 0 (by decide) (hts (.fieldLink RX5 12 "ClosedUntil$TextReader" "tokens" "LClosedUntil$Tokens;") qw_98) (fun _ h9 => h9) rfl dX5_readName_15 ?_
    refine va_getN (D := (dC, dI)) (ci := 6) (v := .int a0_0_5) (C := RX7) (T := TX7) (N := 8) hx hb hts inlX7 hown hK hP 1 rgL7_c83edf0 rfl 5 (by decide) (va_Nw.use rfl (nf_3 hN)) (fun _ h9 => h9) rfl dX5_readName_18 ?_
    have qc1 : (1 : Int32).toInt = 1 := by decide
    have hPc := (rgP7_244302c hP)
    have hKc := (rgK5_6e78cbf hK)
    have hDc := (rgD7_6d0fc28 hD)
    have hFc := freeW hDc hS hA
    refine va_callv (va_runV (As := [.int 1, .int a0_0_5]) (rest := []) ⟨hx, hb, hml, hown, hts⟩ (k_X5_fail l dC dI g s.heap.size (a0) (1) (a0_0_5) (a0_0) (a0_1) (a0_2) (a0_3) (a0_4) (a0_5) (by omega) (by omega) (by omega)) (cwV 2 hts (gwV qw_105 qw_106 qw_107 qw_100 qw_104) rfl rfl rfl (by decide +kernel) ⟨Nat.le_of_ble_eq_true rfl, Nat.le_of_ble_eq_true rfl⟩) ⟨fun a U g9 mk q => ⟨q.1, q.2.1, q.2.2.1, va_K.moved (u := U) (U := U.calling g9 mk a) (Vm.Alike.refl U.vm) q.2.2.2.1, q.2.2.2.2.1, Ev.bl q.2.2.2.2.2⟩, va_recv hK hP (ci := 4) (q0 := 0) rfl rgL7_2e0bc46, fun U hU hW => ⟨rfl, by rw [hU], atB hU hPc, va_K.moved hW.alike hKc, hDc.weaken (fun _ _ _ _ => trivial), hE.go hS hFc hU hW⟩⟩ rfl rfl hl.1 rfl (lv_room (Nat.le_of_ble_eq_true rfl)) dX5_readName_21 ⟨Nat.le_of_ble_eq_true rfl, Nat.le_of_ble_eq_true rfl⟩) hS (fun q _ h => hFc q h) hFc (fun u48 t H1 locs ht hvm h_u48 hB hz1 hk1 hS => ?_)
    obtain ⟨za0_5_50, hF51, hP1, hK1, hD1⟩ := hB
    have hK1 := va_K.moved hvm.symm hK1
    have hJ9 := rgJ7_b79231f hP hD hk1 hFc (atH ht hP1) hD1
    clear hP hD hPc hKc hDc hFc hP1 hD1 hk1 hz1
    obtain ⟨hP, hD⟩ := hJ9
    clear hK1
    generalize H1 = H at hP hS ⊢
    refine W.widen (k := 0) (n := 0) (Nat.le_of_ble_eq_true rfl) (Nat.le_of_ble_eq_true rfl) ?_
    refine lv_iconst (v := (-1)) hx hb dX5_readName_24 (by decide) ?_
    have qcm1 : ((-1) : Int32).toInt = (-1) := by decide
    refine W.widen (k := 0) (n := 0) (Nat.le_of_ble_eq_true rfl) (Nat.le_of_ble_eq_true rfl) ?_
    have hP9 := hP
    have hD9 := hD
    have hK9 := (rgK5_6e78cbf hK)
    have hf9_0 : (0 ≤ a0_0_3.toInt ∧ a0_0_3.toInt ≤ 1000) := by omega
    have hf9_1 : (0 ≤ a0_0_5.toInt ∧ a0_0_5.toInt ≤ 1000) := by omega
    have hf9_2 : (a0_5.toInt ≠ -1 → za0_5_50.toInt ≠ -1) := by omega
    have hf9_3 : (za0_5_50.toInt ≠ -1 ∨ ((a1.toInt = 0 → 0 ≤ ((-1) : Int32).toInt ∧ ((-1) : Int32).toInt < 8) ∧ (a1.toInt = 3 → 0 ≤ ((-1) : Int32).toInt ∧ ((-1) : Int32).toInt < 4))) := by omega
    exact W.iret (v := (-1)) hx hb hr (fun t ht hW => ⟨⟨(-1), (-1), rfl, rfl, za0_5_50, a0_0_3, a0_0_4, a0_0_5, a0_0_6, a0_0_7, hf9_0, hf9_1, hf9_2, hf9_3, atB ht hP9, va_K.moved hW.alike hK9, hD9⟩, hS.F ht⟩) hS.2.2 dX5_readName_25
set_option maxHeartbeats 4000000 in
set_option maxRecDepth 100000 in
theorem k_X5_readNewName (l : Launch) (dC : Nat → ClassId) (dI : Nat → Nat → Nat) (g : Gv) (sz : Nat) (a0 : Nat) (a0_0 : Nat) (a0_1 : Nat) (a0_2 : Nat) (a0_3 : Nat) (a0_4 : Int32) (a0_5 : Int32) (a0_0_0 : Nat) (a0_0_1 : Nat) (a0_0_2 : Int32) (a0_0_3 : Int32) (a0_0_4 : Int32) (a0_0_5 : Int32) (a0_0_6 : Int64) (a0_0_7 : Int32) (a0_0_0_c : ClassId) (a0_0_0_f : Nat → Int64) (a0_0_1_c : ClassId) (a0_0_1_f : Nat → Int32) (a0_1_c : ClassId) (a0_1_f : Nat → Int64) (h_a0_4 : 0 ≤ a0_4.toInt ∧ a0_4.toInt ≤ 36) (h_a0_0_2 : 0 ≤ a0_0_2.toInt ∧ a0_0_2.toInt ≤ 1000) (h_a0_0_3 : 0 ≤ a0_0_3.toInt ∧ a0_0_3.toInt ≤ 1000) (h_a0_0_5 : 0 ≤ a0_0_5.toInt ∧ a0_0_5.toInt ≤ 1000) : Met l yX5_readNewName (.code yX5_readNewName cX5_readNewName 3 (some .long) :: TBL) ({ frames := 3, cells := 0, slots := 0, locals := 63 }) (va_Pc [.ref a0] (fun U => U.heap.size = sz ∧ va_P (dC, dI) vwCl [(a0, .inr (4, [.ref a0_0, .ref a0_1, .ref a0_2, .ref a0_3, .int a0_4, .int a0_5])), (a0_0, .inr (6, [.ref a0_0_0, .ref a0_0_1, .int a0_0_2, .int a0_0_3, .int a0_0_4, .int a0_0_5, .long a0_0_6, .int a0_0_7])), (a0_0_0, .inl (a0_0_0_c, 12, .inr (.inl a0_0_0_f))), (a0_0_1, .inl (a0_0_1_c, 1000, .inl a0_0_1_f)), (a0_1, .inl (a0_1_c, 36, .inr (.inl a0_1_f)))] U.heap ∧ va_K (dC, dI) vwCl [(a0_0_0_c, .long), (a0_0_1_c, .byte), (a0_1_c, .long)] U ∧ va_D (fun _ => True) [(a0, .inr (4, [.ref a0_0, .ref a0_1, .ref a0_2, .ref a0_3, .int a0_4, .int a0_5])), (a0_0, .inr (6, [.ref a0_0_0, .ref a0_0_1, .int a0_0_2, .int a0_0_3, .int a0_0_4, .int a0_0_5, .long a0_0_6, .int a0_0_7])), (a0_0_0, .inl (a0_0_0_c, 12, .inr (.inl a0_0_0_f))), (a0_0_1, .inl (a0_0_1_c, 1000, .inl a0_0_1_f)), (a0_1, .inl (a0_1_c, 36, .inr (.inl a0_1_f)))] ∧ Ev g (va_A [(a0, .inr (4, [.ref a0_0, .ref a0_1, .ref a0_2, .ref a0_3, .int a0_4, .int a0_5])), (a0_0, .inr (6, [.ref a0_0_0, .ref a0_0_1, .int a0_0_2, .int a0_0_3, .int a0_0_4, .int a0_0_5, .long a0_0_6, .int a0_0_7])), (a0_0_0, .inl (a0_0_0_c, 12, .inr (.inl a0_0_0_f))), (a0_0_1, .inl (a0_0_1_c, 1000, .inl a0_0_1_f)), (a0_1, .inl (a0_1_c, 36, .inr (.inl a0_1_f)))] sz) U)) (va_Ql (fun (r : Int64) (u : Int64) => u = r) (fun (u : Int64) (t : State) => ∃ (za0_5 : Int32) (za0_0_3 : Int32) (za0_0_4 : Int32) (za0_0_5 : Int32) (za0_0_6 : Int64) (za0_0_7 : Int32), (0 ≤ za0_0_3.toInt ∧ za0_0_3.toInt ≤ 1000) ∧ (0 ≤ za0_0_5.toInt ∧ za0_0_5.toInt ≤ 1000) ∧ (a0_5.toInt ≠ -1 → za0_5.toInt ≠ -1) ∧ va_P (dC, dI) vwCl [(a0, .inr (4, [.ref a0_0, .ref a0_1, .ref a0_2, .ref a0_3, .int a0_4, .int za0_5])), (a0_0, .inr (6, [.ref a0_0_0, .ref a0_0_1, .int a0_0_2, .int za0_0_3, .int za0_0_4, .int za0_0_5, .long za0_0_6, .int za0_0_7])), (a0_0_0, .inl (a0_0_0_c, 12, .inr (.inl a0_0_0_f))), (a0_0_1, .inl (a0_0_1_c, 1000, .inl a0_0_1_f)), (a0_1, .inl (a0_1_c, 36, .inr (.inl a0_1_f)))] t.heap ∧ va_K (dC, dI) vwCl [] t ∧ va_D (va_A [(a0, .inr (4, [.ref a0_0, .ref a0_1, .ref a0_2, .ref a0_3, .int a0_4, .int a0_5])), (a0_0, .inr (6, [.ref a0_0_0, .ref a0_0_1, .int a0_0_2, .int a0_0_3, .int a0_0_4, .int a0_0_5, .long a0_0_6, .int a0_0_7])), (a0_0_0, .inl (a0_0_0_c, 12, .inr (.inl a0_0_0_f))), (a0_0_1, .inl (a0_0_1_c, 1000, .inl a0_0_1_f)), (a0_1, .inl (a0_1_c, 36, .inr (.inl a0_1_f)))] sz) [(a0, .inr (4, [.ref a0_0, .ref a0_1, .ref a0_2, .ref a0_3, .int a0_4, .int za0_5])), (a0_0, .inr (6, [.ref a0_0_0, .ref a0_0_1, .int a0_0_2, .int za0_0_3, .int za0_0_4, .int za0_0_5, .long za0_0_6, .int za0_0_7])), (a0_0_0, .inl (a0_0_0_c, 12, .inr (.inl a0_0_0_f))), (a0_0_1, .inl (a0_0_1_c, 1000, .inl a0_0_1_f)), (a0_1, .inl (a0_1_c, 36, .inr (.inl a0_1_f)))]) (va_A [(a0, .inr (4, [.ref a0_0, .ref a0_1, .ref a0_2, .ref a0_3, .int a0_4, .int a0_5])), (a0_0, .inr (6, [.ref a0_0_0, .ref a0_0_1, .int a0_0_2, .int a0_0_3, .int a0_0_4, .int a0_0_5, .long a0_0_6, .int a0_0_7])), (a0_0_0, .inl (a0_0_0_c, 12, .inr (.inl a0_0_0_f))), (a0_0_1, .inl (a0_0_1_c, 1000, .inl a0_0_1_f)), (a0_1, .inl (a0_1_c, 36, .inr (.inl a0_1_f)))] sz)) 0 0 (va_A [(a0, .inr (4, [.ref a0_0, .ref a0_1, .ref a0_2, .ref a0_3, .int a0_4, .int a0_5])), (a0_0, .inr (6, [.ref a0_0_0, .ref a0_0_1, .int a0_0_2, .int a0_0_3, .int a0_0_4, .int a0_0_5, .long a0_0_6, .int a0_0_7])), (a0_0_0, .inl (a0_0_0_c, 12, .inr (.inl a0_0_0_f))), (a0_0_1, .inl (a0_0_1_c, 1000, .inl a0_0_1_f)), (a0_1, .inl (a0_1_c, 36, .inr (.inl a0_1_f)))] sz) := by
  refine Met.ofW (cc := cX5_readNewName) (maxL := 3) (ret := (some .long)) (by decide) rfl ?_
  intro p e s m args below meth c s₁ B hml hv
  obtain ⟨rfl, hsz, hP, hK, hD0, hE⟩ := hv
  have hx := B.exec
  have hb := B.bytes
  have hr := B.returns
  have hts0 := atoms_spec (ws := (.code yX5_readNewName cX5_readNewName 3 (some .long) :: TBL)) B.pre
  have hts := fun (w : Cond) (h : w ∈ TBL) => hts0 w (List.mem_cons_of_mem _ h)
  have hown : s.vm.findClass RX5 = some m.cls := findClass_of_methodNamed B.named
  have hlocks := B.notSynchronized
  have hN := hE.1
  subst hsz
  have hD := hD0.self (sz := s.heap.size)
  generalize hAe : va_A [(a0, .inr (4, [.ref a0_0, .ref a0_1, .ref a0_2, .ref a0_3, .int a0_4, .int a0_5])), (a0_0, .inr (6, [.ref a0_0_0, .ref a0_0_1, .int a0_0_2, .int a0_0_3, .int a0_0_4, .int a0_0_5, .long a0_0_6, .int a0_0_7])), (a0_0_0, .inl (a0_0_0_c, 12, .inr (.inl a0_0_0_f))), (a0_0_1, .inl (a0_0_1_c, 1000, .inl a0_0_1_f)), (a0_1, .inl (a0_1_c, 36, .inr (.inl a0_1_f)))] s.heap.size = A at hD hE ⊢
  have hA : ∀ q : Nat, s.heap.size ≤ q → A q := fun q h => by rw [← hAe]; exact Or.inr h
  have hS : va_S A s.heap s.heap [] := va_S.rf
  replace hP : va_P (dC, dI) vwCl [(a0, .inr (4, [.ref a0_0, .ref a0_1, .ref a0_2, .ref a0_3, .int a0_4, .int a0_5])), (a0_0, .inr (6, [.ref a0_0_0, .ref a0_0_1, .int a0_0_2, .int a0_0_3, .int a0_0_4, .int a0_0_5, .long a0_0_6, .int a0_0_7])), (a0_0_0, .inl (a0_0_0_c, 12, .inr (.inl a0_0_0_f))), (a0_0_1, .inl (a0_0_1_c, 1000, .inl a0_0_1_f)), (a0_1, .inl (a0_1_c, 36, .inr (.inl a0_1_f)))] s.heap := hP
  have hl := lv_entry ([.ref a0]) (n := 3) (Nat.le_of_ble_eq_true rfl)
  rw [lg_entry_eq]
  generalize (lg_sl ([.ref a0]) ++ List.replicate (3 - (lg_sl ([.ref a0])).length) Slot.unset).toArray = ls at hl ⊢
  have hl : lv_has ls 3 [(0, .ref a0)] := hl
  have b_a0_5 := i32b a0_5
  have b_a0_0_4 := i32b a0_0_4
  have b_a0_0_7 := i32b a0_0_7
  refine lv_aload_n hx hb dX5_readNewName_0 rfl (lv_at hl 0 rfl) ?_
  refine va_get (D := (dC, dI)) (ci := 4) (v := .ref a0_0) (C := RX5) (T := TX5) (N := 6) hx hb hts inlX5 hown hK hP 0 rgL5_a6879b9 rfl 0 (by decide) (hts (.fieldLink RX5 12 "ClosedUntil$TextReader" "tokens" "LClosedUntil$Tokens;") qw_98) (fun _ h9 => h9) rfl dX5_readNewName_1 ?_
  refine va_getN (D := (dC, dI)) (ci := 6) (v := .int a0_0_4) (C := RX7) (T := TX7) (N := 8) hx hb hts inlX7 hown hK hP 1 rgL5_8fa4d66 rfl 4 (by decide) (va_Nw.use rfl (nf_2 hN)) (fun _ h9 => h9) rfl dX5_readNewName_4 ?_
  refine lv_bipush (v := 12) hx hb dX5_readNewName_7 (by decide) ?_
  refine lv_icmp_eq (tgt := 26) hx hb dX5_readNewName_9 (by decide) (fun c9_1 => ?_) (fun c9_1 => ?_)
  · have c9_1 : a0_0_4.toInt = 12 := (cv_eq rfl (by decide)).mp c9_1
    refine lv_aload_n hx hb dX5_readNewName_26 rfl (lv_at hl 0 rfl) ?_
    refine va_get (D := (dC, dI)) (ci := 4) (v := .ref a0_0) (C := RX5) (T := TX5) (N := 6) hx hb hts inlX5 hown hK hP 0 rgL5_a6879b9 rfl 0 (by decide) (hts (.fieldLink RX5 12 "ClosedUntil$TextReader" "tokens" "LClosedUntil$Tokens;") qw_98) (fun _ h9 => h9) rfl dX5_readNewName_27 ?_
    refine va_getN (D := (dC, dI)) (ci := 6) (v := .long a0_0_6) (C := RX7) (T := TX7) (N := 8) hx hb hts inlX7 hown hK hP 1 rgL5_8fa4d66 rfl 6 (by decide) (va_Nw.use rfl (nf_4 hN)) (fun _ h9 => h9) rfl dX5_readNewName_30 ?_
    refine lv_lstore_n (lv' := [(1, .long a0_0_6), (0, .ref a0)]) hx hb dX5_readNewName_33 rfl hl (by decide) rfl (fun ls hl => ?_)
    refine lv_aload_n hx hb dX5_readNewName_34 rfl (lv_at hl 1 rfl) ?_
    refine lv_lload_n hx hb dX5_readNewName_35 rfl (lv_at hl 0 rfl) ?_
    have hPc := (rgP5_80be5ac hP)
    have hKc := (rgK3_deae889 hK)
    refine vp_callSi ((va_runV (As := [.long a0_0_6]) (rest := []) ⟨hx, hb, hml, hown, hts⟩ (k_X5_slotOf l dC dI g (a0) (a0_0_6) (a0_0) (a0_1) (a0_2) (a0_3) (a0_4) (a0_5) (a0_1_c) (a0_1_f) (by omega)) (cwV 1 hts (gwV qw_113 qw_114 qw_115 qw_100 qw_112) rfl rfl rfl (by decide +kernel) ⟨Nat.le_of_ble_eq_true rfl, Nat.le_of_ble_eq_true rfl⟩) ⟨fun a U g9 mk q => ⟨q.1, q.2.1, va_K.moved (u := U) (U := U.calling g9 mk a) (Vm.Alike.refl U.vm) q.2.2.1, Ev.bl q.2.2.2⟩, va_recv hK hP (ci := 4) (q0 := 0) rfl rgL5_a6879b9, fun U hU hW => ⟨rfl, atB hU hPc, va_K.moved hW.alike hKc, hE.go hS (fun _ h => h.elim) hU hW⟩⟩ rfl rfl hl.1 rfl (lv_room (Nat.le_of_ble_eq_true rfl)) dX5_readNewName_36 ⟨Nat.le_of_ble_eq_true rfl, Nat.le_of_ble_eq_true rfl⟩)).run (fun r2 h_r2 => ?_)
    have h_r2 : (-1 ≤ r2.toInt ∧ r2.toInt < a0_4.toInt ∧ r2.toInt < 36) := h_r2
    have b_r2 := i32b r2
    refine lv_iconst (v := (-1)) hx hb dX5_readNewName_39 (by decide) ?_
    refine lv_icmp_eq (tgt := 55) hx hb dX5_readNewName_40 (by decide) (fun c40_3 => ?_) (fun c40_3 => ?_)
    · have c40_3 : r2.toInt = (-1) := (cv_eq rfl (by decide)).mp c40_3
      refine lv_aload_n hx hb dX5_readNewName_55 rfl (lv_at hl 1 rfl) ?_
      refine va_get (D := (dC, dI)) (ci := 4) (v := .ref a0_0) (C := RX5) (T := TX5) (N := 6) hx hb hts inlX5 hown hK hP 0 rgL5_a6879b9 rfl 0 (by decide) (hts (.fieldLink RX5 12 "ClosedUntil$TextReader" "tokens" "LClosedUntil$Tokens;") qw_98) (fun _ h9 => h9) rfl dX5_readNewName_56 ?_
      have hPc := (rgP5_1e878c8 hP)
      have hKc := (rgK3_ea8775c hK)
      have hDc := (rgD5_f9d6234 hD)
      have hFc := freeW hDc hS hA
      refine va_callv (va_runVN (As := []) (rest := []) ⟨hx, hb, hml, hown, hts⟩ (k_X7_advance l dC dI g s.heap.size (a0_0) (a0_0_0) (a0_0_1) (a0_0_2) (a0_0_3) (a0_0_4) (a0_0_5) (a0_0_6) (a0_0_7) (a0_0_0_c) (a0_0_0_f) (a0_0_1_c) (a0_0_1_f) (by omega) (by omega) (by omega)) ⟨va_cnB 0 hts (gwC qw_93) rfl rfl rfl (nm_13 hN) (hts (.initialized RX7) qw_70) (by decide +kernel) ⟨Nat.le_of_ble_eq_true rfl, Nat.le_of_ble_eq_true rfl⟩, (hts (.instanceMethod yX7_advance) qw_95), (hts (.selects RX7 yX7_advance yX7_advance) qw_96)⟩ ⟨fun a U g9 mk q => ⟨q.1, q.2.1, q.2.2.1, va_K.moved (u := U) (U := U.calling g9 mk a) (Vm.Alike.refl U.vm) q.2.2.2.1, q.2.2.2.2.1, Ev.bl q.2.2.2.2.2⟩, va_recv hK hP (ci := 6) (q0 := 1) rfl rgL5_8fa4d66, fun U hU hW => ⟨rfl, by rw [hU], atB hU hPc, va_K.moved hW.alike hKc, hDc.weaken (fun _ _ _ _ => trivial), hE.go hS hFc hU hW⟩⟩ rfl rfl hl.1 rfl (lv_room (Nat.le_of_ble_eq_true rfl)) dX5_readNewName_59 ⟨Nat.le_of_ble_eq_true rfl, Nat.le_of_ble_eq_true rfl⟩) hS (fun q _ h => hFc q h) hFc (fun u4 t H1 locs ht hvm h_u4 hB hz1 hk1 hS => ?_)
      obtain ⟨za0_3_6, za0_4_7, za0_5_8, za0_6_9, za0_7_10, hF11, hF12, hP1, hK1, hD1⟩ := hB
      have hK1 := va_K.moved hvm.symm hK1
      have hJ9 := rgJ5_c720206 hP hD hk1 hFc (atH ht hP1) hD1
      clear hP hD hPc hKc hDc hFc hP1 hD1 hk1 hz1
      obtain ⟨hP, hD⟩ := hJ9
      clear hK1
      generalize H1 = H at hP hS ⊢
      refine W.widen (k := 0) (n := 0) (Nat.le_of_ble_eq_true rfl) (Nat.le_of_ble_eq_true rfl) ?_
      refine lv_lload_n hx hb dX5_readNewName_62 rfl (lv_at hl 0 rfl) ?_
      refine W.widen (k := 0) (n := 0) (Nat.le_of_ble_eq_true rfl) (Nat.le_of_ble_eq_true rfl) ?_
      have hP9 := hP
      have hD9 := hD
      have hK9 := (rgK3_e7c053f hK)
      have hf9_0 : (0 ≤ za0_3_6.toInt ∧ za0_3_6.toInt ≤ 1000) := by omega
      have hf9_1 : (0 ≤ za0_5_8.toInt ∧ za0_5_8.toInt ≤ 1000) := by omega
      have hf9_2 : (a0_5.toInt ≠ -1 → a0_5.toInt ≠ -1) := by omega
      exact W.lret (v := a0_0_6) hx hb hr (fun t ht hW => ⟨⟨a0_0_6, a0_0_6, rfl, rfl, a0_5, za0_3_6, za0_4_7, za0_5_8, za0_6_9, za0_7_10, hf9_0, hf9_1, hf9_2, atB ht hP9, va_K.moved hW.alike hK9, hD9⟩, hS.F ht⟩) hS.2.2 dX5_readNewName_63
    · have c40_3 : ¬ (r2.toInt = (-1)) := mt (cv_eq rfl (by decide)).mpr c40_3
      refine lv_aload_n hx hb dX5_readNewName_43 rfl (lv_at hl 1 rfl) ?_
      refine lv_iconst (v := 2) hx hb dX5_readNewName_44 (by decide) ?_
      refine lv_aload_n hx hb dX5_readNewName_45 rfl (lv_at hl 1 rfl) ?_
      refine va_get (D := (dC, dI)) (ci := 4) (v := .ref a0_0) (C := RX5) (T := TX5) (N := 6) hx hb hts inlX5 hown hK hP 0 rgL5_a6879b9 rfl 0 (by decide) (hts (.fieldLink RX5 12 "ClosedUntil$TextReader" "tokens" "LClosedUntil$Tokens;") qw_98) (fun _ h9 => h9) rfl dX5_readNewName_46 ?_
      refine va_getN (D := (dC, dI)) (ci := 6) (v := .int a0_0_5) (C := RX7) (T := TX7) (N := 8) hx hb hts inlX7 hown hK hP 1 rgL5_8fa4d66 rfl 5 (by decide) (va_Nw.use rfl (nf_3 hN)) (fun _ h9 => h9) rfl dX5_readNewName_49 ?_
      have qc2 : (2 : Int32).toInt = 2 := by decide
      have hPc := (rgP5_89a3f62 hP)
      have hKc := (rgK3_e7c053f hK)
      have hDc := (rgD5_0e893dd hD)
      have hFc := freeW hDc hS hA
      refine va_callv (va_runV (As := [.int 2, .int a0_0_5]) (rest := []) ⟨hx, hb, hml, hown, hts⟩ (k_X5_fail l dC dI g s.heap.size (a0) (2) (a0_0_5) (a0_0) (a0_1) (a0_2) (a0_3) (a0_4) (a0_5) (by omega) (by omega) (by omega)) (cwV 2 hts (gwV qw_105 qw_106 qw_107 qw_100 qw_104) rfl rfl rfl (by decide +kernel) ⟨Nat.le_of_ble_eq_true rfl, Nat.le_of_ble_eq_true rfl⟩) ⟨fun a U g9 mk q => ⟨q.1, q.2.1, q.2.2.1, va_K.moved (u := U) (U := U.calling g9 mk a) (Vm.Alike.refl U.vm) q.2.2.2.1, q.2.2.2.2.1, Ev.bl q.2.2.2.2.2⟩, va_recv hK hP (ci := 4) (q0 := 0) rfl rgL5_a6879b9, fun U hU hW => ⟨rfl, by rw [hU], atB hU hPc, va_K.moved hW.alike hKc, hDc.weaken (fun _ _ _ _ => trivial), hE.go hS hFc hU hW⟩⟩ rfl rfl hl.1 rfl (lv_room (Nat.le_of_ble_eq_true rfl)) dX5_readNewName_52 ⟨Nat.le_of_ble_eq_true rfl, Nat.le_of_ble_eq_true rfl⟩) hS (fun q _ h => hFc q h) hFc (fun u13 t H1 locs ht hvm h_u13 hB hz1 hk1 hS => ?_)
      obtain ⟨za0_5_15, hF16, hP1, hK1, hD1⟩ := hB
      have hK1 := va_K.moved hvm.symm hK1
      have hJ9 := rgJ5_178c2bf hP hD hk1 hFc (atH ht hP1) hD1
      clear hP hD hPc hKc hDc hFc hP1 hD1 hk1 hz1
      obtain ⟨hP, hD⟩ := hJ9
      clear hK1
      generalize H1 = H at hP hS ⊢
      refine W.widen (k := 0) (n := 0) (Nat.le_of_ble_eq_true rfl) (Nat.le_of_ble_eq_true rfl) ?_
      refine lv_aload_n hx hb dX5_readNewName_55 rfl (lv_at hl 1 rfl) ?_
      refine va_get (D := (dC, dI)) (ci := 4) (v := .ref a0_0) (C := RX5) (T := TX5) (N := 6) hx hb hts inlX5 hown hK hP 0 rgL5_a6879b9 rfl 0 (by decide) (hts (.fieldLink RX5 12 "ClosedUntil$TextReader" "tokens" "LClosedUntil$Tokens;") qw_98) (fun _ h9 => h9) rfl dX5_readNewName_56 ?_
      have hPc := (rgP5_1e878c8 hP)
      have hKc := (rgK3_ea8775c hK)
      have hDc := (rgD5_f9d6234 hD)
      have hFc := freeW hDc hS hA
      refine va_callv (va_runVN (As := []) (rest := []) ⟨hx, hb, hml, hown, hts⟩ (k_X7_advance l dC dI g H.size (a0_0) (a0_0_0) (a0_0_1) (a0_0_2) (a0_0_3) (a0_0_4) (a0_0_5) (a0_0_6) (a0_0_7) (a0_0_0_c) (a0_0_0_f) (a0_0_1_c) (a0_0_1_f) (by omega) (by omega) (by omega)) ⟨va_cnB 0 hts (gwC qw_93) rfl rfl rfl (nm_13 hN) (hts (.initialized RX7) qw_70) (by decide +kernel) ⟨Nat.le_of_ble_eq_true rfl, Nat.le_of_ble_eq_true rfl⟩, (hts (.instanceMethod yX7_advance) qw_95), (hts (.selects RX7 yX7_advance yX7_advance) qw_96)⟩ ⟨fun a U g9 mk q => ⟨q.1, q.2.1, q.2.2.1, va_K.moved (u := U) (U := U.calling g9 mk a) (Vm.Alike.refl U.vm) q.2.2.2.1, q.2.2.2.2.1, Ev.bl q.2.2.2.2.2⟩, va_recv hK hP (ci := 6) (q0 := 1) rfl rgL5_8fa4d66, fun U hU hW => ⟨rfl, by rw [hU], atB hU hPc, va_K.moved hW.alike hKc, hDc.weaken (fun _ _ _ _ => trivial), hE.go hS hFc hU hW⟩⟩ rfl rfl hl.1 rfl (lv_room (Nat.le_of_ble_eq_true rfl)) dX5_readNewName_59 ⟨Nat.le_of_ble_eq_true rfl, Nat.le_of_ble_eq_true rfl⟩) hS (fun q _ h => hFc q h) hFc (fun u17 t H1 locs ht hvm h_u17 hB hz1 hk1 hS => ?_)
      obtain ⟨za0_3_19, za0_4_20, za0_5_21, za0_6_22, za0_7_23, hF24, hF25, hP1, hK1, hD1⟩ := hB
      have hK1 := va_K.moved hvm.symm hK1
      have hJ9 := rgJ5_c720206 hP hD hk1 hFc (atH ht hP1) hD1
      clear hP hD hPc hKc hDc hFc hP1 hD1 hk1 hz1
      obtain ⟨hP, hD⟩ := hJ9
      clear hK1
      generalize H1 = H at hP hS ⊢
      refine W.widen (k := 0) (n := 0) (Nat.le_of_ble_eq_true rfl) (Nat.le_of_ble_eq_true rfl) ?_
      refine lv_lload_n hx hb dX5_readNewName_62 rfl (lv_at hl 0 rfl) ?_
      refine W.widen (k := 0) (n := 0) (Nat.le_of_ble_eq_true rfl) (Nat.le_of_ble_eq_true rfl) ?_
      have hP9 := hP
      have hD9 := hD
      have hK9 := (rgK3_e7c053f hK)
      have hf9_0 : (0 ≤ za0_3_19.toInt ∧ za0_3_19.toInt ≤ 1000) := by omega
      have hf9_1 : (0 ≤ za0_5_21.toInt ∧ za0_5_21.toInt ≤ 1000) := by omega
      have hf9_2 : (a0_5.toInt ≠ -1 → za0_5_15.toInt ≠ -1) := by omega
      exact W.lret (v := a0_0_6) hx hb hr (fun t ht hW => ⟨⟨a0_0_6, a0_0_6, rfl, rfl, za0_5_15, za0_3_19, za0_4_20, za0_5_21, za0_6_22, za0_7_23, hf9_0, hf9_1, hf9_2, atB ht hP9, va_K.moved hW.alike hK9, hD9⟩, hS.F ht⟩) hS.2.2 dX5_readNewName_63
  · have c9_1 : ¬ (a0_0_4.toInt = 12) := mt (cv_eq rfl (by decide)).mpr c9_1
    refine lv_aload_n hx hb dX5_readNewName_12 rfl (lv_at hl 0 rfl) ?_
    refine lv_iconst (v := 1) hx hb dX5_readNewName_13 (by decide) ?_
    refine lv_aload_n hx hb dX5_readNewName_14 rfl (lv_at hl 0 rfl) ?_
    refine va_get (D := (dC, dI)) (ci := 4) (v := .ref a0_0) (C := RX5) (T := TX5) (N := 6) hx hb hts inlX5 hown hK hP 0 rgL5_a6879b9 rfl 0 (by decide) (hts (.fieldLink RX5 12 "ClosedUntil$TextReader" "tokens" "LClosedUntil$Tokens;") qw_98) (fun _ h9 => h9) rfl dX5_readNewName_15 ?_
    refine va_getN (D := (dC, dI)) (ci := 6) (v := .int a0_0_5) (C := RX7) (T := TX7) (N := 8) hx hb hts inlX7 hown hK hP 1 rgL5_8fa4d66 rfl 5 (by decide) (va_Nw.use rfl (nf_3 hN)) (fun _ h9 => h9) rfl dX5_readNewName_18 ?_
    have qc1 : (1 : Int32).toInt = 1 := by decide
    have hPc := (rgP5_89a3f62 hP)
    have hKc := (rgK3_e7c053f hK)
    have hDc := (rgD5_0e893dd hD)
    have hFc := freeW hDc hS hA
    refine va_callv (va_runV (As := [.int 1, .int a0_0_5]) (rest := []) ⟨hx, hb, hml, hown, hts⟩ (k_X5_fail l dC dI g s.heap.size (a0) (1) (a0_0_5) (a0_0) (a0_1) (a0_2) (a0_3) (a0_4) (a0_5) (by omega) (by omega) (by omega)) (cwV 2 hts (gwV qw_105 qw_106 qw_107 qw_100 qw_104) rfl rfl rfl (by decide +kernel) ⟨Nat.le_of_ble_eq_true rfl, Nat.le_of_ble_eq_true rfl⟩) ⟨fun a U g9 mk q => ⟨q.1, q.2.1, q.2.2.1, va_K.moved (u := U) (U := U.calling g9 mk a) (Vm.Alike.refl U.vm) q.2.2.2.1, q.2.2.2.2.1, Ev.bl q.2.2.2.2.2⟩, va_recv hK hP (ci := 4) (q0 := 0) rfl rgL5_a6879b9, fun U hU hW => ⟨rfl, by rw [hU], atB hU hPc, va_K.moved hW.alike hKc, hDc.weaken (fun _ _ _ _ => trivial), hE.go hS hFc hU hW⟩⟩ rfl rfl hl.1 rfl (lv_room (Nat.le_of_ble_eq_true rfl)) dX5_readNewName_21 ⟨Nat.le_of_ble_eq_true rfl, Nat.le_of_ble_eq_true rfl⟩) hS (fun q _ h => hFc q h) hFc (fun u26 t H1 locs ht hvm h_u26 hB hz1 hk1 hS => ?_)
    obtain ⟨za0_5_28, hF29, hP1, hK1, hD1⟩ := hB
    have hK1 := va_K.moved hvm.symm hK1
    have hJ9 := rgJ5_178c2bf hP hD hk1 hFc (atH ht hP1) hD1
    clear hP hD hPc hKc hDc hFc hP1 hD1 hk1 hz1
    obtain ⟨hP, hD⟩ := hJ9
    clear hK1
    generalize H1 = H at hP hS ⊢
    refine W.widen (k := 0) (n := 0) (Nat.le_of_ble_eq_true rfl) (Nat.le_of_ble_eq_true rfl) ?_
    refine lv_lconst (v := 0) hx hb dX5_readNewName_24 (by decide) ?_
    refine W.widen (k := 0) (n := 0) (Nat.le_of_ble_eq_true rfl) (Nat.le_of_ble_eq_true rfl) ?_
    have hP9 := hP
    have hD9 := hD
    have hK9 := (rgK3_e7c053f hK)
    have hf9_0 : (0 ≤ a0_0_3.toInt ∧ a0_0_3.toInt ≤ 1000) := by omega
    have hf9_1 : (0 ≤ a0_0_5.toInt ∧ a0_0_5.toInt ≤ 1000) := by omega
    have hf9_2 : (a0_5.toInt ≠ -1 → za0_5_28.toInt ≠ -1) := by omega
    exact W.lret (v := 0) hx hb hr (fun t ht hW => ⟨⟨0, 0, rfl, rfl, za0_5_28, a0_0_3, a0_0_4, a0_0_5, a0_0_6, a0_0_7, hf9_0, hf9_1, hf9_2, atB ht hP9, va_K.moved hW.alike hK9, hD9⟩, hS.F ht⟩) hS.2.2 dX5_readNewName_25
set_option maxHeartbeats 4000000 in
set_option maxRecDepth 100000 in
theorem k_X5_readNumber (l : Launch) (dC : Nat → ClassId) (dI : Nat → Nat → Nat) (g : Gv) (sz : Nat) (a0 : Nat) (a1 : Int32) (a2 : Int32) (a0_0 : Nat) (a0_1 : Nat) (a0_2 : Nat) (a0_3 : Nat) (a0_4 : Int32) (a0_5 : Int32) (a0_0_0 : Nat) (a0_0_1 : Nat) (a0_0_2 : Int32) (a0_0_3 : Int32) (a0_0_4 : Int32) (a0_0_5 : Int32) (a0_0_6 : Int64) (a0_0_7 : Int32) (a0_0_0_c : ClassId) (a0_0_0_f : Nat → Int64) (a0_0_1_c : ClassId) (a0_0_1_f : Nat → Int32) (h_a0_4 : 0 ≤ a0_4.toInt ∧ a0_4.toInt ≤ 36) (h_a0_0_2 : 0 ≤ a0_0_2.toInt ∧ a0_0_2.toInt ≤ 1000) (h_a0_0_3 : 0 ≤ a0_0_3.toInt ∧ a0_0_3.toInt ≤ 1000) (h_a0_0_5 : 0 ≤ a0_0_5.toInt ∧ a0_0_5.toInt ≤ 1000) : Met l yX5_readNumber (.code yX5_readNumber cX5_readNumber 4 (some .int) :: TBL) ({ frames := 3, cells := 0, slots := 0, locals := 63 }) (va_Pc [.ref a0, .int a1, .int a2] (fun U => U.heap.size = sz ∧ va_P (dC, dI) vwCl [(a0, .inr (4, [.ref a0_0, .ref a0_1, .ref a0_2, .ref a0_3, .int a0_4, .int a0_5])), (a0_0, .inr (6, [.ref a0_0_0, .ref a0_0_1, .int a0_0_2, .int a0_0_3, .int a0_0_4, .int a0_0_5, .long a0_0_6, .int a0_0_7])), (a0_0_0, .inl (a0_0_0_c, 12, .inr (.inl a0_0_0_f))), (a0_0_1, .inl (a0_0_1_c, 1000, .inl a0_0_1_f))] U.heap ∧ va_K (dC, dI) vwCl [(a0_0_0_c, .long), (a0_0_1_c, .byte)] U ∧ va_D (fun _ => True) [(a0, .inr (4, [.ref a0_0, .ref a0_1, .ref a0_2, .ref a0_3, .int a0_4, .int a0_5])), (a0_0, .inr (6, [.ref a0_0_0, .ref a0_0_1, .int a0_0_2, .int a0_0_3, .int a0_0_4, .int a0_0_5, .long a0_0_6, .int a0_0_7])), (a0_0_0, .inl (a0_0_0_c, 12, .inr (.inl a0_0_0_f))), (a0_0_1, .inl (a0_0_1_c, 1000, .inl a0_0_1_f))] ∧ Ev g (va_A [(a0, .inr (4, [.ref a0_0, .ref a0_1, .ref a0_2, .ref a0_3, .int a0_4, .int a0_5])), (a0_0, .inr (6, [.ref a0_0_0, .ref a0_0_1, .int a0_0_2, .int a0_0_3, .int a0_0_4, .int a0_0_5, .long a0_0_6, .int a0_0_7])), (a0_0_0, .inl (a0_0_0_c, 12, .inr (.inl a0_0_0_f))), (a0_0_1, .inl (a0_0_1_c, 1000, .inl a0_0_1_f))] sz) U)) (va_Qi (fun (r : Int32) (u : Int32) => u = r) (fun (u : Int32) (t : State) => ∃ (za0_5 : Int32) (za0_0_3 : Int32) (za0_0_4 : Int32) (za0_0_5 : Int32) (za0_0_6 : Int64) (za0_0_7 : Int32), (0 ≤ za0_0_3.toInt ∧ za0_0_3.toInt ≤ 1000) ∧ (0 ≤ za0_0_5.toInt ∧ za0_0_5.toInt ≤ 1000) ∧ (a0_5.toInt ≠ -1 → za0_5.toInt ≠ -1) ∧ va_P (dC, dI) vwCl [(a0, .inr (4, [.ref a0_0, .ref a0_1, .ref a0_2, .ref a0_3, .int a0_4, .int za0_5])), (a0_0, .inr (6, [.ref a0_0_0, .ref a0_0_1, .int a0_0_2, .int za0_0_3, .int za0_0_4, .int za0_0_5, .long za0_0_6, .int za0_0_7])), (a0_0_0, .inl (a0_0_0_c, 12, .inr (.inl a0_0_0_f))), (a0_0_1, .inl (a0_0_1_c, 1000, .inl a0_0_1_f))] t.heap ∧ va_K (dC, dI) vwCl [] t ∧ va_D (va_A [(a0, .inr (4, [.ref a0_0, .ref a0_1, .ref a0_2, .ref a0_3, .int a0_4, .int a0_5])), (a0_0, .inr (6, [.ref a0_0_0, .ref a0_0_1, .int a0_0_2, .int a0_0_3, .int a0_0_4, .int a0_0_5, .long a0_0_6, .int a0_0_7])), (a0_0_0, .inl (a0_0_0_c, 12, .inr (.inl a0_0_0_f))), (a0_0_1, .inl (a0_0_1_c, 1000, .inl a0_0_1_f))] sz) [(a0, .inr (4, [.ref a0_0, .ref a0_1, .ref a0_2, .ref a0_3, .int a0_4, .int za0_5])), (a0_0, .inr (6, [.ref a0_0_0, .ref a0_0_1, .int a0_0_2, .int za0_0_3, .int za0_0_4, .int za0_0_5, .long za0_0_6, .int za0_0_7])), (a0_0_0, .inl (a0_0_0_c, 12, .inr (.inl a0_0_0_f))), (a0_0_1, .inl (a0_0_1_c, 1000, .inl a0_0_1_f))]) (va_A [(a0, .inr (4, [.ref a0_0, .ref a0_1, .ref a0_2, .ref a0_3, .int a0_4, .int a0_5])), (a0_0, .inr (6, [.ref a0_0_0, .ref a0_0_1, .int a0_0_2, .int a0_0_3, .int a0_0_4, .int a0_0_5, .long a0_0_6, .int a0_0_7])), (a0_0_0, .inl (a0_0_0_c, 12, .inr (.inl a0_0_0_f))), (a0_0_1, .inl (a0_0_1_c, 1000, .inl a0_0_1_f))] sz)) 0 0 (va_A [(a0, .inr (4, [.ref a0_0, .ref a0_1, .ref a0_2, .ref a0_3, .int a0_4, .int a0_5])), (a0_0, .inr (6, [.ref a0_0_0, .ref a0_0_1, .int a0_0_2, .int a0_0_3, .int a0_0_4, .int a0_0_5, .long a0_0_6, .int a0_0_7])), (a0_0_0, .inl (a0_0_0_c, 12, .inr (.inl a0_0_0_f))), (a0_0_1, .inl (a0_0_1_c, 1000, .inl a0_0_1_f))] sz) := by
  refine Met.ofW (cc := cX5_readNumber) (maxL := 4) (ret := (some .int)) (by decide) rfl ?_
  intro p e s m args below meth c s₁ B hml hv
  obtain ⟨rfl, hsz, hP, hK, hD0, hE⟩ := hv
  have hx := B.exec
  have hb := B.bytes
  have hr := B.returns
  have hts0 := atoms_spec (ws := (.code yX5_readNumber cX5_readNumber 4 (some .int) :: TBL)) B.pre
  have hts := fun (w : Cond) (h : w ∈ TBL) => hts0 w (List.mem_cons_of_mem _ h)
  have hown : s.vm.findClass RX5 = some m.cls := findClass_of_methodNamed B.named
  have hlocks := B.notSynchronized
  have hN := hE.1
  subst hsz
  have hD := hD0.self (sz := s.heap.size)
  generalize hAe : va_A [(a0, .inr (4, [.ref a0_0, .ref a0_1, .ref a0_2, .ref a0_3, .int a0_4, .int a0_5])), (a0_0, .inr (6, [.ref a0_0_0, .ref a0_0_1, .int a0_0_2, .int a0_0_3, .int a0_0_4, .int a0_0_5, .long a0_0_6, .int a0_0_7])), (a0_0_0, .inl (a0_0_0_c, 12, .inr (.inl a0_0_0_f))), (a0_0_1, .inl (a0_0_1_c, 1000, .inl a0_0_1_f))] s.heap.size = A at hD hE ⊢
  have hA : ∀ q : Nat, s.heap.size ≤ q → A q := fun q h => by rw [← hAe]; exact Or.inr h
  have hS : va_S A s.heap s.heap [] := va_S.rf
  replace hP : va_P (dC, dI) vwCl [(a0, .inr (4, [.ref a0_0, .ref a0_1, .ref a0_2, .ref a0_3, .int a0_4, .int a0_5])), (a0_0, .inr (6, [.ref a0_0_0, .ref a0_0_1, .int a0_0_2, .int a0_0_3, .int a0_0_4, .int a0_0_5, .long a0_0_6, .int a0_0_7])), (a0_0_0, .inl (a0_0_0_c, 12, .inr (.inl a0_0_0_f))), (a0_0_1, .inl (a0_0_1_c, 1000, .inl a0_0_1_f))] s.heap := hP
  have hl := lv_entry ([.ref a0, .int a1, .int a2]) (n := 4) (Nat.le_of_ble_eq_true rfl)
  rw [lg_entry_eq]
  generalize (lg_sl ([.ref a0, .int a1, .int a2]) ++ List.replicate (4 - (lg_sl ([.ref a0, .int a1, .int a2])).length) Slot.unset).toArray = ls at hl ⊢
  have hl : lv_has ls 4 [(0, .ref a0), (1, .int a1), (2, .int a2)] := hl
  have b_a1 := i32b a1
  have b_a2 := i32b a2
  have b_a0_5 := i32b a0_5
  have b_a0_0_4 := i32b a0_0_4
  have b_a0_0_7 := i32b a0_0_7
  refine lv_aload_n hx hb dX5_readNumber_0 rfl (lv_at hl 0 rfl) ?_
  refine va_get (D := (dC, dI)) (ci := 4) (v := .ref a0_0) (C := RX5) (T := TX5) (N := 6) hx hb hts inlX5 hown hK hP 0 rgL4_25bb07f rfl 0 (by decide) (hts (.fieldLink RX5 12 "ClosedUntil$TextReader" "tokens" "LClosedUntil$Tokens;") qw_98) (fun _ h9 => h9) rfl dX5_readNumber_1 ?_
  refine va_getN (D := (dC, dI)) (ci := 6) (v := .int a0_0_4) (C := RX7) (T := TX7) (N := 8) hx hb hts inlX7 hown hK hP 1 rgL4_60d974a rfl 4 (by decide) (va_Nw.use rfl (nf_2 hN)) (fun _ h9 => h9) rfl dX5_readNumber_4 ?_
  refine lv_bipush (v := 13) hx hb dX5_readNumber_7 (by decide) ?_
  refine lv_icmp_eq (tgt := 26) hx hb dX5_readNumber_9 (by decide) (fun c9_1 => ?_) (fun c9_1 => ?_)
  · have c9_1 : a0_0_4.toInt = 13 := (cv_eq rfl (by decide)).mp c9_1
    refine lv_aload_n hx hb dX5_readNumber_26 rfl (lv_at hl 0 rfl) ?_
    refine va_get (D := (dC, dI)) (ci := 4) (v := .ref a0_0) (C := RX5) (T := TX5) (N := 6) hx hb hts inlX5 hown hK hP 0 rgL4_25bb07f rfl 0 (by decide) (hts (.fieldLink RX5 12 "ClosedUntil$TextReader" "tokens" "LClosedUntil$Tokens;") qw_98) (fun _ h9 => h9) rfl dX5_readNumber_27 ?_
    refine va_getN (D := (dC, dI)) (ci := 6) (v := .int a0_0_7) (C := RX7) (T := TX7) (N := 8) hx hb hts inlX7 hown hK hP 1 rgL4_60d974a rfl 7 (by decide) (va_Nw.use rfl (nf_5 hN)) (fun _ h9 => h9) rfl dX5_readNumber_30 ?_
    refine lv_istore_n (lv' := [(3, .int a0_0_7), (0, .ref a0), (1, .int a1), (2, .int a2)]) hx hb dX5_readNumber_33 rfl hl (by decide) rfl (fun ls hl => ?_)
    refine lv_iload_n hx hb dX5_readNumber_34 rfl (lv_at hl 0 rfl) ?_
    refine lv_iload_n hx hb dX5_readNumber_35 rfl (lv_at hl 2 rfl) ?_
    refine lv_icmp_lt (tgt := 44) hx hb dX5_readNumber_36 (by decide) (fun c36_2 => ?_) (fun c36_2 => ?_)
    · have c36_2 : a0_0_7.toInt < a1.toInt := (cv_lt rfl rfl).mp c36_2
      refine lv_aload_n hx hb dX5_readNumber_44 rfl (lv_at hl 1 rfl) ?_
      refine lv_iconst (v := 4) hx hb dX5_readNumber_45 (by decide) ?_
      refine lv_aload_n hx hb dX5_readNumber_46 rfl (lv_at hl 1 rfl) ?_
      refine va_get (D := (dC, dI)) (ci := 4) (v := .ref a0_0) (C := RX5) (T := TX5) (N := 6) hx hb hts inlX5 hown hK hP 0 rgL4_25bb07f rfl 0 (by decide) (hts (.fieldLink RX5 12 "ClosedUntil$TextReader" "tokens" "LClosedUntil$Tokens;") qw_98) (fun _ h9 => h9) rfl dX5_readNumber_47 ?_
      refine va_getN (D := (dC, dI)) (ci := 6) (v := .int a0_0_5) (C := RX7) (T := TX7) (N := 8) hx hb hts inlX7 hown hK hP 1 rgL4_60d974a rfl 5 (by decide) (va_Nw.use rfl (nf_3 hN)) (fun _ h9 => h9) rfl dX5_readNumber_50 ?_
      have qc4 : (4 : Int32).toInt = 4 := by decide
      have hPc := (rgP4_afa90ad hP)
      have hKc := (rgK2_b4df2fa hK)
      have hDc := (rgD4_a246c7e hD)
      have hFc := freeW hDc hS hA
      refine va_callv (va_runV (As := [.int 4, .int a0_0_5]) (rest := []) ⟨hx, hb, hml, hown, hts⟩ (k_X5_fail l dC dI g s.heap.size (a0) (4) (a0_0_5) (a0_0) (a0_1) (a0_2) (a0_3) (a0_4) (a0_5) (by omega) (by omega) (by omega)) (cwV 2 hts (gwV qw_105 qw_106 qw_107 qw_100 qw_104) rfl rfl rfl (by decide +kernel) ⟨Nat.le_of_ble_eq_true rfl, Nat.le_of_ble_eq_true rfl⟩) ⟨fun a U g9 mk q => ⟨q.1, q.2.1, q.2.2.1, va_K.moved (u := U) (U := U.calling g9 mk a) (Vm.Alike.refl U.vm) q.2.2.2.1, q.2.2.2.2.1, Ev.bl q.2.2.2.2.2⟩, va_recv hK hP (ci := 4) (q0 := 0) rfl rgL4_25bb07f, fun U hU hW => ⟨rfl, by rw [hU], atB hU hPc, va_K.moved hW.alike hKc, hDc.weaken (fun _ _ _ _ => trivial), hE.go hS hFc hU hW⟩⟩ rfl rfl hl.1 rfl (lv_room (Nat.le_of_ble_eq_true rfl)) dX5_readNumber_53 ⟨Nat.le_of_ble_eq_true rfl, Nat.le_of_ble_eq_true rfl⟩) hS (fun q _ h => hFc q h) hFc (fun u3 t H1 locs ht hvm h_u3 hB hz1 hk1 hS => ?_)
      obtain ⟨za0_5_5, hF6, hP1, hK1, hD1⟩ := hB
      have hK1 := va_K.moved hvm.symm hK1
      have hJ9 := rgJ4_202d814 hP hD hk1 hFc (atH ht hP1) hD1
      clear hP hD hPc hKc hDc hFc hP1 hD1 hk1 hz1
      obtain ⟨hP, hD⟩ := hJ9
      clear hK1
      generalize H1 = H at hP hS ⊢
      refine W.widen (k := 0) (n := 0) (Nat.le_of_ble_eq_true rfl) (Nat.le_of_ble_eq_true rfl) ?_
      refine lv_aload_n hx hb dX5_readNumber_56 rfl (lv_at hl 1 rfl) ?_
      refine va_get (D := (dC, dI)) (ci := 4) (v := .ref a0_0) (C := RX5) (T := TX5) (N := 6) hx hb hts inlX5 hown hK hP 0 rgL4_25bb07f rfl 0 (by decide) (hts (.fieldLink RX5 12 "ClosedUntil$TextReader" "tokens" "LClosedUntil$Tokens;") qw_98) (fun _ h9 => h9) rfl dX5_readNumber_57 ?_
      have hPc := (rgP4_55f25ec hP)
      have hKc := hK
      have hDc := (rgD4_5354514 hD)
      have hFc := freeW hDc hS hA
      refine va_callv (va_runVN (As := []) (rest := []) ⟨hx, hb, hml, hown, hts⟩ (k_X7_advance l dC dI g H.size (a0_0) (a0_0_0) (a0_0_1) (a0_0_2) (a0_0_3) (a0_0_4) (a0_0_5) (a0_0_6) (a0_0_7) (a0_0_0_c) (a0_0_0_f) (a0_0_1_c) (a0_0_1_f) (by omega) (by omega) (by omega)) ⟨va_cnB 0 hts (gwC qw_93) rfl rfl rfl (nm_13 hN) (hts (.initialized RX7) qw_70) (by decide +kernel) ⟨Nat.le_of_ble_eq_true rfl, Nat.le_of_ble_eq_true rfl⟩, (hts (.instanceMethod yX7_advance) qw_95), (hts (.selects RX7 yX7_advance yX7_advance) qw_96)⟩ ⟨fun a U g9 mk q => ⟨q.1, q.2.1, q.2.2.1, va_K.moved (u := U) (U := U.calling g9 mk a) (Vm.Alike.refl U.vm) q.2.2.2.1, q.2.2.2.2.1, Ev.bl q.2.2.2.2.2⟩, va_recv hK hP (ci := 6) (q0 := 1) rfl rgL4_60d974a, fun U hU hW => ⟨rfl, by rw [hU], atB hU hPc, va_K.moved hW.alike hKc, hDc.weaken (fun _ _ _ _ => trivial), hE.go hS hFc hU hW⟩⟩ rfl rfl hl.1 rfl (lv_room (Nat.le_of_ble_eq_true rfl)) dX5_readNumber_60 ⟨Nat.le_of_ble_eq_true rfl, Nat.le_of_ble_eq_true rfl⟩) hS (fun q _ h => hFc q h) hFc (fun u7 t H1 locs ht hvm h_u7 hB hz1 hk1 hS => ?_)
      obtain ⟨za0_3_9, za0_4_10, za0_5_11, za0_6_12, za0_7_13, hF14, hF15, hP1, hK1, hD1⟩ := hB
      have hK1 := va_K.moved hvm.symm hK1
      have hJ9 := rgJ4_484dfc6 hP hD hk1 hFc (atH ht hP1) hD1
      clear hP hD hPc hKc hDc hFc hP1 hD1 hk1 hz1
      obtain ⟨hP, hD⟩ := hJ9
      clear hK1
      generalize H1 = H at hP hS ⊢
      refine W.widen (k := 0) (n := 0) (Nat.le_of_ble_eq_true rfl) (Nat.le_of_ble_eq_true rfl) ?_
      refine lv_iload_n hx hb dX5_readNumber_63 rfl (lv_at hl 0 rfl) ?_
      refine W.widen (k := 0) (n := 0) (Nat.le_of_ble_eq_true rfl) (Nat.le_of_ble_eq_true rfl) ?_
      have hP9 := hP
      have hD9 := hD
      have hK9 := (rgK2_b4df2fa hK)
      have hf9_0 : (0 ≤ za0_3_9.toInt ∧ za0_3_9.toInt ≤ 1000) := by omega
      have hf9_1 : (0 ≤ za0_5_11.toInt ∧ za0_5_11.toInt ≤ 1000) := by omega
      have hf9_2 : (a0_5.toInt ≠ -1 → za0_5_5.toInt ≠ -1) := by omega
      exact W.iret (v := a0_0_7) hx hb hr (fun t ht hW => ⟨⟨a0_0_7, a0_0_7, rfl, rfl, za0_5_5, za0_3_9, za0_4_10, za0_5_11, za0_6_12, za0_7_13, hf9_0, hf9_1, hf9_2, atB ht hP9, va_K.moved hW.alike hK9, hD9⟩, hS.F ht⟩) hS.2.2 dX5_readNumber_64
    · have c36_2 : ¬ (a0_0_7.toInt < a1.toInt) := mt (cv_lt rfl rfl).mpr c36_2
      refine lv_iload_n hx hb dX5_readNumber_39 rfl (lv_at hl 0 rfl) ?_
      refine lv_iload_n hx hb dX5_readNumber_40 rfl (lv_at hl 3 rfl) ?_
      refine lv_icmp_le (tgt := 56) hx hb dX5_readNumber_41 (by decide) (fun c41_16 => ?_) (fun c41_16 => ?_)
      · have c41_16 : a0_0_7.toInt ≤ a2.toInt := (cv_le rfl rfl).mp c41_16
        refine lv_aload_n hx hb dX5_readNumber_56 rfl (lv_at hl 1 rfl) ?_
        refine va_get (D := (dC, dI)) (ci := 4) (v := .ref a0_0) (C := RX5) (T := TX5) (N := 6) hx hb hts inlX5 hown hK hP 0 rgL4_25bb07f rfl 0 (by decide) (hts (.fieldLink RX5 12 "ClosedUntil$TextReader" "tokens" "LClosedUntil$Tokens;") qw_98) (fun _ h9 => h9) rfl dX5_readNumber_57 ?_
        have hPc := (rgP4_55f25ec hP)
        have hKc := hK
        have hDc := (rgD4_5354514 hD)
        have hFc := freeW hDc hS hA
        refine va_callv (va_runVN (As := []) (rest := []) ⟨hx, hb, hml, hown, hts⟩ (k_X7_advance l dC dI g s.heap.size (a0_0) (a0_0_0) (a0_0_1) (a0_0_2) (a0_0_3) (a0_0_4) (a0_0_5) (a0_0_6) (a0_0_7) (a0_0_0_c) (a0_0_0_f) (a0_0_1_c) (a0_0_1_f) (by omega) (by omega) (by omega)) ⟨va_cnB 0 hts (gwC qw_93) rfl rfl rfl (nm_13 hN) (hts (.initialized RX7) qw_70) (by decide +kernel) ⟨Nat.le_of_ble_eq_true rfl, Nat.le_of_ble_eq_true rfl⟩, (hts (.instanceMethod yX7_advance) qw_95), (hts (.selects RX7 yX7_advance yX7_advance) qw_96)⟩ ⟨fun a U g9 mk q => ⟨q.1, q.2.1, q.2.2.1, va_K.moved (u := U) (U := U.calling g9 mk a) (Vm.Alike.refl U.vm) q.2.2.2.1, q.2.2.2.2.1, Ev.bl q.2.2.2.2.2⟩, va_recv hK hP (ci := 6) (q0 := 1) rfl rgL4_60d974a, fun U hU hW => ⟨rfl, by rw [hU], atB hU hPc, va_K.moved hW.alike hKc, hDc.weaken (fun _ _ _ _ => trivial), hE.go hS hFc hU hW⟩⟩ rfl rfl hl.1 rfl (lv_room (Nat.le_of_ble_eq_true rfl)) dX5_readNumber_60 ⟨Nat.le_of_ble_eq_true rfl, Nat.le_of_ble_eq_true rfl⟩) hS (fun q _ h => hFc q h) hFc (fun u17 t H1 locs ht hvm h_u17 hB hz1 hk1 hS => ?_)
        obtain ⟨za0_3_19, za0_4_20, za0_5_21, za0_6_22, za0_7_23, hF24, hF25, hP1, hK1, hD1⟩ := hB
        have hK1 := va_K.moved hvm.symm hK1
        have hJ9 := rgJ4_484dfc6 hP hD hk1 hFc (atH ht hP1) hD1
        clear hP hD hPc hKc hDc hFc hP1 hD1 hk1 hz1
        obtain ⟨hP, hD⟩ := hJ9
        clear hK1
        generalize H1 = H at hP hS ⊢
        refine W.widen (k := 0) (n := 0) (Nat.le_of_ble_eq_true rfl) (Nat.le_of_ble_eq_true rfl) ?_
        refine lv_iload_n hx hb dX5_readNumber_63 rfl (lv_at hl 0 rfl) ?_
        refine W.widen (k := 0) (n := 0) (Nat.le_of_ble_eq_true rfl) (Nat.le_of_ble_eq_true rfl) ?_
        have hP9 := hP
        have hD9 := hD
        have hK9 := (rgK2_b4df2fa hK)
        have hf9_0 : (0 ≤ za0_3_19.toInt ∧ za0_3_19.toInt ≤ 1000) := by omega
        have hf9_1 : (0 ≤ za0_5_21.toInt ∧ za0_5_21.toInt ≤ 1000) := by omega
        have hf9_2 : (a0_5.toInt ≠ -1 → a0_5.toInt ≠ -1) := by omega
        exact W.iret (v := a0_0_7) hx hb hr (fun t ht hW => ⟨⟨a0_0_7, a0_0_7, rfl, rfl, a0_5, za0_3_19, za0_4_20, za0_5_21, za0_6_22, za0_7_23, hf9_0, hf9_1, hf9_2, atB ht hP9, va_K.moved hW.alike hK9, hD9⟩, hS.F ht⟩) hS.2.2 dX5_readNumber_64
      · have c41_16 : ¬ (a0_0_7.toInt ≤ a2.toInt) := mt (cv_le rfl rfl).mpr c41_16
        refine lv_aload_n hx hb dX5_readNumber_44 rfl (lv_at hl 1 rfl) ?_
        refine lv_iconst (v := 4) hx hb dX5_readNumber_45 (by decide) ?_
        refine lv_aload_n hx hb dX5_readNumber_46 rfl (lv_at hl 1 rfl) ?_
        refine va_get (D := (dC, dI)) (ci := 4) (v := .ref a0_0) (C := RX5) (T := TX5) (N := 6) hx hb hts inlX5 hown hK hP 0 rgL4_25bb07f rfl 0 (by decide) (hts (.fieldLink RX5 12 "ClosedUntil$TextReader" "tokens" "LClosedUntil$Tokens;") qw_98) (fun _ h9 => h9) rfl dX5_readNumber_47 ?_
        refine va_getN (D := (dC, dI)) (ci := 6) (v := .int a0_0_5) (C := RX7) (T := TX7) (N := 8) hx hb hts inlX7 hown hK hP 1 rgL4_60d974a rfl 5 (by decide) (va_Nw.use rfl (nf_3 hN)) (fun _ h9 => h9) rfl dX5_readNumber_50 ?_
        have qc4 : (4 : Int32).toInt = 4 := by decide
        have hPc := (rgP4_afa90ad hP)
        have hKc := (rgK2_b4df2fa hK)
        have hDc := (rgD4_a246c7e hD)
        have hFc := freeW hDc hS hA
        refine va_callv (va_runV (As := [.int 4, .int a0_0_5]) (rest := []) ⟨hx, hb, hml, hown, hts⟩ (k_X5_fail l dC dI g s.heap.size (a0) (4) (a0_0_5) (a0_0) (a0_1) (a0_2) (a0_3) (a0_4) (a0_5) (by omega) (by omega) (by omega)) (cwV 2 hts (gwV qw_105 qw_106 qw_107 qw_100 qw_104) rfl rfl rfl (by decide +kernel) ⟨Nat.le_of_ble_eq_true rfl, Nat.le_of_ble_eq_true rfl⟩) ⟨fun a U g9 mk q => ⟨q.1, q.2.1, q.2.2.1, va_K.moved (u := U) (U := U.calling g9 mk a) (Vm.Alike.refl U.vm) q.2.2.2.1, q.2.2.2.2.1, Ev.bl q.2.2.2.2.2⟩, va_recv hK hP (ci := 4) (q0 := 0) rfl rgL4_25bb07f, fun U hU hW => ⟨rfl, by rw [hU], atB hU hPc, va_K.moved hW.alike hKc, hDc.weaken (fun _ _ _ _ => trivial), hE.go hS hFc hU hW⟩⟩ rfl rfl hl.1 rfl (lv_room (Nat.le_of_ble_eq_true rfl)) dX5_readNumber_53 ⟨Nat.le_of_ble_eq_true rfl, Nat.le_of_ble_eq_true rfl⟩) hS (fun q _ h => hFc q h) hFc (fun u26 t H1 locs ht hvm h_u26 hB hz1 hk1 hS => ?_)
        obtain ⟨za0_5_28, hF29, hP1, hK1, hD1⟩ := hB
        have hK1 := va_K.moved hvm.symm hK1
        have hJ9 := rgJ4_202d814 hP hD hk1 hFc (atH ht hP1) hD1
        clear hP hD hPc hKc hDc hFc hP1 hD1 hk1 hz1
        obtain ⟨hP, hD⟩ := hJ9
        clear hK1
        generalize H1 = H at hP hS ⊢
        refine W.widen (k := 0) (n := 0) (Nat.le_of_ble_eq_true rfl) (Nat.le_of_ble_eq_true rfl) ?_
        refine lv_aload_n hx hb dX5_readNumber_56 rfl (lv_at hl 1 rfl) ?_
        refine va_get (D := (dC, dI)) (ci := 4) (v := .ref a0_0) (C := RX5) (T := TX5) (N := 6) hx hb hts inlX5 hown hK hP 0 rgL4_25bb07f rfl 0 (by decide) (hts (.fieldLink RX5 12 "ClosedUntil$TextReader" "tokens" "LClosedUntil$Tokens;") qw_98) (fun _ h9 => h9) rfl dX5_readNumber_57 ?_
        have hPc := (rgP4_55f25ec hP)
        have hKc := hK
        have hDc := (rgD4_5354514 hD)
        have hFc := freeW hDc hS hA
        refine va_callv (va_runVN (As := []) (rest := []) ⟨hx, hb, hml, hown, hts⟩ (k_X7_advance l dC dI g H.size (a0_0) (a0_0_0) (a0_0_1) (a0_0_2) (a0_0_3) (a0_0_4) (a0_0_5) (a0_0_6) (a0_0_7) (a0_0_0_c) (a0_0_0_f) (a0_0_1_c) (a0_0_1_f) (by omega) (by omega) (by omega)) ⟨va_cnB 0 hts (gwC qw_93) rfl rfl rfl (nm_13 hN) (hts (.initialized RX7) qw_70) (by decide +kernel) ⟨Nat.le_of_ble_eq_true rfl, Nat.le_of_ble_eq_true rfl⟩, (hts (.instanceMethod yX7_advance) qw_95), (hts (.selects RX7 yX7_advance yX7_advance) qw_96)⟩ ⟨fun a U g9 mk q => ⟨q.1, q.2.1, q.2.2.1, va_K.moved (u := U) (U := U.calling g9 mk a) (Vm.Alike.refl U.vm) q.2.2.2.1, q.2.2.2.2.1, Ev.bl q.2.2.2.2.2⟩, va_recv hK hP (ci := 6) (q0 := 1) rfl rgL4_60d974a, fun U hU hW => ⟨rfl, by rw [hU], atB hU hPc, va_K.moved hW.alike hKc, hDc.weaken (fun _ _ _ _ => trivial), hE.go hS hFc hU hW⟩⟩ rfl rfl hl.1 rfl (lv_room (Nat.le_of_ble_eq_true rfl)) dX5_readNumber_60 ⟨Nat.le_of_ble_eq_true rfl, Nat.le_of_ble_eq_true rfl⟩) hS (fun q _ h => hFc q h) hFc (fun u30 t H1 locs ht hvm h_u30 hB hz1 hk1 hS => ?_)
        obtain ⟨za0_3_32, za0_4_33, za0_5_34, za0_6_35, za0_7_36, hF37, hF38, hP1, hK1, hD1⟩ := hB
        have hK1 := va_K.moved hvm.symm hK1
        have hJ9 := rgJ4_484dfc6 hP hD hk1 hFc (atH ht hP1) hD1
        clear hP hD hPc hKc hDc hFc hP1 hD1 hk1 hz1
        obtain ⟨hP, hD⟩ := hJ9
        clear hK1
        generalize H1 = H at hP hS ⊢
        refine W.widen (k := 0) (n := 0) (Nat.le_of_ble_eq_true rfl) (Nat.le_of_ble_eq_true rfl) ?_
        refine lv_iload_n hx hb dX5_readNumber_63 rfl (lv_at hl 0 rfl) ?_
        refine W.widen (k := 0) (n := 0) (Nat.le_of_ble_eq_true rfl) (Nat.le_of_ble_eq_true rfl) ?_
        have hP9 := hP
        have hD9 := hD
        have hK9 := (rgK2_b4df2fa hK)
        have hf9_0 : (0 ≤ za0_3_32.toInt ∧ za0_3_32.toInt ≤ 1000) := by omega
        have hf9_1 : (0 ≤ za0_5_34.toInt ∧ za0_5_34.toInt ≤ 1000) := by omega
        have hf9_2 : (a0_5.toInt ≠ -1 → za0_5_28.toInt ≠ -1) := by omega
        exact W.iret (v := a0_0_7) hx hb hr (fun t ht hW => ⟨⟨a0_0_7, a0_0_7, rfl, rfl, za0_5_28, za0_3_32, za0_4_33, za0_5_34, za0_6_35, za0_7_36, hf9_0, hf9_1, hf9_2, atB ht hP9, va_K.moved hW.alike hK9, hD9⟩, hS.F ht⟩) hS.2.2 dX5_readNumber_64
  · have c9_1 : ¬ (a0_0_4.toInt = 13) := mt (cv_eq rfl (by decide)).mpr c9_1
    refine lv_aload_n hx hb dX5_readNumber_12 rfl (lv_at hl 0 rfl) ?_
    refine lv_iconst (v := 1) hx hb dX5_readNumber_13 (by decide) ?_
    refine lv_aload_n hx hb dX5_readNumber_14 rfl (lv_at hl 0 rfl) ?_
    refine va_get (D := (dC, dI)) (ci := 4) (v := .ref a0_0) (C := RX5) (T := TX5) (N := 6) hx hb hts inlX5 hown hK hP 0 rgL4_25bb07f rfl 0 (by decide) (hts (.fieldLink RX5 12 "ClosedUntil$TextReader" "tokens" "LClosedUntil$Tokens;") qw_98) (fun _ h9 => h9) rfl dX5_readNumber_15 ?_
    refine va_getN (D := (dC, dI)) (ci := 6) (v := .int a0_0_5) (C := RX7) (T := TX7) (N := 8) hx hb hts inlX7 hown hK hP 1 rgL4_60d974a rfl 5 (by decide) (va_Nw.use rfl (nf_3 hN)) (fun _ h9 => h9) rfl dX5_readNumber_18 ?_
    have qc1 : (1 : Int32).toInt = 1 := by decide
    have hPc := (rgP4_afa90ad hP)
    have hKc := (rgK2_b4df2fa hK)
    have hDc := (rgD4_a246c7e hD)
    have hFc := freeW hDc hS hA
    refine va_callv (va_runV (As := [.int 1, .int a0_0_5]) (rest := []) ⟨hx, hb, hml, hown, hts⟩ (k_X5_fail l dC dI g s.heap.size (a0) (1) (a0_0_5) (a0_0) (a0_1) (a0_2) (a0_3) (a0_4) (a0_5) (by omega) (by omega) (by omega)) (cwV 2 hts (gwV qw_105 qw_106 qw_107 qw_100 qw_104) rfl rfl rfl (by decide +kernel) ⟨Nat.le_of_ble_eq_true rfl, Nat.le_of_ble_eq_true rfl⟩) ⟨fun a U g9 mk q => ⟨q.1, q.2.1, q.2.2.1, va_K.moved (u := U) (U := U.calling g9 mk a) (Vm.Alike.refl U.vm) q.2.2.2.1, q.2.2.2.2.1, Ev.bl q.2.2.2.2.2⟩, va_recv hK hP (ci := 4) (q0 := 0) rfl rgL4_25bb07f, fun U hU hW => ⟨rfl, by rw [hU], atB hU hPc, va_K.moved hW.alike hKc, hDc.weaken (fun _ _ _ _ => trivial), hE.go hS hFc hU hW⟩⟩ rfl rfl hl.1 rfl (lv_room (Nat.le_of_ble_eq_true rfl)) dX5_readNumber_21 ⟨Nat.le_of_ble_eq_true rfl, Nat.le_of_ble_eq_true rfl⟩) hS (fun q _ h => hFc q h) hFc (fun u39 t H1 locs ht hvm h_u39 hB hz1 hk1 hS => ?_)
    obtain ⟨za0_5_41, hF42, hP1, hK1, hD1⟩ := hB
    have hK1 := va_K.moved hvm.symm hK1
    have hJ9 := rgJ4_202d814 hP hD hk1 hFc (atH ht hP1) hD1
    clear hP hD hPc hKc hDc hFc hP1 hD1 hk1 hz1
    obtain ⟨hP, hD⟩ := hJ9
    clear hK1
    generalize H1 = H at hP hS ⊢
    refine W.widen (k := 0) (n := 0) (Nat.le_of_ble_eq_true rfl) (Nat.le_of_ble_eq_true rfl) ?_
    refine lv_iconst (v := (-1)) hx hb dX5_readNumber_24 (by decide) ?_
    have qcm1 : ((-1) : Int32).toInt = (-1) := by decide
    refine W.widen (k := 0) (n := 0) (Nat.le_of_ble_eq_true rfl) (Nat.le_of_ble_eq_true rfl) ?_
    have hP9 := hP
    have hD9 := hD
    have hK9 := (rgK2_b4df2fa hK)
    have hf9_0 : (0 ≤ a0_0_3.toInt ∧ a0_0_3.toInt ≤ 1000) := by omega
    have hf9_1 : (0 ≤ a0_0_5.toInt ∧ a0_0_5.toInt ≤ 1000) := by omega
    have hf9_2 : (a0_5.toInt ≠ -1 → za0_5_41.toInt ≠ -1) := by omega
    exact W.iret (v := (-1)) hx hb hr (fun t ht hW => ⟨⟨(-1), (-1), rfl, rfl, za0_5_41, a0_0_3, a0_0_4, a0_0_5, a0_0_6, a0_0_7, hf9_0, hf9_1, hf9_2, atB ht hP9, va_K.moved hW.alike hK9, hD9⟩, hS.F ht⟩) hS.2.2 dX5_readNumber_25
set_option maxHeartbeats 4000000 in
set_option maxRecDepth 100000 in
theorem k_X5_readDate (l : Launch) (dC : Nat → ClassId) (dI : Nat → Nat → Nat) (g : Gv) (sz : Nat) (a0 : Nat) (a0_0 : Nat) (a0_1 : Nat) (a0_2 : Nat) (a0_3 : Nat) (a0_4 : Int32) (a0_5 : Int32) (a0_0_0 : Nat) (a0_0_1 : Nat) (a0_0_2 : Int32) (a0_0_3 : Int32) (a0_0_4 : Int32) (a0_0_5 : Int32) (a0_0_6 : Int64) (a0_0_7 : Int32) (a0_0_0_c : ClassId) (a0_0_0_f : Nat → Int64) (a0_0_1_c : ClassId) (a0_0_1_f : Nat → Int32) (h_a0_4 : 0 ≤ a0_4.toInt ∧ a0_4.toInt ≤ 36) (h_a0_0_2 : 0 ≤ a0_0_2.toInt ∧ a0_0_2.toInt ≤ 1000) (h_a0_0_3 : 0 ≤ a0_0_3.toInt ∧ a0_0_3.toInt ≤ 1000) (h_a0_0_5 : 0 ≤ a0_0_5.toInt ∧ a0_0_5.toInt ≤ 1000) : Met l yX5_readDate (.code yX5_readDate cX5_readDate 4 (some .int) :: TBL) ({ frames := 4, cells := 0, slots := 0, locals := 86 }) (va_Pc [.ref a0] (fun U => U.heap.size = sz ∧ va_P (dC, dI) vwCl [(a0, .inr (4, [.ref a0_0, .ref a0_1, .ref a0_2, .ref a0_3, .int a0_4, .int a0_5])), (a0_0, .inr (6, [.ref a0_0_0, .ref a0_0_1, .int a0_0_2, .int a0_0_3, .int a0_0_4, .int a0_0_5, .long a0_0_6, .int a0_0_7])), (a0_0_0, .inl (a0_0_0_c, 12, .inr (.inl a0_0_0_f))), (a0_0_1, .inl (a0_0_1_c, 1000, .inl a0_0_1_f))] U.heap ∧ va_K (dC, dI) vwCl [(a0_0_0_c, .long), (a0_0_1_c, .byte)] U ∧ va_D (fun _ => True) [(a0, .inr (4, [.ref a0_0, .ref a0_1, .ref a0_2, .ref a0_3, .int a0_4, .int a0_5])), (a0_0, .inr (6, [.ref a0_0_0, .ref a0_0_1, .int a0_0_2, .int a0_0_3, .int a0_0_4, .int a0_0_5, .long a0_0_6, .int a0_0_7])), (a0_0_0, .inl (a0_0_0_c, 12, .inr (.inl a0_0_0_f))), (a0_0_1, .inl (a0_0_1_c, 1000, .inl a0_0_1_f))] ∧ Ev g (va_A [(a0, .inr (4, [.ref a0_0, .ref a0_1, .ref a0_2, .ref a0_3, .int a0_4, .int a0_5])), (a0_0, .inr (6, [.ref a0_0_0, .ref a0_0_1, .int a0_0_2, .int a0_0_3, .int a0_0_4, .int a0_0_5, .long a0_0_6, .int a0_0_7])), (a0_0_0, .inl (a0_0_0_c, 12, .inr (.inl a0_0_0_f))), (a0_0_1, .inl (a0_0_1_c, 1000, .inl a0_0_1_f))] sz) U)) (va_Qi (fun (r : Int32) (u : Int32) => u = r) (fun (u : Int32) (t : State) => ∃ (za0_5 : Int32) (za0_0_3 : Int32) (za0_0_4 : Int32) (za0_0_5 : Int32) (za0_0_6 : Int64) (za0_0_7 : Int32), (0 ≤ za0_0_3.toInt ∧ za0_0_3.toInt ≤ 1000) ∧ (0 ≤ za0_0_5.toInt ∧ za0_0_5.toInt ≤ 1000) ∧ (a0_5.toInt ≠ -1 → za0_5.toInt ≠ -1) ∧ va_P (dC, dI) vwCl [(a0, .inr (4, [.ref a0_0, .ref a0_1, .ref a0_2, .ref a0_3, .int a0_4, .int za0_5])), (a0_0, .inr (6, [.ref a0_0_0, .ref a0_0_1, .int a0_0_2, .int za0_0_3, .int za0_0_4, .int za0_0_5, .long za0_0_6, .int za0_0_7])), (a0_0_0, .inl (a0_0_0_c, 12, .inr (.inl a0_0_0_f))), (a0_0_1, .inl (a0_0_1_c, 1000, .inl a0_0_1_f))] t.heap ∧ va_K (dC, dI) vwCl [] t ∧ va_D (va_A [(a0, .inr (4, [.ref a0_0, .ref a0_1, .ref a0_2, .ref a0_3, .int a0_4, .int a0_5])), (a0_0, .inr (6, [.ref a0_0_0, .ref a0_0_1, .int a0_0_2, .int a0_0_3, .int a0_0_4, .int a0_0_5, .long a0_0_6, .int a0_0_7])), (a0_0_0, .inl (a0_0_0_c, 12, .inr (.inl a0_0_0_f))), (a0_0_1, .inl (a0_0_1_c, 1000, .inl a0_0_1_f))] sz) [(a0, .inr (4, [.ref a0_0, .ref a0_1, .ref a0_2, .ref a0_3, .int a0_4, .int za0_5])), (a0_0, .inr (6, [.ref a0_0_0, .ref a0_0_1, .int a0_0_2, .int za0_0_3, .int za0_0_4, .int za0_0_5, .long za0_0_6, .int za0_0_7])), (a0_0_0, .inl (a0_0_0_c, 12, .inr (.inl a0_0_0_f))), (a0_0_1, .inl (a0_0_1_c, 1000, .inl a0_0_1_f))]) (va_A [(a0, .inr (4, [.ref a0_0, .ref a0_1, .ref a0_2, .ref a0_3, .int a0_4, .int a0_5])), (a0_0, .inr (6, [.ref a0_0_0, .ref a0_0_1, .int a0_0_2, .int a0_0_3, .int a0_0_4, .int a0_0_5, .long a0_0_6, .int a0_0_7])), (a0_0_0, .inl (a0_0_0_c, 12, .inr (.inl a0_0_0_f))), (a0_0_1, .inl (a0_0_1_c, 1000, .inl a0_0_1_f))] sz)) 0 0 (va_A [(a0, .inr (4, [.ref a0_0, .ref a0_1, .ref a0_2, .ref a0_3, .int a0_4, .int a0_5])), (a0_0, .inr (6, [.ref a0_0_0, .ref a0_0_1, .int a0_0_2, .int a0_0_3, .int a0_0_4, .int a0_0_5, .long a0_0_6, .int a0_0_7])), (a0_0_0, .inl (a0_0_0_c, 12, .inr (.inl a0_0_0_f))), (a0_0_1, .inl (a0_0_1_c, 1000, .inl a0_0_1_f))] sz) := by
  refine Met.ofW (cc := cX5_readDate) (maxL := 4) (ret := (some .int)) (by decide) rfl ?_
  intro p e s m args below meth c s₁ B hml hv
  obtain ⟨rfl, hsz, hP, hK, hD0, hE⟩ := hv
  have hx := B.exec
  have hb := B.bytes
  have hr := B.returns
  have hts0 := atoms_spec (ws := (.code yX5_readDate cX5_readDate 4 (some .int) :: TBL)) B.pre
  have hts := fun (w : Cond) (h : w ∈ TBL) => hts0 w (List.mem_cons_of_mem _ h)
  have hown : s.vm.findClass RX5 = some m.cls := findClass_of_methodNamed B.named
  have hlocks := B.notSynchronized
  have hN := hE.1
  subst hsz
  have hD := hD0.self (sz := s.heap.size)
  generalize hAe : va_A [(a0, .inr (4, [.ref a0_0, .ref a0_1, .ref a0_2, .ref a0_3, .int a0_4, .int a0_5])), (a0_0, .inr (6, [.ref a0_0_0, .ref a0_0_1, .int a0_0_2, .int a0_0_3, .int a0_0_4, .int a0_0_5, .long a0_0_6, .int a0_0_7])), (a0_0_0, .inl (a0_0_0_c, 12, .inr (.inl a0_0_0_f))), (a0_0_1, .inl (a0_0_1_c, 1000, .inl a0_0_1_f))] s.heap.size = A at hD hE ⊢
  have hA : ∀ q : Nat, s.heap.size ≤ q → A q := fun q h => by rw [← hAe]; exact Or.inr h
  have hS : va_S A s.heap s.heap [] := va_S.rf
  replace hP : va_P (dC, dI) vwCl [(a0, .inr (4, [.ref a0_0, .ref a0_1, .ref a0_2, .ref a0_3, .int a0_4, .int a0_5])), (a0_0, .inr (6, [.ref a0_0_0, .ref a0_0_1, .int a0_0_2, .int a0_0_3, .int a0_0_4, .int a0_0_5, .long a0_0_6, .int a0_0_7])), (a0_0_0, .inl (a0_0_0_c, 12, .inr (.inl a0_0_0_f))), (a0_0_1, .inl (a0_0_1_c, 1000, .inl a0_0_1_f))] s.heap := hP
  have hl := lv_entry ([.ref a0]) (n := 4) (Nat.le_of_ble_eq_true rfl)
  rw [lg_entry_eq]
  generalize (lg_sl ([.ref a0]) ++ List.replicate (4 - (lg_sl ([.ref a0])).length) Slot.unset).toArray = ls at hl ⊢
  have hl : lv_has ls 4 [(0, .ref a0)] := hl
  have b_a0_5 := i32b a0_5
  have b_a0_0_4 := i32b a0_0_4
  have b_a0_0_7 := i32b a0_0_7
  refine lv_aload_n hx hb dX5_readDate_0 rfl (lv_at hl 0 rfl) ?_
  refine lv_sipush (v := 1700) hx hb dX5_readDate_1 (by decide) ?_
  refine lv_sipush (v := 2299) hx hb dX5_readDate_4 (by decide) ?_
  have qc1700 : (1700 : Int32).toInt = 1700 := by decide
  have qc2299 : (2299 : Int32).toInt = 2299 := by decide
  have hPc := hP
  have hKc := hK
  have hDc := hD
  have hFc := freeW hDc hS hA
  refine va_calli (va_runV (As := [.int 1700, .int 2299]) (rest := []) ⟨hx, hb, hml, hown, hts⟩ (k_X5_readNumber l dC dI g s.heap.size (a0) (1700) (2299) (a0_0) (a0_1) (a0_2) (a0_3) (a0_4) (a0_5) (a0_0_0) (a0_0_1) (a0_0_2) (a0_0_3) (a0_0_4) (a0_0_5) (a0_0_6) (a0_0_7) (a0_0_0_c) (a0_0_0_f) (a0_0_1_c) (a0_0_1_f) (by omega) (by omega) (by omega) (by omega)) (cwV 2 hts (gwV qw_117 qw_118 qw_119 qw_100 qw_116) rfl rfl rfl (by decide +kernel) ⟨Nat.le_of_ble_eq_true rfl, Nat.le_of_ble_eq_true rfl⟩) ⟨fun a U g9 mk q => ⟨q.1, q.2.1, q.2.2.1, va_K.moved (u := U) (U := U.calling g9 mk a) (Vm.Alike.refl U.vm) q.2.2.2.1, q.2.2.2.2.1, Ev.bl q.2.2.2.2.2⟩, va_recv hK hP (ci := 4) (q0 := 0) rfl rgL4_25bb07f, fun U hU hW => ⟨rfl, by rw [hU], atB hU hPc, va_K.moved hW.alike hKc, hDc.weaken (fun _ _ _ _ => trivial), hE.go hS hFc hU hW⟩⟩ rfl rfl hl.1 rfl (lv_room (Nat.le_of_ble_eq_true rfl)) dX5_readDate_7 ⟨Nat.le_of_ble_eq_true rfl, Nat.le_of_ble_eq_true rfl⟩) hS (fun q _ h => hFc q h) hFc (fun r2 u1 t H1 locs ht hvm h_u1 hB hz1 hk1 hS => ?_)
  obtain ⟨za0_5_3, za0_0_3_4, za0_0_4_5, za0_0_5_6, za0_0_6_7, za0_0_7_8, hF9, hF10, hF11, hP1, hK1, hD1⟩ := hB
  have hK1 := va_K.moved hvm.symm hK1
  have hJ9 := rgJ4_df87ba1 hP hD hk1 hFc (atH ht hP1) hD1
  clear hP hD hPc hKc hDc hFc hP1 hD1 hk1 hz1
  obtain ⟨hP, hD⟩ := hJ9
  clear hK1
  generalize H1 = H at hP hS ⊢
  refine W.widen (k := 0) (n := 0) (Nat.le_of_ble_eq_true rfl) (Nat.le_of_ble_eq_true rfl) ?_
  have h_r2 := congrArg Int32.toInt h_u1
  have b_r2 := i32b r2
  refine lv_istore_n (lv' := [(1, .int r2), (0, .ref a0)]) hx hb dX5_readDate_10 rfl hl (by decide) rfl (fun ls hl => ?_)
  refine lv_aload_n hx hb dX5_readDate_11 rfl (lv_at hl 1 rfl) ?_
  refine lv_iconst (v := 1) hx hb dX5_readDate_12 (by decide) ?_
  refine va_getsN hx hb hE.2.1 hS hown (va_Nw.use rfl (nf_61 hN)) (fun _ h9 => h9) dX5_readDate_13 ?_
  refine va_tlen hx hb hE.2.2.1 hS (v := 12) (by decide) dX5_readDate_16 ?_
  have qc1 : (1 : Int32).toInt = 1 := by decide
  have qc12 : (12 : Int32).toInt = 12 := by decide
  have hPc := hP
  have hKc := hK
  have hDc := hD
  have hFc := freeW hDc hS hA
  refine va_calli (va_runV (As := [.int 1, .int 12]) (rest := []) ⟨hx, hb, hml, hown, hts⟩ (k_X5_readNumber l dC dI g H.size (a0) (1) (12) (a0_0) (a0_1) (a0_2) (a0_3) (a0_4) (za0_5_3) (a0_0_0) (a0_0_1) (a0_0_2) (za0_0_3_4) (za0_0_4_5) (za0_0_5_6) (za0_0_6_7) (za0_0_7_8) (a0_0_0_c) (a0_0_0_f) (a0_0_1_c) (a0_0_1_f) (by omega) (by omega) (by omega) (by omega)) (cwV 2 hts (gwV qw_117 qw_118 qw_119 qw_100 qw_116) rfl rfl rfl (by decide +kernel) ⟨Nat.le_of_ble_eq_true rfl, Nat.le_of_ble_eq_true rfl⟩) ⟨fun a U g9 mk q => ⟨q.1, q.2.1, q.2.2.1, va_K.moved (u := U) (U := U.calling g9 mk a) (Vm.Alike.refl U.vm) q.2.2.2.1, q.2.2.2.2.1, Ev.bl q.2.2.2.2.2⟩, va_recv hK hP (ci := 4) (q0 := 0) rfl rgL4_25bb07f, fun U hU hW => ⟨rfl, by rw [hU], atB hU hPc, va_K.moved hW.alike hKc, hDc.weaken (fun _ _ _ _ => trivial), hE.go hS hFc hU hW⟩⟩ rfl rfl hl.1 rfl (lv_room (Nat.le_of_ble_eq_true rfl)) dX5_readDate_17 ⟨Nat.le_of_ble_eq_true rfl, Nat.le_of_ble_eq_true rfl⟩) hS (fun q _ h => hFc q h) hFc (fun r13 u12 t H1 locs ht hvm h_u12 hB hz1 hk1 hS => ?_)
  obtain ⟨za0_5_14, za0_0_3_15, za0_0_4_16, za0_0_5_17, za0_0_6_18, za0_0_7_19, hF20, hF21, hF22, hP1, hK1, hD1⟩ := hB
  have hK1 := va_K.moved hvm.symm hK1
  have hJ9 := rgJ4_df87ba1 hP hD hk1 hFc (atH ht hP1) hD1
  clear hP hD hPc hKc hDc hFc hP1 hD1 hk1 hz1
  obtain ⟨hP, hD⟩ := hJ9
  clear hK1
  generalize H1 = H at hP hS ⊢
  refine W.widen (k := 0) (n := 0) (Nat.le_of_ble_eq_true rfl) (Nat.le_of_ble_eq_true rfl) ?_
  have h_r13 := congrArg Int32.toInt h_u12
  have b_r13 := i32b r13
  refine lv_istore_n (lv' := [(2, .int r13), (1, .int r2), (0, .ref a0)]) hx hb dX5_readDate_20 rfl hl (by decide) rfl (fun ls hl => ?_)
  refine lv_aload_n hx hb dX5_readDate_21 rfl (lv_at hl 2 rfl) ?_
  refine lv_iconst (v := 1) hx hb dX5_readDate_22 (by decide) ?_
  refine lv_iload_n hx hb dX5_readDate_23 rfl (lv_at hl 1 rfl) ?_
  refine lv_iload_n hx hb dX5_readDate_24 rfl (lv_at hl 0 rfl) ?_
  have hPc := (rgP4_4a5626e hP)
  have hKc := (rgK2_b4df2fa hK)
  refine vp_callSi ((va_runSN (As := [.int r2, .int r13]) (rest := [.int 1, .ref a0]) ⟨hx, hb, hml, hown, hts⟩ (k_X0_monthLength l dC dI g (r2) (r13) ) ⟨va_cnB 2 hts (gwC qw_2) rfl rfl rfl (nm_14 hN) (hts (.initialized RX0) qw_3) (by decide +kernel) ⟨Nat.le_of_ble_eq_true rfl, Nat.le_of_ble_eq_true rfl⟩, (hts (.static yX0_monthLength) qw_5), trivial⟩ ⟨fun a U g9 mk q => ⟨q.1, q.2.1, va_K.moved (u := U) (U := U.calling g9 mk a) (Vm.Alike.refl U.vm) q.2.2.1, Ev.bl q.2.2.2⟩, fun U hU hW => ⟨rfl, atB hU hPc, va_K.moved hW.alike hKc, hE.go hS (fun _ h => h.elim) hU hW⟩⟩ rfl rfl hl.1 rfl (lv_room (Nat.le_of_ble_eq_true rfl)) dX5_readDate_25 ⟨Nat.le_of_ble_eq_true rfl, Nat.le_of_ble_eq_true rfl⟩)).run (fun r23 h_r23 => ?_)
  have b_r23 := i32b r23
  have qc1 : (1 : Int32).toInt = 1 := by decide
  have hPc := hP
  have hKc := hK
  have hDc := hD
  have hFc := freeW hDc hS hA
  refine va_calli (va_runV (As := [.int 1, .int r23]) (rest := []) ⟨hx, hb, hml, hown, hts⟩ (k_X5_readNumber l dC dI g H.size (a0) (1) (r23) (a0_0) (a0_1) (a0_2) (a0_3) (a0_4) (za0_5_14) (a0_0_0) (a0_0_1) (a0_0_2) (za0_0_3_15) (za0_0_4_16) (za0_0_5_17) (za0_0_6_18) (za0_0_7_19) (a0_0_0_c) (a0_0_0_f) (a0_0_1_c) (a0_0_1_f) (by omega) (by omega) (by omega) (by omega)) (cwV 2 hts (gwV qw_117 qw_118 qw_119 qw_100 qw_116) rfl rfl rfl (by decide +kernel) ⟨Nat.le_of_ble_eq_true rfl, Nat.le_of_ble_eq_true rfl⟩) ⟨fun a U g9 mk q => ⟨q.1, q.2.1, q.2.2.1, va_K.moved (u := U) (U := U.calling g9 mk a) (Vm.Alike.refl U.vm) q.2.2.2.1, q.2.2.2.2.1, Ev.bl q.2.2.2.2.2⟩, va_recv hK hP (ci := 4) (q0 := 0) rfl rgL4_25bb07f, fun U hU hW => ⟨rfl, by rw [hU], atB hU hPc, va_K.moved hW.alike hKc, hDc.weaken (fun _ _ _ _ => trivial), hE.go hS hFc hU hW⟩⟩ rfl rfl hl.1 rfl (lv_room (Nat.le_of_ble_eq_true rfl)) dX5_readDate_28 ⟨Nat.le_of_ble_eq_true rfl, Nat.le_of_ble_eq_true rfl⟩) hS (fun q _ h => hFc q h) hFc (fun r25 u24 t H1 locs ht hvm h_u24 hB hz1 hk1 hS => ?_)
  obtain ⟨za0_5_26, za0_0_3_27, za0_0_4_28, za0_0_5_29, za0_0_6_30, za0_0_7_31, hF32, hF33, hF34, hP1, hK1, hD1⟩ := hB
  have hK1 := va_K.moved hvm.symm hK1
  have hJ9 := rgJ4_df87ba1 hP hD hk1 hFc (atH ht hP1) hD1
  clear hP hD hPc hKc hDc hFc hP1 hD1 hk1 hz1
  obtain ⟨hP, hD⟩ := hJ9
  clear hK1
  generalize H1 = H at hP hS ⊢
  refine W.widen (k := 0) (n := 0) (Nat.le_of_ble_eq_true rfl) (Nat.le_of_ble_eq_true rfl) ?_
  have h_r25 := congrArg Int32.toInt h_u24
  have b_r25 := i32b r25
  refine lv_istore_n (lv' := [(3, .int r25), (2, .int r13), (1, .int r2), (0, .ref a0)]) hx hb dX5_readDate_31 rfl hl (by decide) rfl (fun ls hl => ?_)
  refine lv_iload_n hx hb dX5_readDate_32 rfl (lv_at hl 2 rfl) ?_
  refine lv_iload_n hx hb dX5_readDate_33 rfl (lv_at hl 1 rfl) ?_
  refine lv_iload_n hx hb dX5_readDate_34 rfl (lv_at hl 0 rfl) ?_
  have hPc := (rgP4_4a5626e hP)
  have hKc := (rgK2_b4df2fa hK)
  refine vp_callSi ((va_runSN (As := [.int r2, .int r13, .int r25]) (rest := []) ⟨hx, hb, hml, hown, hts⟩ (k_X0_numberOf l dC dI g (r2) (r13) (r25) ) ⟨va_cnB 3 hts (gwC qw_19) rfl rfl rfl (nm_15 hN) (hts (.initialized RX0) qw_3) (by decide +kernel) ⟨Nat.le_of_ble_eq_true rfl, Nat.le_of_ble_eq_true rfl⟩, (hts (.static yX0_numberOf) qw_21), trivial⟩ ⟨fun a U g9 mk q => ⟨q.1, q.2.1, va_K.moved (u := U) (U := U.calling g9 mk a) (Vm.Alike.refl U.vm) q.2.2.1, Ev.bl q.2.2.2⟩, fun U hU hW => ⟨rfl, atB hU hPc, va_K.moved hW.alike hKc, hE.go hS (fun _ h => h.elim) hU hW⟩⟩ rfl rfl hl.1 rfl (lv_room (Nat.le_of_ble_eq_true rfl)) dX5_readDate_35 ⟨Nat.le_of_ble_eq_true rfl, Nat.le_of_ble_eq_true rfl⟩)).run (fun r35 h_r35 => ?_)
  have b_r35 := i32b r35
  refine W.widen (k := 0) (n := 0) (Nat.le_of_ble_eq_true rfl) (Nat.le_of_ble_eq_true rfl) ?_
  have hP9 := hP
  have hD9 := hD
  have hK9 := (rgK2_b4df2fa hK)
  have hf9_0 : (0 ≤ za0_0_3_27.toInt ∧ za0_0_3_27.toInt ≤ 1000) := by omega
  have hf9_1 : (0 ≤ za0_0_5_29.toInt ∧ za0_0_5_29.toInt ≤ 1000) := by omega
  have hf9_2 : (a0_5.toInt ≠ -1 → za0_5_26.toInt ≠ -1) := by omega
  exact W.iret (v := r35) hx hb hr (fun t ht hW => ⟨⟨r35, r35, rfl, rfl, za0_5_26, za0_0_3_27, za0_0_4_28, za0_0_5_29, za0_0_6_30, za0_0_7_31, hf9_0, hf9_1, hf9_2, atB ht hP9, va_K.moved hW.alike hK9, hD9⟩, hS.F ht⟩) hS.2.2 dX5_readDate_38
set_option maxHeartbeats 4000000 in
set_option maxRecDepth 100000 in
theorem k_X5_readYears (l : Launch) (dC : Nat → ClassId) (dI : Nat → Nat → Nat) (g : Gv) (sz : Nat) (a0 : Nat) (a1 : Nat) (a2 : Int32) (a0_0 : Nat) (a0_1 : Nat) (a0_2 : Nat) (a0_3 : Nat) (a0_4 : Int32) (a0_5 : Int32) (a0_0_0 : Nat) (a0_0_1 : Nat) (a0_0_2 : Int32) (a0_0_3 : Int32) (a0_0_4 : Int32) (a0_0_5 : Int32) (a0_0_6 : Int64) (a0_0_7 : Int32) (a0_0_0_c : ClassId) (a0_0_0_f : Nat → Int64) (a0_0_1_c : ClassId) (a0_0_1_f : Nat → Int32) (rows : va_W) (h_a0_4 : 0 ≤ a0_4.toInt ∧ a0_4.toInt ≤ 36) (h_a0_0_2 : 0 ≤ a0_0_2.toInt ∧ a0_0_2.toInt ≤ 1000) (h_a0_0_3 : 0 ≤ a0_0_3.toInt ∧ a0_0_3.toInt ≤ 1000) (h_a0_0_5 : 0 ≤ a0_0_5.toInt ∧ a0_0_5.toInt ≤ 1000) (h_a1 : RH g.2.2.2.2.1 3 a1 rows) : Met l yX5_readYears (.code yX5_readYears cX5_readYears 4 none :: TBL) ({ frames := 4, cells := 0, slots := 0, locals := 86 }) (va_Pc [.ref a0, .ref a1, .int a2] (fun U => U.heap.size = sz ∧ va_P (dC, dI) vwCl (([(a0, .inr (4, [.ref a0_0, .ref a0_1, .ref a0_2, .ref a0_3, .int a0_4, .int a0_5])), (a0_0, .inr (6, [.ref a0_0_0, .ref a0_0_1, .int a0_0_2, .int a0_0_3, .int a0_0_4, .int a0_0_5, .long a0_0_6, .int a0_0_7])), (a0_0_0, .inl (a0_0_0_c, 12, .inr (.inl a0_0_0_f))), (a0_0_1, .inl (a0_0_1_c, 1000, .inl a0_0_1_f))] : va_W) ++ rows) U.heap ∧ va_K (dC, dI) vwCl [(a0_0_0_c, .long), (a0_0_1_c, .byte)] U ∧ va_D (fun _ => True) (([(a0, .inr (4, [.ref a0_0, .ref a0_1, .ref a0_2, .ref a0_3, .int a0_4, .int a0_5])), (a0_0, .inr (6, [.ref a0_0_0, .ref a0_0_1, .int a0_0_2, .int a0_0_3, .int a0_0_4, .int a0_0_5, .long a0_0_6, .int a0_0_7])), (a0_0_0, .inl (a0_0_0_c, 12, .inr (.inl a0_0_0_f))), (a0_0_1, .inl (a0_0_1_c, 1000, .inl a0_0_1_f))] : va_W) ++ rows) ∧ Ev g (va_A (([(a0, .inr (4, [.ref a0_0, .ref a0_1, .ref a0_2, .ref a0_3, .int a0_4, .int a0_5])), (a0_0, .inr (6, [.ref a0_0_0, .ref a0_0_1, .int a0_0_2, .int a0_0_3, .int a0_0_4, .int a0_0_5, .long a0_0_6, .int a0_0_7])), (a0_0_0, .inl (a0_0_0_c, 12, .inr (.inl a0_0_0_f))), (a0_0_1, .inl (a0_0_1_c, 1000, .inl a0_0_1_f))] : va_W) ++ rows) sz) U)) (va_Qv (fun (_ : Unit) => True) (fun (_ : Unit) (t : State) => ∃ (za0_5 : Int32) (za0_0_3 : Int32) (za0_0_4 : Int32) (za0_0_5 : Int32) (za0_0_6 : Int64) (za0_0_7 : Int32) (zrows : va_W), (0 ≤ za0_0_3.toInt ∧ za0_0_3.toInt ≤ 1000) ∧ (0 ≤ za0_0_5.toInt ∧ za0_0_5.toInt ≤ 1000) ∧ RS g.2.2.2.2.1 rows zrows ∧ (a0_5.toInt ≠ -1 → za0_5.toInt ≠ -1) ∧ va_P (dC, dI) vwCl (([(a0, .inr (4, [.ref a0_0, .ref a0_1, .ref a0_2, .ref a0_3, .int a0_4, .int za0_5])), (a0_0, .inr (6, [.ref a0_0_0, .ref a0_0_1, .int a0_0_2, .int za0_0_3, .int za0_0_4, .int za0_0_5, .long za0_0_6, .int za0_0_7])), (a0_0_0, .inl (a0_0_0_c, 12, .inr (.inl a0_0_0_f))), (a0_0_1, .inl (a0_0_1_c, 1000, .inl a0_0_1_f))] : va_W) ++ zrows) t.heap ∧ va_K (dC, dI) vwCl [] t ∧ va_D (va_A (([(a0, .inr (4, [.ref a0_0, .ref a0_1, .ref a0_2, .ref a0_3, .int a0_4, .int a0_5])), (a0_0, .inr (6, [.ref a0_0_0, .ref a0_0_1, .int a0_0_2, .int a0_0_3, .int a0_0_4, .int a0_0_5, .long a0_0_6, .int a0_0_7])), (a0_0_0, .inl (a0_0_0_c, 12, .inr (.inl a0_0_0_f))), (a0_0_1, .inl (a0_0_1_c, 1000, .inl a0_0_1_f))] : va_W) ++ rows) sz) (([(a0, .inr (4, [.ref a0_0, .ref a0_1, .ref a0_2, .ref a0_3, .int a0_4, .int za0_5])), (a0_0, .inr (6, [.ref a0_0_0, .ref a0_0_1, .int a0_0_2, .int za0_0_3, .int za0_0_4, .int za0_0_5, .long za0_0_6, .int za0_0_7])), (a0_0_0, .inl (a0_0_0_c, 12, .inr (.inl a0_0_0_f))), (a0_0_1, .inl (a0_0_1_c, 1000, .inl a0_0_1_f))] : va_W) ++ zrows)) (va_A (([(a0, .inr (4, [.ref a0_0, .ref a0_1, .ref a0_2, .ref a0_3, .int a0_4, .int a0_5])), (a0_0, .inr (6, [.ref a0_0_0, .ref a0_0_1, .int a0_0_2, .int a0_0_3, .int a0_0_4, .int a0_0_5, .long a0_0_6, .int a0_0_7])), (a0_0_0, .inl (a0_0_0_c, 12, .inr (.inl a0_0_0_f))), (a0_0_1, .inl (a0_0_1_c, 1000, .inl a0_0_1_f))] : va_W) ++ rows) sz)) 0 0 (va_A (([(a0, .inr (4, [.ref a0_0, .ref a0_1, .ref a0_2, .ref a0_3, .int a0_4, .int a0_5])), (a0_0, .inr (6, [.ref a0_0_0, .ref a0_0_1, .int a0_0_2, .int a0_0_3, .int a0_0_4, .int a0_0_5, .long a0_0_6, .int a0_0_7])), (a0_0_0, .inl (a0_0_0_c, 12, .inr (.inl a0_0_0_f))), (a0_0_1, .inl (a0_0_1_c, 1000, .inl a0_0_1_f))] : va_W) ++ rows) sz) := by
  refine Met.ofW (cc := cX5_readYears) (maxL := 4) (ret := none) (by decide) rfl ?_
  intro p e s m args below meth c s₁ B hml hv
  obtain ⟨rfl, hsz, hP, hK, hD0, hE⟩ := hv
  have hx := B.exec
  have hb := B.bytes
  have hr := B.returns
  have hts0 := atoms_spec (ws := (.code yX5_readYears cX5_readYears 4 none :: TBL)) B.pre
  have hts := fun (w : Cond) (h : w ∈ TBL) => hts0 w (List.mem_cons_of_mem _ h)
  have hown : s.vm.findClass RX5 = some m.cls := findClass_of_methodNamed B.named
  have hlocks := B.notSynchronized
  have hN := hE.1
  subst hsz
  have hD := hD0.self (sz := s.heap.size)
  generalize hAe : va_A (([(a0, .inr (4, [.ref a0_0, .ref a0_1, .ref a0_2, .ref a0_3, .int a0_4, .int a0_5])), (a0_0, .inr (6, [.ref a0_0_0, .ref a0_0_1, .int a0_0_2, .int a0_0_3, .int a0_0_4, .int a0_0_5, .long a0_0_6, .int a0_0_7])), (a0_0_0, .inl (a0_0_0_c, 12, .inr (.inl a0_0_0_f))), (a0_0_1, .inl (a0_0_1_c, 1000, .inl a0_0_1_f))] : va_W) ++ rows) s.heap.size = A at hD hE ⊢
  have hA : ∀ q : Nat, s.heap.size ≤ q → A q := fun q h => by rw [← hAe]; exact Or.inr h
  have hS : va_S A s.heap s.heap [] := va_S.rf
  replace hP : va_P (dC, dI) vwCl (([(a0, .inr (4, [.ref a0_0, .ref a0_1, .ref a0_2, .ref a0_3, .int a0_4, .int a0_5])), (a0_0, .inr (6, [.ref a0_0_0, .ref a0_0_1, .int a0_0_2, .int a0_0_3, .int a0_0_4, .int a0_0_5, .long a0_0_6, .int a0_0_7])), (a0_0_0, .inl (a0_0_0_c, 12, .inr (.inl a0_0_0_f))), (a0_0_1, .inl (a0_0_1_c, 1000, .inl a0_0_1_f))] : va_W) ++ rows) s.heap := hP
  have hl := lv_entry ([.ref a0, .ref a1, .int a2]) (n := 4) (Nat.le_of_ble_eq_true rfl)
  rw [lg_entry_eq]
  generalize (lg_sl ([.ref a0, .ref a1, .int a2]) ++ List.replicate (4 - (lg_sl ([.ref a0, .ref a1, .int a2])).length) Slot.unset).toArray = ls at hl ⊢
  have hl : lv_has ls 4 [(0, .ref a0), (1, .ref a1), (2, .int a2)] := hl
  have hK := cyK hK (hts (.arrayClass .int) qw_54) hE.2.2.2.2.2.2.2.2.2.2.2.2.1
  replace hK : va_K (dC, dI) vwCl [(a0_0_0_c, .long), (a0_0_1_c, .byte), (g.2.2.2.2.1, .int)] s := hK
  have b_a2 := i32b a2
  have b_a0_5 := i32b a0_5
  have b_a0_0_4 := i32b a0_0_4
  have b_a0_0_7 := i32b a0_0_7
  have hRS : RS g.2.2.2.2.1 rows rows := RS.rf
  refine lv_iconst (v := 0) hx hb dX5_readYears_0 (by decide) ?_
  refine lv_istore_n (lv' := [(3, .int 0), (0, .ref a0), (1, .ref a1), (2, .int a2)]) hx hb dX5_readYears_1 rfl hl (by decide) rfl (fun ls hl => ?_)
  have qc0 : (0 : Int32).toInt = 0 := by decide
  refine wloop (fun n H locs ls => ∃ (l2_3 : Int32) (f2_0_5 : Int32) (f2_1_3 : Int32) (f2_1_4 : Int32) (f2_1_5 : Int32) (f2_1_6 : Int64) (f2_1_7 : Int32) (r2 : va_W), n = (2147483647 - l2_3.toInt).toNat ∧ ((0 ≤ f2_1_3.toInt ∧ f2_1_3.toInt ≤ 1000)) ∧ ((0 ≤ f2_1_5.toInt ∧ f2_1_5.toInt ≤ 1000)) ∧ (RS g.2.2.2.2.1 rows r2) ∧ (0 ≤ l2_3.toInt) ∧ (a0_5.toInt ≠ -1 → f2_0_5.toInt ≠ -1) ∧ lv_has ls 4 [(3, .int l2_3), (0, .ref a0), (1, .ref a1), (2, .int a2)] ∧ va_P (dC, dI) vwCl (([(a0, .inr (4, [.ref a0_0, .ref a0_1, .ref a0_2, .ref a0_3, .int a0_4, .int f2_0_5])), (a0_0, .inr (6, [.ref a0_0_0, .ref a0_0_1, .int a0_0_2, .int f2_1_3, .int f2_1_4, .int f2_1_5, .long f2_1_6, .int f2_1_7])), (a0_0_0, .inl (a0_0_0_c, 12, .inr (.inl a0_0_0_f))), (a0_0_1, .inl (a0_0_1_c, 1000, .inl a0_0_1_f))] : va_W) ++ r2) H ∧ va_D A (([(a0, .inr (4, [.ref a0_0, .ref a0_1, .ref a0_2, .ref a0_3, .int a0_4, .int f2_0_5])), (a0_0, .inr (6, [.ref a0_0_0, .ref a0_0_1, .int a0_0_2, .int f2_1_3, .int f2_1_4, .int f2_1_5, .long f2_1_6, .int f2_1_7])), (a0_0_0, .inl (a0_0_0_c, 12, .inr (.inl a0_0_0_f))), (a0_0_1, .inl (a0_0_1_c, 1000, .inl a0_0_1_f))] : va_W) ++ r2) ∧ va_S A s.heap H locs) ?_ ((2147483647 - (0 : Int32).toInt).toNat) _ _ _ ⟨0, a0_5, a0_0_3, a0_0_4, a0_0_5, a0_0_6, a0_0_7, rows, rfl, (by omega), (by omega), hRS, (by omega), (by omega), lv_sub hl [0, 1, 2, 3] rfl, hP, hD, hS⟩
  intro n2 H locs ls hI ih2
  obtain ⟨l2_3, f2_0_5, f2_1_3, f2_1_4, f2_1_5, f2_1_6, f2_1_7, r2, hn2, g_f2_1_3, g_f2_1_5, g_r2, g_l2_3, gx2_0, hl, hP, hD, hS⟩ := hI
  have b_l2_3 := i32b l2_3
  have b_f2_0_5 := i32b f2_0_5
  have b_f2_1_3 := i32b f2_1_3
  have b_f2_1_4 := i32b f2_1_4
  have b_f2_1_5 := i32b f2_1_5
  have b_f2_1_7 := i32b f2_1_7
  have hRS := g_r2
  refine lv_iload_n hx hb dX5_readYears_2 rfl (lv_at hl 0 rfl) ?_
  refine lv_iload_n hx hb dX5_readYears_3 rfl (lv_at hl 3 rfl) ?_
  refine lv_icmp_ge (tgt := 30) hx hb dX5_readYears_4 (by decide) (fun c4_1 => ?_) (fun c4_1 => ?_)
  · have c4_1 : a2.toInt ≤ l2_3.toInt := (cv_le rfl rfl).mp c4_1
    refine W.widen (k := 0) (n := 0) (Nat.le_of_ble_eq_true rfl) (Nat.le_of_ble_eq_true rfl) ?_
    have hP9 := hP
    have hD9 := hD
    have hK9 := (rgK3_e7c053f hK)
    have hf9_0 : (0 ≤ f2_1_3.toInt ∧ f2_1_3.toInt ≤ 1000) := by omega
    have hf9_1 : (0 ≤ f2_1_5.toInt ∧ f2_1_5.toInt ≤ 1000) := by omega
    have hf9_2 : RS g.2.2.2.2.1 rows r2 := hRS
    have hf9_3 : (a0_5.toInt ≠ -1 → f2_0_5.toInt ≠ -1) := by omega
    exact W.vret hx hb hr (fun t ht hW => ⟨⟨(), rfl, trivial, f2_0_5, f2_1_3, f2_1_4, f2_1_5, f2_1_6, f2_1_7, r2, hf9_0, hf9_1, hf9_2, hf9_3, atB ht hP9, va_K.moved hW.alike hK9, hD9⟩, hS.F ht⟩) hS.2.2 dX5_readYears_30
  · have c4_1 : ¬ (a2.toInt ≤ l2_3.toInt) := mt (cv_le rfl rfl).mpr c4_1
    refine lv_iload_n hx hb dX5_readYears_7 rfl (lv_at hl 0 rfl) ?_
    refine lv_aload_n hx hb dX5_readYears_8 rfl (lv_at hl 2 rfl) ?_
    obtain ⟨j2, rr3, hr4⟩ := RS.rh hRS h_a1
    refine va_alen hx hb hK hP (4 + j2) 2 (rgU4_1dd8f5a hr4) rgT3_173f9f1 (v := 3) (show Int32.ofNat 3 = 3 from by decide) dX5_readYears_9 ?_
    refine lv_icmp_ge (tgt := 30) hx hb dX5_readYears_10 (by decide) (fun c10_5 => ?_) (fun c10_5 => ?_)
    · have c10_5 : 3 ≤ l2_3.toInt := (cv_le (by decide) rfl).mp c10_5
      refine W.widen (k := 0) (n := 0) (Nat.le_of_ble_eq_true rfl) (Nat.le_of_ble_eq_true rfl) ?_
      have hP9 := hP
      have hD9 := hD
      have hK9 := (rgK3_e7c053f hK)
      have hf9_0 : (0 ≤ f2_1_3.toInt ∧ f2_1_3.toInt ≤ 1000) := by omega
      have hf9_1 : (0 ≤ f2_1_5.toInt ∧ f2_1_5.toInt ≤ 1000) := by omega
      have hf9_2 : RS g.2.2.2.2.1 rows r2 := hRS
      have hf9_3 : (a0_5.toInt ≠ -1 → f2_0_5.toInt ≠ -1) := by omega
      exact W.vret hx hb hr (fun t ht hW => ⟨⟨(), rfl, trivial, f2_0_5, f2_1_3, f2_1_4, f2_1_5, f2_1_6, f2_1_7, r2, hf9_0, hf9_1, hf9_2, hf9_3, atB ht hP9, va_K.moved hW.alike hK9, hD9⟩, hS.F ht⟩) hS.2.2 dX5_readYears_30
    · have c10_5 : ¬ (3 ≤ l2_3.toInt) := mt (cv_le (by decide) rfl).mpr c10_5
      refine lv_aload_n hx hb dX5_readYears_13 rfl (lv_at hl 2 rfl) ?_
      refine lv_iload_n hx hb dX5_readYears_14 rfl (lv_at hl 0 rfl) ?_
      refine lv_aload_n hx hb dX5_readYears_15 rfl (lv_at hl 1 rfl) ?_
      refine lv_iconst (v := 0) hx hb dX5_readYears_16 (by decide) ?_
      refine lv_sipush (v := 200) hx hb dX5_readYears_17 (by decide) ?_
      have qc0 : (0 : Int32).toInt = 0 := by decide
      have qc200 : (200 : Int32).toInt = 200 := by decide
      have hPc := (rgP4_d636d8f hP)
      have hKc := (rgK3_ea8775c hK)
      have hDc := (rgD4_3c16b7d hD)
      have hFc := freeW hDc hS hA
      refine va_calli (va_runV (As := [.int 0, .int 200]) (rest := [.int l2_3, .ref a1]) ⟨hx, hb, hml, hown, hts⟩ (k_X5_readNumber l dC dI g H.size (a0) (0) (200) (a0_0) (a0_1) (a0_2) (a0_3) (a0_4) (f2_0_5) (a0_0_0) (a0_0_1) (a0_0_2) (f2_1_3) (f2_1_4) (f2_1_5) (f2_1_6) (f2_1_7) (a0_0_0_c) (a0_0_0_f) (a0_0_1_c) (a0_0_1_f) (by omega) (by omega) (by omega) (by omega)) (cwV 2 hts (gwV qw_117 qw_118 qw_119 qw_100 qw_116) rfl rfl rfl (by decide +kernel) ⟨Nat.le_of_ble_eq_true rfl, Nat.le_of_ble_eq_true rfl⟩) ⟨fun a U g9 mk q => ⟨q.1, q.2.1, q.2.2.1, va_K.moved (u := U) (U := U.calling g9 mk a) (Vm.Alike.refl U.vm) q.2.2.2.1, q.2.2.2.2.1, Ev.bl q.2.2.2.2.2⟩, va_recv hK hP (ci := 4) (q0 := 0) rfl rgL4_6945f2e, fun U hU hW => ⟨rfl, by rw [hU], atB hU hPc, va_K.moved hW.alike hKc, hDc.weaken (fun _ _ _ _ => trivial), hE.go hS hFc hU hW⟩⟩ rfl rfl hl.1 rfl (lv_room (Nat.le_of_ble_eq_true rfl)) dX5_readYears_20 ⟨Nat.le_of_ble_eq_true rfl, Nat.le_of_ble_eq_true rfl⟩) hS (fun q _ h => hFc q h) hFc (fun r7 u6 t H1 locs ht hvm h_u6 hB hz1 hk1 hS => ?_)
      obtain ⟨za0_5_8, za0_0_3_9, za0_0_4_10, za0_0_5_11, za0_0_6_12, za0_0_7_13, hF14, hF15, hF16, hP1, hK1, hD1⟩ := hB
      have hK1 := va_K.moved hvm.symm hK1
      have hJ9 := rgJ4_ca42cf3 hP hD hk1 hFc (atH ht hP1) hD1
      clear hP hD hPc hKc hDc hFc hP1 hD1 hk1 hz1
      obtain ⟨hP, hD⟩ := hJ9
      clear hK1
      generalize H1 = H at hP hS ⊢
      refine W.widen (k := 0) (n := 0) (Nat.le_of_ble_eq_true rfl) (Nat.le_of_ble_eq_true rfl) ?_
      have h_r7 := congrArg Int32.toInt h_u6
      have b_r7 := i32b r7
      obtain ⟨j17, rr18, hr19⟩ := RS.rh hRS h_a1
      refine va_iast hx hb hK hP hD hS (4 + j17) 2 (rgU4_1dd8f5a hr19) rgT3_173f9f1 (vinI (by omega) (by omega)) dX5_readYears_23 (fun H locs hP9 hD9 hS9 => ?_)
      obtain ⟨rx20, e_rx20⟩ : ∃ y, r2.set j17 (a1, .inl (g.2.2.2.2.1, 3, .inl (upd rr18 l2_3.toNatClampNeg r7))) = y := ⟨_, rfl⟩
      have hRS := e_rx20 ▸ RS.set hRS (upd rr18 l2_3.toNatClampNeg r7) hr19
      clear hP hD hS
      obtain ⟨hP, hD⟩ := rgW4_1dbbc5a hP9 hD9 e_rx20
      have hS := hS9; clear hP9 hD9 hS9
      obtain ⟨x21, e_x21⟩ : ∃ y : Int32, y = l2_3 + 1 := ⟨_, rfl⟩
      refine lv_iinc (v := x21) (lv' := [(3, .int x21), (0, .ref a0), (1, .ref a1), (2, .int a2)]) hx hb dX5_readYears_24 hl (k := 0) rfl (by rw [e_x21]; rfl) (by decide) rfl (fun ls hl => ?_)
      try have e_x21 := ti_add e_x21 rfl (show (1 : Int32).toInt = 1 by decide) (by omega)
      refine lv_goto (tgt := 2) hx hb dX5_readYears_27 (by decide) ?_
      exact ih2 ((2147483647 - x21.toInt).toNat) _ _ _ (by omega) ⟨x21, za0_5_8, za0_0_3_9, za0_0_4_10, za0_0_5_11, za0_0_6_12, za0_0_7_13, rx20, rfl, (by omega), (by omega), hRS, (by omega), (by omega), lv_sub hl [0, 1, 2, 3] rfl, hP, hD, hS⟩
set_option maxHeartbeats 4000000 in
set_option maxRecDepth 100000 in
theorem k_X5_closureSort (l : Launch) (dC : Nat → ClassId) (dI : Nat → Nat → Nat) (g : Gv) (a0 : Int32)  : Met l yX5_closureSort (.code yX5_closureSort cX5_closureSort 1 (some .int) :: TBL) ({ frames := 0, cells := 0, slots := 0, locals := 0 }) (va_Pc [.int a0] (fun U => va_P (dC, dI) vwCl [] U.heap ∧ va_K (dC, dI) vwCl [] U ∧ Ev g (fun _ => False) U)) (vp_Si (fun (r : Int32) => ((-1) ≤ r.toInt ∧ r.toInt ≤ 3))) 0 0 (fun _ => False) := by
  refine Met.ofW (cc := cX5_closureSort) (maxL := 1) (ret := (some .int)) (by decide) rfl ?_
  intro p e s m args below meth c s₁ B hml hv
  obtain ⟨rfl, hP, hK, hE⟩ := hv
  have hx := B.exec
  have hb := B.bytes
  have hr := B.returns
  have hts0 := atoms_spec (ws := (.code yX5_closureSort cX5_closureSort 1 (some .int) :: TBL)) B.pre
  have hts := fun (w : Cond) (h : w ∈ TBL) => hts0 w (List.mem_cons_of_mem _ h)
  have hown : s.vm.findClass RX5 = some m.cls := findClass_of_methodNamed B.named
  have hlocks := B.notSynchronized
  have hN := hE.1
  have hS : va_S (fun _ => False) s.heap s.heap [] := va_S.rf
  replace hP : va_P (dC, dI) vwCl [] s.heap := hP
  have hl := lv_entry ([.int a0]) (n := 1) (Nat.le_of_ble_eq_true rfl)
  rw [lg_entry_eq]
  generalize (lg_sl ([.int a0]) ++ List.replicate (1 - (lg_sl ([.int a0])).length) Slot.unset).toArray = ls at hl ⊢
  have hl : lv_has ls 1 [(0, .int a0)] := hl
  have b_a0 := i32b a0
  refine lv_iload_n hx hb dX5_closureSort_0 rfl (lv_at hl 0 rfl) ?_
  rcases (show a0.toInt = 0 ∨ a0.toInt = 3 ∨ a0.toInt = 9 ∨ a0.toInt = 10 ∨ (a0.toInt ≠ 0 ∧ a0.toInt ≠ 3 ∧ a0.toInt ≠ 9 ∧ a0.toInt ≠ 10) by omega) with hq1 | hq1 | hq1 | hq1 | hq1
  · refine lv_lookup (off := 45) (tgt := 46) hx hb dX5_closureSort_1 (by decide) (by rw [hq1]; rfl) (by decide) ?_
    refine lv_iconst (v := 1) hx hb dX5_closureSort_46 (by decide) ?_
    exact W.iret (v := 1) hx hb hr (fun t ht hW => ⟨1, rfl, (by decide), ht⟩) (fun _ h => absurd h List.not_mem_nil) dX5_closureSort_47
  · refine lv_lookup (off := 47) (tgt := 48) hx hb dX5_closureSort_1 (by decide) (by rw [hq1]; rfl) (by decide) ?_
    refine lv_iconst (v := 2) hx hb dX5_closureSort_48 (by decide) ?_
    exact W.iret (v := 2) hx hb hr (fun t ht hW => ⟨2, rfl, (by decide), ht⟩) (fun _ h => absurd h List.not_mem_nil) dX5_closureSort_49
  · refine lv_lookup (off := 43) (tgt := 44) hx hb dX5_closureSort_1 (by decide) (by rw [hq1]; rfl) (by decide) ?_
    refine lv_iconst (v := 0) hx hb dX5_closureSort_44 (by decide) ?_
    exact W.iret (v := 0) hx hb hr (fun t ht hW => ⟨0, rfl, (by decide), ht⟩) (fun _ h => absurd h List.not_mem_nil) dX5_closureSort_45
  · refine lv_lookup (off := 49) (tgt := 50) hx hb dX5_closureSort_1 (by decide) (by rw [hq1]; rfl) (by decide) ?_
    refine lv_iconst (v := 3) hx hb dX5_closureSort_50 (by decide) ?_
    exact W.iret (v := 3) hx hb hr (fun t ht hW => ⟨3, rfl, (by decide), ht⟩) (fun _ h => absurd h List.not_mem_nil) dX5_closureSort_51
  · refine lv_lookup (off := 51) (tgt := 52) hx hb dX5_closureSort_1 (by decide) (by refine (Op.lookupswitch.offset_cons _ _ _ _ _).trans ((if_neg (fun q => by omega)).trans ?_); refine (Op.lookupswitch.offset_cons _ _ _ _ _).trans ((if_neg (fun q => by omega)).trans ?_); refine (Op.lookupswitch.offset_cons _ _ _ _ _).trans ((if_neg (fun q => by omega)).trans ?_); refine (Op.lookupswitch.offset_cons _ _ _ _ _).trans ((if_neg (fun q => by omega)).trans ?_); rfl) (by decide) ?_
    refine lv_iconst (v := (-1)) hx hb dX5_closureSort_52 (by decide) ?_
    exact W.iret (v := (-1)) hx hb hr (fun t ht hW => ⟨(-1), rfl, (by decide), ht⟩) (fun _ h => absurd h List.not_mem_nil) dX5_closureSort_53
set_option maxHeartbeats 4000000 in
set_option maxRecDepth 100000 in
theorem k_X5_readPeopleOf (l : Launch) (dC : Nat → ClassId) (dI : Nat → Nat → Nat) (g : Gv) (sz : Nat) (a0 : Nat) (a0_0 : Nat) (a0_1 : Nat) (a0_2 : Nat) (a0_3 : Nat) (a0_4 : Int32) (a0_5 : Int32) (a0_0_0 : Nat) (a0_0_1 : Nat) (a0_0_2 : Int32) (a0_0_3 : Int32) (a0_0_4 : Int32) (a0_0_5 : Int32) (a0_0_6 : Int64) (a0_0_7 : Int32) (a0_0_0_c : ClassId) (a0_0_0_f : Nat → Int64) (a0_0_1_c : ClassId) (a0_0_1_f : Nat → Int32) (a0_1_c : ClassId) (a0_1_f : Nat → Int64) (a0_2_c : ClassId) (a0_2_f : Nat → Int32) (a0_3_c : ClassId) (a0_3_f : Nat → Int32) (h_a0_4 : 0 ≤ a0_4.toInt ∧ a0_4.toInt ≤ 36) (h_a0_0_2 : 0 ≤ a0_0_2.toInt ∧ a0_0_2.toInt ≤ 1000) (h_a0_0_3 : 0 ≤ a0_0_3.toInt ∧ a0_0_3.toInt ≤ 1000) (h_a0_0_5 : 0 ≤ a0_0_5.toInt ∧ a0_0_5.toInt ≤ 1000) (hno : NOk a0_2_f a0_3_f a0_4) : Met l yX5_readPeopleOf (.code yX5_readPeopleOf cX5_readPeopleOf 5 (some .int) :: TBL) ({ frames := 4, cells := 0, slots := 0, locals := 86 }) (va_Pc [.ref a0] (fun U => U.heap.size = sz ∧ va_P (dC, dI) vwCl [(a0, .inr (4, [.ref a0_0, .ref a0_1, .ref a0_2, .ref a0_3, .int a0_4, .int a0_5])), (a0_0, .inr (6, [.ref a0_0_0, .ref a0_0_1, .int a0_0_2, .int a0_0_3, .int a0_0_4, .int a0_0_5, .long a0_0_6, .int a0_0_7])), (a0_0_0, .inl (a0_0_0_c, 12, .inr (.inl a0_0_0_f))), (a0_0_1, .inl (a0_0_1_c, 1000, .inl a0_0_1_f)), (a0_1, .inl (a0_1_c, 36, .inr (.inl a0_1_f))), (a0_2, .inl (a0_2_c, 36, .inl a0_2_f)), (a0_3, .inl (a0_3_c, 36, .inl a0_3_f))] U.heap ∧ va_K (dC, dI) vwCl [(a0_0_0_c, .long), (a0_0_1_c, .byte), (a0_1_c, .long), (a0_2_c, .int), (a0_3_c, .int)] U ∧ va_D (fun _ => True) [(a0, .inr (4, [.ref a0_0, .ref a0_1, .ref a0_2, .ref a0_3, .int a0_4, .int a0_5])), (a0_0, .inr (6, [.ref a0_0_0, .ref a0_0_1, .int a0_0_2, .int a0_0_3, .int a0_0_4, .int a0_0_5, .long a0_0_6, .int a0_0_7])), (a0_0_0, .inl (a0_0_0_c, 12, .inr (.inl a0_0_0_f))), (a0_0_1, .inl (a0_0_1_c, 1000, .inl a0_0_1_f)), (a0_1, .inl (a0_1_c, 36, .inr (.inl a0_1_f))), (a0_2, .inl (a0_2_c, 36, .inl a0_2_f)), (a0_3, .inl (a0_3_c, 36, .inl a0_3_f))] ∧ Ev g (va_A [(a0, .inr (4, [.ref a0_0, .ref a0_1, .ref a0_2, .ref a0_3, .int a0_4, .int a0_5])), (a0_0, .inr (6, [.ref a0_0_0, .ref a0_0_1, .int a0_0_2, .int a0_0_3, .int a0_0_4, .int a0_0_5, .long a0_0_6, .int a0_0_7])), (a0_0_0, .inl (a0_0_0_c, 12, .inr (.inl a0_0_0_f))), (a0_0_1, .inl (a0_0_1_c, 1000, .inl a0_0_1_f)), (a0_1, .inl (a0_1_c, 36, .inr (.inl a0_1_f))), (a0_2, .inl (a0_2_c, 36, .inl a0_2_f)), (a0_3, .inl (a0_3_c, 36, .inl a0_3_f))] sz) U)) (va_Qi (fun (r : Int32) (u : Int32) => u = r) (fun (u : Int32) (t : State) => ∃ (za0_5 : Int32) (za0_0_3 : Int32) (za0_0_4 : Int32) (za0_0_5 : Int32) (za0_0_6 : Int64) (za0_0_7 : Int32), (0 ≤ za0_0_3.toInt ∧ za0_0_3.toInt ≤ 1000) ∧ (0 ≤ za0_0_5.toInt ∧ za0_0_5.toInt ≤ 1000) ∧ (a0_5.toInt ≠ -1 → za0_5.toInt ≠ -1) ∧ va_P (dC, dI) vwCl [(a0, .inr (4, [.ref a0_0, .ref a0_1, .ref a0_2, .ref a0_3, .int a0_4, .int za0_5])), (a0_0, .inr (6, [.ref a0_0_0, .ref a0_0_1, .int a0_0_2, .int za0_0_3, .int za0_0_4, .int za0_0_5, .long za0_0_6, .int za0_0_7])), (a0_0_0, .inl (a0_0_0_c, 12, .inr (.inl a0_0_0_f))), (a0_0_1, .inl (a0_0_1_c, 1000, .inl a0_0_1_f)), (a0_1, .inl (a0_1_c, 36, .inr (.inl a0_1_f))), (a0_2, .inl (a0_2_c, 36, .inl a0_2_f)), (a0_3, .inl (a0_3_c, 36, .inl a0_3_f))] t.heap ∧ va_K (dC, dI) vwCl [] t ∧ va_D (va_A [(a0, .inr (4, [.ref a0_0, .ref a0_1, .ref a0_2, .ref a0_3, .int a0_4, .int a0_5])), (a0_0, .inr (6, [.ref a0_0_0, .ref a0_0_1, .int a0_0_2, .int a0_0_3, .int a0_0_4, .int a0_0_5, .long a0_0_6, .int a0_0_7])), (a0_0_0, .inl (a0_0_0_c, 12, .inr (.inl a0_0_0_f))), (a0_0_1, .inl (a0_0_1_c, 1000, .inl a0_0_1_f)), (a0_1, .inl (a0_1_c, 36, .inr (.inl a0_1_f))), (a0_2, .inl (a0_2_c, 36, .inl a0_2_f)), (a0_3, .inl (a0_3_c, 36, .inl a0_3_f))] sz) [(a0, .inr (4, [.ref a0_0, .ref a0_1, .ref a0_2, .ref a0_3, .int a0_4, .int za0_5])), (a0_0, .inr (6, [.ref a0_0_0, .ref a0_0_1, .int a0_0_2, .int za0_0_3, .int za0_0_4, .int za0_0_5, .long za0_0_6, .int za0_0_7])), (a0_0_0, .inl (a0_0_0_c, 12, .inr (.inl a0_0_0_f))), (a0_0_1, .inl (a0_0_1_c, 1000, .inl a0_0_1_f)), (a0_1, .inl (a0_1_c, 36, .inr (.inl a0_1_f))), (a0_2, .inl (a0_2_c, 36, .inl a0_2_f)), (a0_3, .inl (a0_3_c, 36, .inl a0_3_f))]) (va_A [(a0, .inr (4, [.ref a0_0, .ref a0_1, .ref a0_2, .ref a0_3, .int a0_4, .int a0_5])), (a0_0, .inr (6, [.ref a0_0_0, .ref a0_0_1, .int a0_0_2, .int a0_0_3, .int a0_0_4, .int a0_0_5, .long a0_0_6, .int a0_0_7])), (a0_0_0, .inl (a0_0_0_c, 12, .inr (.inl a0_0_0_f))), (a0_0_1, .inl (a0_0_1_c, 1000, .inl a0_0_1_f)), (a0_1, .inl (a0_1_c, 36, .inr (.inl a0_1_f))), (a0_2, .inl (a0_2_c, 36, .inl a0_2_f)), (a0_3, .inl (a0_3_c, 36, .inl a0_3_f))] sz)) 0 0 (va_A [(a0, .inr (4, [.ref a0_0, .ref a0_1, .ref a0_2, .ref a0_3, .int a0_4, .int a0_5])), (a0_0, .inr (6, [.ref a0_0_0, .ref a0_0_1, .int a0_0_2, .int a0_0_3, .int a0_0_4, .int a0_0_5, .long a0_0_6, .int a0_0_7])), (a0_0_0, .inl (a0_0_0_c, 12, .inr (.inl a0_0_0_f))), (a0_0_1, .inl (a0_0_1_c, 1000, .inl a0_0_1_f)), (a0_1, .inl (a0_1_c, 36, .inr (.inl a0_1_f))), (a0_2, .inl (a0_2_c, 36, .inl a0_2_f)), (a0_3, .inl (a0_3_c, 36, .inl a0_3_f))] sz) := by
  refine Met.ofW (cc := cX5_readPeopleOf) (maxL := 5) (ret := (some .int)) (by decide) rfl ?_
  intro p e s m args below meth c s₁ B hml hv
  obtain ⟨rfl, hsz, hP, hK, hD0, hE⟩ := hv
  have hx := B.exec
  have hb := B.bytes
  have hr := B.returns
  have hts0 := atoms_spec (ws := (.code yX5_readPeopleOf cX5_readPeopleOf 5 (some .int) :: TBL)) B.pre
  have hts := fun (w : Cond) (h : w ∈ TBL) => hts0 w (List.mem_cons_of_mem _ h)
  have hown : s.vm.findClass RX5 = some m.cls := findClass_of_methodNamed B.named
  have hlocks := B.notSynchronized
  have hN := hE.1
  subst hsz
  have hD := hD0.self (sz := s.heap.size)
  generalize hAe : va_A [(a0, .inr (4, [.ref a0_0, .ref a0_1, .ref a0_2, .ref a0_3, .int a0_4, .int a0_5])), (a0_0, .inr (6, [.ref a0_0_0, .ref a0_0_1, .int a0_0_2, .int a0_0_3, .int a0_0_4, .int a0_0_5, .long a0_0_6, .int a0_0_7])), (a0_0_0, .inl (a0_0_0_c, 12, .inr (.inl a0_0_0_f))), (a0_0_1, .inl (a0_0_1_c, 1000, .inl a0_0_1_f)), (a0_1, .inl (a0_1_c, 36, .inr (.inl a0_1_f))), (a0_2, .inl (a0_2_c, 36, .inl a0_2_f)), (a0_3, .inl (a0_3_c, 36, .inl a0_3_f))] s.heap.size = A at hD hE ⊢
  have hA : ∀ q : Nat, s.heap.size ≤ q → A q := fun q h => by rw [← hAe]; exact Or.inr h
  have hS : va_S A s.heap s.heap [] := va_S.rf
  replace hP : va_P (dC, dI) vwCl [(a0, .inr (4, [.ref a0_0, .ref a0_1, .ref a0_2, .ref a0_3, .int a0_4, .int a0_5])), (a0_0, .inr (6, [.ref a0_0_0, .ref a0_0_1, .int a0_0_2, .int a0_0_3, .int a0_0_4, .int a0_0_5, .long a0_0_6, .int a0_0_7])), (a0_0_0, .inl (a0_0_0_c, 12, .inr (.inl a0_0_0_f))), (a0_0_1, .inl (a0_0_1_c, 1000, .inl a0_0_1_f)), (a0_1, .inl (a0_1_c, 36, .inr (.inl a0_1_f))), (a0_2, .inl (a0_2_c, 36, .inl a0_2_f)), (a0_3, .inl (a0_3_c, 36, .inl a0_3_f))] s.heap := hP
  have hl := lv_entry ([.ref a0]) (n := 5) (Nat.le_of_ble_eq_true rfl)
  rw [lg_entry_eq]
  generalize (lg_sl ([.ref a0]) ++ List.replicate (5 - (lg_sl ([.ref a0])).length) Slot.unset).toArray = ls at hl ⊢
  have hl : lv_has ls 5 [(0, .ref a0)] := hl
  have b_a0_5 := i32b a0_5
  have b_a0_0_4 := i32b a0_0_4
  have b_a0_0_7 := i32b a0_0_7
  refine lv_iconst (v := 0) hx hb dX5_readPeopleOf_0 (by decide) ?_
  refine lv_istore_n (lv' := [(1, .int 0), (0, .ref a0)]) hx hb dX5_readPeopleOf_1 rfl hl (by decide) rfl (fun ls hl => ?_)
  refine lv_iconst (v := 0) hx hb dX5_readPeopleOf_2 (by decide) ?_
  refine lv_istore_n (lv' := [(2, .int 0), (1, .int 0), (0, .ref a0)]) hx hb dX5_readPeopleOf_3 rfl hl (by decide) rfl (fun ls hl => ?_)
  have qc0 : (0 : Int32).toInt = 0 := by decide
  refine wloop (fun n H locs ls => ∃ (l4_2 : Int32) (l4_1 : Int32) (f4_0_5 : Int32) (f4_1_3 : Int32) (f4_1_4 : Int32) (f4_1_5 : Int32) (f4_1_6 : Int64) (f4_1_7 : Int32), n = (2147483647 - l4_2.toInt).toNat ∧ ((0 ≤ f4_1_3.toInt ∧ f4_1_3.toInt ≤ 1000)) ∧ ((0 ≤ f4_1_5.toInt ∧ f4_1_5.toInt ≤ 1000)) ∧ (0 ≤ l4_2.toInt) ∧ (a0_5.toInt ≠ -1 → f4_0_5.toInt ≠ -1) ∧ lv_has ls 5 [(2, .int l4_2), (1, .int l4_1), (0, .ref a0)] ∧ va_P (dC, dI) vwCl [(a0, .inr (4, [.ref a0_0, .ref a0_1, .ref a0_2, .ref a0_3, .int a0_4, .int f4_0_5])), (a0_0, .inr (6, [.ref a0_0_0, .ref a0_0_1, .int a0_0_2, .int f4_1_3, .int f4_1_4, .int f4_1_5, .long f4_1_6, .int f4_1_7])), (a0_0_0, .inl (a0_0_0_c, 12, .inr (.inl a0_0_0_f))), (a0_0_1, .inl (a0_0_1_c, 1000, .inl a0_0_1_f)), (a0_1, .inl (a0_1_c, 36, .inr (.inl a0_1_f))), (a0_2, .inl (a0_2_c, 36, .inl a0_2_f)), (a0_3, .inl (a0_3_c, 36, .inl a0_3_f))] H ∧ va_D A [(a0, .inr (4, [.ref a0_0, .ref a0_1, .ref a0_2, .ref a0_3, .int a0_4, .int f4_0_5])), (a0_0, .inr (6, [.ref a0_0_0, .ref a0_0_1, .int a0_0_2, .int f4_1_3, .int f4_1_4, .int f4_1_5, .long f4_1_6, .int f4_1_7])), (a0_0_0, .inl (a0_0_0_c, 12, .inr (.inl a0_0_0_f))), (a0_0_1, .inl (a0_0_1_c, 1000, .inl a0_0_1_f)), (a0_1, .inl (a0_1_c, 36, .inr (.inl a0_1_f))), (a0_2, .inl (a0_2_c, 36, .inl a0_2_f)), (a0_3, .inl (a0_3_c, 36, .inl a0_3_f))] ∧ va_S A s.heap H locs) ?_ ((2147483647 - (0 : Int32).toInt).toNat) _ _ _ ⟨0, 0, a0_5, a0_0_3, a0_0_4, a0_0_5, a0_0_6, a0_0_7, rfl, (by omega), (by omega), (by omega), (by omega), lv_sub hl [0, 1, 2] rfl, hP, hD, hS⟩
  intro n4 H locs ls hI ih4
  obtain ⟨l4_2, l4_1, f4_0_5, f4_1_3, f4_1_4, f4_1_5, f4_1_6, f4_1_7, hn4, g_f4_1_3, g_f4_1_5, g_l4_2, gx4_0, hl, hP, hD, hS⟩ := hI
  have b_l4_2 := i32b l4_2
  have b_l4_1 := i32b l4_1
  have b_f4_0_5 := i32b f4_0_5
  have b_f4_1_3 := i32b f4_1_3
  have b_f4_1_4 := i32b f4_1_4
  have b_f4_1_5 := i32b f4_1_5
  have b_f4_1_7 := i32b f4_1_7
  refine lv_iload_n hx hb dX5_readPeopleOf_4 rfl (lv_at hl 0 rfl) ?_
  refine lv_iconst (v := 4) hx hb dX5_readPeopleOf_5 (by decide) ?_
  refine lv_icmp_gt (tgt := 88) hx hb dX5_readPeopleOf_6 (by decide) (fun c6_1 => ?_) (fun c6_1 => ?_)
  · have c6_1 : 4 < l4_2.toInt := (cv_lt (by decide) rfl).mp c6_1
    refine lv_iload_n hx hb dX5_readPeopleOf_88 rfl (lv_at hl 1 rfl) ?_
    refine W.widen (k := 0) (n := 0) (Nat.le_of_ble_eq_true rfl) (Nat.le_of_ble_eq_true rfl) ?_
    have hP9 := hP
    have hD9 := hD
    have hK9 := (rgK5_6e78cbf hK)
    have hf9_0 : (0 ≤ f4_1_3.toInt ∧ f4_1_3.toInt ≤ 1000) := by omega
    have hf9_1 : (0 ≤ f4_1_5.toInt ∧ f4_1_5.toInt ≤ 1000) := by omega
    have hf9_2 : (a0_5.toInt ≠ -1 → f4_0_5.toInt ≠ -1) := by omega
    exact W.iret (v := l4_1) hx hb hr (fun t ht hW => ⟨⟨l4_1, l4_1, rfl, rfl, f4_0_5, f4_1_3, f4_1_4, f4_1_5, f4_1_6, f4_1_7, hf9_0, hf9_1, hf9_2, atB ht hP9, va_K.moved hW.alike hK9, hD9⟩, hS.F ht⟩) hS.2.2 dX5_readPeopleOf_89
  · have c6_1 : ¬ (4 < l4_2.toInt) := mt (cv_lt (by decide) rfl).mpr c6_1
    refine lv_aload_n hx hb dX5_readPeopleOf_9 rfl (lv_at hl 2 rfl) ?_
    refine va_get (D := (dC, dI)) (ci := 4) (v := .ref a0_0) (C := RX5) (T := TX5) (N := 6) hx hb hts inlX5 hown hK hP 0 rgL7_2e0bc46 rfl 0 (by decide) (hts (.fieldLink RX5 12 "ClosedUntil$TextReader" "tokens" "LClosedUntil$Tokens;") qw_98) (fun _ h9 => h9) rfl dX5_readPeopleOf_10 ?_
    refine va_getN (D := (dC, dI)) (ci := 6) (v := .int f4_1_4) (C := RX7) (T := TX7) (N := 8) hx hb hts inlX7 hown hK hP 1 rgL7_c83edf0 rfl 4 (by decide) (va_Nw.use rfl (nf_2 hN)) (fun _ h9 => h9) rfl dX5_readPeopleOf_13 ?_
    refine lv_bipush (v := 6) hx hb dX5_readPeopleOf_16 (by decide) ?_
    refine lv_icmp_ne (tgt := 88) hx hb dX5_readPeopleOf_18 (by decide) (fun c18_2 => ?_) (fun c18_2 => ?_)
    · have c18_2 : ¬ (f4_1_4.toInt = 6) := mt (cv_eq rfl (by decide)).mpr c18_2
      refine lv_iload_n hx hb dX5_readPeopleOf_88 rfl (lv_at hl 1 rfl) ?_
      refine W.widen (k := 0) (n := 0) (Nat.le_of_ble_eq_true rfl) (Nat.le_of_ble_eq_true rfl) ?_
      have hP9 := hP
      have hD9 := hD
      have hK9 := (rgK5_6e78cbf hK)
      have hf9_0 : (0 ≤ f4_1_3.toInt ∧ f4_1_3.toInt ≤ 1000) := by omega
      have hf9_1 : (0 ≤ f4_1_5.toInt ∧ f4_1_5.toInt ≤ 1000) := by omega
      have hf9_2 : (a0_5.toInt ≠ -1 → f4_0_5.toInt ≠ -1) := by omega
      exact W.iret (v := l4_1) hx hb hr (fun t ht hW => ⟨⟨l4_1, l4_1, rfl, rfl, f4_0_5, f4_1_3, f4_1_4, f4_1_5, f4_1_6, f4_1_7, hf9_0, hf9_1, hf9_2, atB ht hP9, va_K.moved hW.alike hK9, hD9⟩, hS.F ht⟩) hS.2.2 dX5_readPeopleOf_89
    · have c18_2 : f4_1_4.toInt = 6 := (cv_eq rfl (by decide)).mp c18_2
      refine lv_iload_n hx hb dX5_readPeopleOf_21 rfl (lv_at hl 0 rfl) ?_
      refine lv_iconst (v := 4) hx hb dX5_readPeopleOf_22 (by decide) ?_
      refine lv_icmp_ne (tgt := 38) hx hb dX5_readPeopleOf_23 (by decide) (fun c23_3 => ?_) (fun c23_3 => ?_)
      · have c23_3 : ¬ (l4_2.toInt = 4) := mt (cv_eq rfl (by decide)).mpr c23_3
        refine lv_aload_n hx hb dX5_readPeopleOf_38 rfl (lv_at hl 2 rfl) ?_
        refine va_get (D := (dC, dI)) (ci := 4) (v := .ref a0_0) (C := RX5) (T := TX5) (N := 6) hx hb hts inlX5 hown hK hP 0 rgL7_2e0bc46 rfl 0 (by decide) (hts (.fieldLink RX5 12 "ClosedUntil$TextReader" "tokens" "LClosedUntil$Tokens;") qw_98) (fun _ h9 => h9) rfl dX5_readPeopleOf_39 ?_
        have hPc := (rgP7_a74a570 hP)
        have hKc := (rgK5_ee8ec44 hK)
        have hDc := (rgD7_2f58844 hD)
        have hFc := freeW hDc hS hA
        refine va_callv (va_runVN (As := []) (rest := []) ⟨hx, hb, hml, hown, hts⟩ (k_X7_advance l dC dI g H.size (a0_0) (a0_0_0) (a0_0_1) (a0_0_2) (f4_1_3) (f4_1_4) (f4_1_5) (f4_1_6) (f4_1_7) (a0_0_0_c) (a0_0_0_f) (a0_0_1_c) (a0_0_1_f) (by omega) (by omega) (by omega)) ⟨va_cnB 0 hts (gwC qw_93) rfl rfl rfl (nm_13 hN) (hts (.initialized RX7) qw_70) (by decide +kernel) ⟨Nat.le_of_ble_eq_true rfl, Nat.le_of_ble_eq_true rfl⟩, (hts (.instanceMethod yX7_advance) qw_95), (hts (.selects RX7 yX7_advance yX7_advance) qw_96)⟩ ⟨fun a U g9 mk q => ⟨q.1, q.2.1, q.2.2.1, va_K.moved (u := U) (U := U.calling g9 mk a) (Vm.Alike.refl U.vm) q.2.2.2.1, q.2.2.2.2.1, Ev.bl q.2.2.2.2.2⟩, va_recv hK hP (ci := 6) (q0 := 1) rfl rgL7_c83edf0, fun U hU hW => ⟨rfl, by rw [hU], atB hU hPc, va_K.moved hW.alike hKc, hDc.weaken (fun _ _ _ _ => trivial), hE.go hS hFc hU hW⟩⟩ rfl rfl hl.1 rfl (lv_room (Nat.le_of_ble_eq_true rfl)) dX5_readPeopleOf_42 ⟨Nat.le_of_ble_eq_true rfl, Nat.le_of_ble_eq_true rfl⟩) hS (fun q _ h => hFc q h) hFc (fun u4 t H1 locs ht hvm h_u4 hB hz1 hk1 hS => ?_)
        obtain ⟨za0_3_6, za0_4_7, za0_5_8, za0_6_9, za0_7_10, hF11, hF12, hP1, hK1, hD1⟩ := hB
        have hK1 := va_K.moved hvm.symm hK1
        have hJ9 := rgJ7_b862400 hP hD hk1 hFc (atH ht hP1) hD1
        clear hP hD hPc hKc hDc hFc hP1 hD1 hk1 hz1
        obtain ⟨hP, hD⟩ := hJ9
        clear hK1
        generalize H1 = H at hP hS ⊢
        refine W.widen (k := 0) (n := 0) (Nat.le_of_ble_eq_true rfl) (Nat.le_of_ble_eq_true rfl) ?_
        refine lv_aload_n hx hb dX5_readPeopleOf_45 rfl (lv_at hl 2 rfl) ?_
        refine va_get (D := (dC, dI)) (ci := 4) (v := .ref a0_0) (C := RX5) (T := TX5) (N := 6) hx hb hts inlX5 hown hK hP 0 rgL7_2e0bc46 rfl 0 (by decide) (hts (.fieldLink RX5 12 "ClosedUntil$TextReader" "tokens" "LClosedUntil$Tokens;") qw_98) (fun _ h9 => h9) rfl dX5_readPeopleOf_46 ?_
        refine va_getN (D := (dC, dI)) (ci := 6) (v := .int za0_5_8) (C := RX7) (T := TX7) (N := 8) hx hb hts inlX7 hown hK hP 1 rgL7_c83edf0 rfl 5 (by decide) (va_Nw.use rfl (nf_3 hN)) (fun _ h9 => h9) rfl dX5_readPeopleOf_49 ?_
        refine lv_istore_n (lv' := [(3, .int za0_5_8), (2, .int l4_2), (1, .int l4_1), (0, .ref a0)]) hx hb dX5_readPeopleOf_52 rfl hl (by decide) rfl (fun ls hl => ?_)
        refine lv_aload_n hx hb dX5_readPeopleOf_53 rfl (lv_at hl 3 rfl) ?_
        refine lv_iconst (v := 0) hx hb dX5_readPeopleOf_54 (by decide) ?_
        have qc0 : (0 : Int32).toInt = 0 := by decide
        have hPc := hP
        have hKc := hK
        have hDc := hD
        have hFc := freeW hDc hS hA
        refine va_calli (va_runV (As := [.int 0]) (rest := []) ⟨hx, hb, hml, hown, hts⟩ (k_X5_readName l dC dI g H.size (a0) (0) (a0_0) (a0_1) (a0_2) (a0_3) (a0_4) (f4_0_5) (a0_0_0) (a0_0_1) (a0_0_2) (za0_3_6) (za0_4_7) (za0_5_8) (za0_6_9) (za0_7_10) (a0_0_0_c) (a0_0_0_f) (a0_0_1_c) (a0_0_1_f) (a0_1_c) (a0_1_f) (a0_2_c) (a0_2_f) (a0_3_c) (a0_3_f) (by omega) (by omega) (by omega) (by omega) (by assumption)) (cwV 1 hts (gwV qw_121 qw_122 qw_123 qw_100 qw_120) rfl rfl rfl (by decide +kernel) ⟨Nat.le_of_ble_eq_true rfl, Nat.le_of_ble_eq_true rfl⟩) ⟨fun a U g9 mk q => ⟨q.1, q.2.1, q.2.2.1, va_K.moved (u := U) (U := U.calling g9 mk a) (Vm.Alike.refl U.vm) q.2.2.2.1, q.2.2.2.2.1, Ev.bl q.2.2.2.2.2⟩, va_recv hK hP (ci := 4) (q0 := 0) rfl rgL7_2e0bc46, fun U hU hW => ⟨rfl, by rw [hU], atB hU hPc, va_K.moved hW.alike hKc, hDc.weaken (fun _ _ _ _ => trivial), hE.go hS hFc hU hW⟩⟩ rfl rfl hl.1 rfl (lv_room (Nat.le_of_ble_eq_true rfl)) dX5_readPeopleOf_55 ⟨Nat.le_of_ble_eq_true rfl, Nat.le_of_ble_eq_true rfl⟩) hS (fun q _ h => hFc q h) hFc (fun r14 u13 t H1 locs ht hvm h_u13 hB hz1 hk1 hS => ?_)
        obtain ⟨za0_5_15, za0_0_3_16, za0_0_4_17, za0_0_5_18, za0_0_6_19, za0_0_7_20, hF21, hF22, hF23, hF24, hP1, hK1, hD1⟩ := hB
        have hK1 := va_K.moved hvm.symm hK1
        have hJ9 := rgJ7_74b057b hP hD hk1 hFc (atH ht hP1) hD1
        clear hP hD hPc hKc hDc hFc hP1 hD1 hk1 hz1
        obtain ⟨hP, hD⟩ := hJ9
        clear hK1
        generalize H1 = H at hP hS ⊢
        refine W.widen (k := 0) (n := 0) (Nat.le_of_ble_eq_true rfl) (Nat.le_of_ble_eq_true rfl) ?_
        have h_r14 := congrArg Int32.toInt h_u13
        have b_r14 := i32b r14
        refine lv_istore (lv' := [(4, .int r14), (3, .int za0_5_8), (2, .int l4_2), (1, .int l4_1), (0, .ref a0)]) hx hb dX5_readPeopleOf_58 hl (by decide) rfl (fun ls hl => ?_)
        refine lv_iload_n hx hb dX5_readPeopleOf_60 rfl (lv_at hl 3 rfl) ?_
        refine lv_iload hx hb dX5_readPeopleOf_61 (lv_at hl 0 rfl) ?_
        have hPc := (rgP7_0bb1494 hP)
        have hKc := (rgK5_6e78cbf hK)
        refine vp_callSi ((va_runSN (As := [.int l4_1, .int r14]) (rest := []) ⟨hx, hb, hml, hown, hts⟩ (k_X8_hasBit l dC dI g (l4_1) (r14) ) ⟨va_cnB 2 hts (gwC qw_27) rfl rfl rfl (nm_16 hN) (hts (.initialized RX8) qw_28) (by decide +kernel) ⟨Nat.le_of_ble_eq_true rfl, Nat.le_of_ble_eq_true rfl⟩, (hts (.static yX8_hasBit) qw_29), trivial⟩ ⟨fun a U g9 mk q => ⟨q.1, q.2.1, va_K.moved (u := U) (U := U.calling g9 mk a) (Vm.Alike.refl U.vm) q.2.2.1, Ev.bl q.2.2.2⟩, fun U hU hW => ⟨rfl, atB hU hPc, va_K.moved hW.alike hKc, hE.go hS (fun _ h => h.elim) hU hW⟩⟩ rfl rfl hl.1 rfl (lv_room (Nat.le_of_ble_eq_true rfl)) dX5_readPeopleOf_63 ⟨Nat.le_of_ble_eq_true rfl, Nat.le_of_ble_eq_true rfl⟩)).run (fun r25 h_r25 => ?_)
        have h_r25 : (r25 = 0 ∨ r25 = 1) := h_r25
        have b_r25 := z01 (show r25 = 0 ∨ r25 = 1 from h_r25)
        refine lv_if_eq (tgt := 75) hx hb dX5_readPeopleOf_66 (by decide) (fun c66_26 => ?_) (fun c66_26 => ?_)
        · have c66_26 : r25.toInt = 0 := (cv_eq rfl (by decide)).mp c66_26
          refine lv_iload_n hx hb dX5_readPeopleOf_75 rfl (lv_at hl 3 rfl) ?_
          refine lv_iconst (v := 1) hx hb dX5_readPeopleOf_76 (by decide) ?_
          refine lv_iload hx hb dX5_readPeopleOf_77 (lv_at hl 0 rfl) ?_
          refine lv_ishl hx hb dX5_readPeopleOf_79 ?_
          refine lv_topi (fun x27 e_x27 => ?_)
          refine lv_ior hx hb dX5_readPeopleOf_80 ?_
          refine lv_topi (fun x28 e_x28 => ?_)
          refine lv_istore_n (lv' := [(1, .int x28), (4, .int r14), (3, .int za0_5_8), (2, .int l4_2), (0, .ref a0)]) hx hb dX5_readPeopleOf_81 rfl hl (by decide) rfl (fun ls hl => ?_)
          obtain ⟨x29, e_x29⟩ : ∃ y : Int32, y = l4_2 + 1 := ⟨_, rfl⟩
          refine lv_iinc (v := x29) (lv' := [(2, .int x29), (1, .int x28), (4, .int r14), (3, .int za0_5_8), (0, .ref a0)]) hx hb dX5_readPeopleOf_82 hl (k := 3) rfl (by rw [e_x29]; rfl) (by decide) rfl (fun ls hl => ?_)
          try have e_x29 := ti_add e_x29 rfl (show (1 : Int32).toInt = 1 by decide) (by omega)
          refine lv_goto (tgt := 4) hx hb dX5_readPeopleOf_85 (by decide) ?_
          exact ih4 ((2147483647 - x29.toInt).toNat) _ _ _ (by omega) ⟨x29, x28, za0_5_15, za0_0_3_16, za0_0_4_17, za0_0_5_18, za0_0_6_19, za0_0_7_20, rfl, (by omega), (by omega), (by omega), (by omega), lv_sub hl [0, 1, 4] rfl, hP, hD, hS⟩
        · have c66_26 : ¬ (r25.toInt = 0) := mt (cv_eq rfl (by decide)).mpr c66_26
          refine lv_aload_n hx hb dX5_readPeopleOf_69 rfl (lv_at hl 4 rfl) ?_
          refine lv_iconst (v := 2) hx hb dX5_readPeopleOf_70 (by decide) ?_
          refine lv_iload_n hx hb dX5_readPeopleOf_71 rfl (lv_at hl 1 rfl) ?_
          have qc2 : (2 : Int32).toInt = 2 := by decide
          have hPc := (rgP7_244302c hP)
          have hKc := (rgK5_6e78cbf hK)
          have hDc := (rgD7_6d0fc28 hD)
          have hFc := freeW hDc hS hA
          refine va_callv (va_runV (As := [.int 2, .int za0_5_8]) (rest := []) ⟨hx, hb, hml, hown, hts⟩ (k_X5_fail l dC dI g H.size (a0) (2) (za0_5_8) (a0_0) (a0_1) (a0_2) (a0_3) (a0_4) (za0_5_15) (by omega) (by omega) (by omega)) (cwV 2 hts (gwV qw_105 qw_106 qw_107 qw_100 qw_104) rfl rfl rfl (by decide +kernel) ⟨Nat.le_of_ble_eq_true rfl, Nat.le_of_ble_eq_true rfl⟩) ⟨fun a U g9 mk q => ⟨q.1, q.2.1, q.2.2.1, va_K.moved (u := U) (U := U.calling g9 mk a) (Vm.Alike.refl U.vm) q.2.2.2.1, q.2.2.2.2.1, Ev.bl q.2.2.2.2.2⟩, va_recv hK hP (ci := 4) (q0 := 0) rfl rgL7_2e0bc46, fun U hU hW => ⟨rfl, by rw [hU], atB hU hPc, va_K.moved hW.alike hKc, hDc.weaken (fun _ _ _ _ => trivial), hE.go hS hFc hU hW⟩⟩ rfl rfl hl.1 rfl (lv_room (Nat.le_of_ble_eq_true rfl)) dX5_readPeopleOf_72 ⟨Nat.le_of_ble_eq_true rfl, Nat.le_of_ble_eq_true rfl⟩) hS (fun q _ h => hFc q h) hFc (fun u30 t H1 locs ht hvm h_u30 hB hz1 hk1 hS => ?_)
          obtain ⟨za0_5_32, hF33, hP1, hK1, hD1⟩ := hB
          have hK1 := va_K.moved hvm.symm hK1
          have hJ9 := rgJ7_b79231f hP hD hk1 hFc (atH ht hP1) hD1
          clear hP hD hPc hKc hDc hFc hP1 hD1 hk1 hz1
          obtain ⟨hP, hD⟩ := hJ9
          clear hK1
          generalize H1 = H at hP hS ⊢
          refine W.widen (k := 0) (n := 0) (Nat.le_of_ble_eq_true rfl) (Nat.le_of_ble_eq_true rfl) ?_
          refine lv_iload_n hx hb dX5_readPeopleOf_75 rfl (lv_at hl 3 rfl) ?_
          refine lv_iconst (v := 1) hx hb dX5_readPeopleOf_76 (by decide) ?_
          refine lv_iload hx hb dX5_readPeopleOf_77 (lv_at hl 0 rfl) ?_
          refine lv_ishl hx hb dX5_readPeopleOf_79 ?_
          refine lv_topi (fun x34 e_x34 => ?_)
          refine lv_ior hx hb dX5_readPeopleOf_80 ?_
          refine lv_topi (fun x35 e_x35 => ?_)
          refine lv_istore_n (lv' := [(1, .int x35), (4, .int r14), (3, .int za0_5_8), (2, .int l4_2), (0, .ref a0)]) hx hb dX5_readPeopleOf_81 rfl hl (by decide) rfl (fun ls hl => ?_)
          obtain ⟨x36, e_x36⟩ : ∃ y : Int32, y = l4_2 + 1 := ⟨_, rfl⟩
          refine lv_iinc (v := x36) (lv' := [(2, .int x36), (1, .int x35), (4, .int r14), (3, .int za0_5_8), (0, .ref a0)]) hx hb dX5_readPeopleOf_82 hl (k := 3) rfl (by rw [e_x36]; rfl) (by decide) rfl (fun ls hl => ?_)
          try have e_x36 := ti_add e_x36 rfl (show (1 : Int32).toInt = 1 by decide) (by omega)
          refine lv_goto (tgt := 4) hx hb dX5_readPeopleOf_85 (by decide) ?_
          exact ih4 ((2147483647 - x36.toInt).toNat) _ _ _ (by omega) ⟨x36, x35, za0_5_32, za0_0_3_16, za0_0_4_17, za0_0_5_18, za0_0_6_19, za0_0_7_20, rfl, (by omega), (by omega), (by omega), (by omega), lv_sub hl [0, 1, 4] rfl, hP, hD, hS⟩
      · have c23_3 : l4_2.toInt = 4 := (cv_eq rfl (by decide)).mp c23_3
        refine lv_aload_n hx hb dX5_readPeopleOf_26 rfl (lv_at hl 2 rfl) ?_
        refine lv_iconst (v := 5) hx hb dX5_readPeopleOf_27 (by decide) ?_
        refine lv_aload_n hx hb dX5_readPeopleOf_28 rfl (lv_at hl 2 rfl) ?_
        refine va_get (D := (dC, dI)) (ci := 4) (v := .ref a0_0) (C := RX5) (T := TX5) (N := 6) hx hb hts inlX5 hown hK hP 0 rgL7_2e0bc46 rfl 0 (by decide) (hts (.fieldLink RX5 12 "ClosedUntil$TextReader" "tokens" "LClosedUntil$Tokens;") qw_98) (fun _ h9 => h9) rfl dX5_readPeopleOf_29 ?_
        refine va_getN (D := (dC, dI)) (ci := 6) (v := .int f4_1_5) (C := RX7) (T := TX7) (N := 8) hx hb hts inlX7 hown hK hP 1 rgL7_c83edf0 rfl 5 (by decide) (va_Nw.use rfl (nf_3 hN)) (fun _ h9 => h9) rfl dX5_readPeopleOf_32 ?_
        have qc5 : (5 : Int32).toInt = 5 := by decide
        have hPc := (rgP7_244302c hP)
        have hKc := (rgK5_6e78cbf hK)
        have hDc := (rgD7_6d0fc28 hD)
        have hFc := freeW hDc hS hA
        refine va_callv (va_runV (As := [.int 5, .int f4_1_5]) (rest := []) ⟨hx, hb, hml, hown, hts⟩ (k_X5_fail l dC dI g H.size (a0) (5) (f4_1_5) (a0_0) (a0_1) (a0_2) (a0_3) (a0_4) (f4_0_5) (by omega) (by omega) (by omega)) (cwV 2 hts (gwV qw_105 qw_106 qw_107 qw_100 qw_104) rfl rfl rfl (by decide +kernel) ⟨Nat.le_of_ble_eq_true rfl, Nat.le_of_ble_eq_true rfl⟩) ⟨fun a U g9 mk q => ⟨q.1, q.2.1, q.2.2.1, va_K.moved (u := U) (U := U.calling g9 mk a) (Vm.Alike.refl U.vm) q.2.2.2.1, q.2.2.2.2.1, Ev.bl q.2.2.2.2.2⟩, va_recv hK hP (ci := 4) (q0 := 0) rfl rgL7_2e0bc46, fun U hU hW => ⟨rfl, by rw [hU], atB hU hPc, va_K.moved hW.alike hKc, hDc.weaken (fun _ _ _ _ => trivial), hE.go hS hFc hU hW⟩⟩ rfl rfl hl.1 rfl (lv_room (Nat.le_of_ble_eq_true rfl)) dX5_readPeopleOf_35 ⟨Nat.le_of_ble_eq_true rfl, Nat.le_of_ble_eq_true rfl⟩) hS (fun q _ h => hFc q h) hFc (fun u37 t H1 locs ht hvm h_u37 hB hz1 hk1 hS => ?_)
        obtain ⟨za0_5_39, hF40, hP1, hK1, hD1⟩ := hB
        have hK1 := va_K.moved hvm.symm hK1
        have hJ9 := rgJ7_b79231f hP hD hk1 hFc (atH ht hP1) hD1
        clear hP hD hPc hKc hDc hFc hP1 hD1 hk1 hz1
        obtain ⟨hP, hD⟩ := hJ9
        clear hK1
        generalize H1 = H at hP hS ⊢
        refine W.widen (k := 0) (n := 0) (Nat.le_of_ble_eq_true rfl) (Nat.le_of_ble_eq_true rfl) ?_
        refine lv_aload_n hx hb dX5_readPeopleOf_38 rfl (lv_at hl 2 rfl) ?_
        refine va_get (D := (dC, dI)) (ci := 4) (v := .ref a0_0) (C := RX5) (T := TX5) (N := 6) hx hb hts inlX5 hown hK hP 0 rgL7_2e0bc46 rfl 0 (by decide) (hts (.fieldLink RX5 12 "ClosedUntil$TextReader" "tokens" "LClosedUntil$Tokens;") qw_98) (fun _ h9 => h9) rfl dX5_readPeopleOf_39 ?_
        have hPc := (rgP7_a74a570 hP)
        have hKc := (rgK5_ee8ec44 hK)
        have hDc := (rgD7_2f58844 hD)
        have hFc := freeW hDc hS hA
        refine va_callv (va_runVN (As := []) (rest := []) ⟨hx, hb, hml, hown, hts⟩ (k_X7_advance l dC dI g H.size (a0_0) (a0_0_0) (a0_0_1) (a0_0_2) (f4_1_3) (f4_1_4) (f4_1_5) (f4_1_6) (f4_1_7) (a0_0_0_c) (a0_0_0_f) (a0_0_1_c) (a0_0_1_f) (by omega) (by omega) (by omega)) ⟨va_cnB 0 hts (gwC qw_93) rfl rfl rfl (nm_13 hN) (hts (.initialized RX7) qw_70) (by decide +kernel) ⟨Nat.le_of_ble_eq_true rfl, Nat.le_of_ble_eq_true rfl⟩, (hts (.instanceMethod yX7_advance) qw_95), (hts (.selects RX7 yX7_advance yX7_advance) qw_96)⟩ ⟨fun a U g9 mk q => ⟨q.1, q.2.1, q.2.2.1, va_K.moved (u := U) (U := U.calling g9 mk a) (Vm.Alike.refl U.vm) q.2.2.2.1, q.2.2.2.2.1, Ev.bl q.2.2.2.2.2⟩, va_recv hK hP (ci := 6) (q0 := 1) rfl rgL7_c83edf0, fun U hU hW => ⟨rfl, by rw [hU], atB hU hPc, va_K.moved hW.alike hKc, hDc.weaken (fun _ _ _ _ => trivial), hE.go hS hFc hU hW⟩⟩ rfl rfl hl.1 rfl (lv_room (Nat.le_of_ble_eq_true rfl)) dX5_readPeopleOf_42 ⟨Nat.le_of_ble_eq_true rfl, Nat.le_of_ble_eq_true rfl⟩) hS (fun q _ h => hFc q h) hFc (fun u41 t H1 locs ht hvm h_u41 hB hz1 hk1 hS => ?_)
        obtain ⟨za0_3_43, za0_4_44, za0_5_45, za0_6_46, za0_7_47, hF48, hF49, hP1, hK1, hD1⟩ := hB
        have hK1 := va_K.moved hvm.symm hK1
        have hJ9 := rgJ7_b862400 hP hD hk1 hFc (atH ht hP1) hD1
        clear hP hD hPc hKc hDc hFc hP1 hD1 hk1 hz1
        obtain ⟨hP, hD⟩ := hJ9
        clear hK1
        generalize H1 = H at hP hS ⊢
        refine W.widen (k := 0) (n := 0) (Nat.le_of_ble_eq_true rfl) (Nat.le_of_ble_eq_true rfl) ?_
        refine lv_aload_n hx hb dX5_readPeopleOf_45 rfl (lv_at hl 2 rfl) ?_
        refine va_get (D := (dC, dI)) (ci := 4) (v := .ref a0_0) (C := RX5) (T := TX5) (N := 6) hx hb hts inlX5 hown hK hP 0 rgL7_2e0bc46 rfl 0 (by decide) (hts (.fieldLink RX5 12 "ClosedUntil$TextReader" "tokens" "LClosedUntil$Tokens;") qw_98) (fun _ h9 => h9) rfl dX5_readPeopleOf_46 ?_
        refine va_getN (D := (dC, dI)) (ci := 6) (v := .int za0_5_45) (C := RX7) (T := TX7) (N := 8) hx hb hts inlX7 hown hK hP 1 rgL7_c83edf0 rfl 5 (by decide) (va_Nw.use rfl (nf_3 hN)) (fun _ h9 => h9) rfl dX5_readPeopleOf_49 ?_
        refine lv_istore_n (lv' := [(3, .int za0_5_45), (2, .int l4_2), (1, .int l4_1), (0, .ref a0)]) hx hb dX5_readPeopleOf_52 rfl hl (by decide) rfl (fun ls hl => ?_)
        refine lv_aload_n hx hb dX5_readPeopleOf_53 rfl (lv_at hl 3 rfl) ?_
        refine lv_iconst (v := 0) hx hb dX5_readPeopleOf_54 (by decide) ?_
        have qc0 : (0 : Int32).toInt = 0 := by decide
        have hPc := hP
        have hKc := hK
        have hDc := hD
        have hFc := freeW hDc hS hA
        refine va_calli (va_runV (As := [.int 0]) (rest := []) ⟨hx, hb, hml, hown, hts⟩ (k_X5_readName l dC dI g H.size (a0) (0) (a0_0) (a0_1) (a0_2) (a0_3) (a0_4) (za0_5_39) (a0_0_0) (a0_0_1) (a0_0_2) (za0_3_43) (za0_4_44) (za0_5_45) (za0_6_46) (za0_7_47) (a0_0_0_c) (a0_0_0_f) (a0_0_1_c) (a0_0_1_f) (a0_1_c) (a0_1_f) (a0_2_c) (a0_2_f) (a0_3_c) (a0_3_f) (by omega) (by omega) (by omega) (by omega) (by assumption)) (cwV 1 hts (gwV qw_121 qw_122 qw_123 qw_100 qw_120) rfl rfl rfl (by decide +kernel) ⟨Nat.le_of_ble_eq_true rfl, Nat.le_of_ble_eq_true rfl⟩) ⟨fun a U g9 mk q => ⟨q.1, q.2.1, q.2.2.1, va_K.moved (u := U) (U := U.calling g9 mk a) (Vm.Alike.refl U.vm) q.2.2.2.1, q.2.2.2.2.1, Ev.bl q.2.2.2.2.2⟩, va_recv hK hP (ci := 4) (q0 := 0) rfl rgL7_2e0bc46, fun U hU hW => ⟨rfl, by rw [hU], atB hU hPc, va_K.moved hW.alike hKc, hDc.weaken (fun _ _ _ _ => trivial), hE.go hS hFc hU hW⟩⟩ rfl rfl hl.1 rfl (lv_room (Nat.le_of_ble_eq_true rfl)) dX5_readPeopleOf_55 ⟨Nat.le_of_ble_eq_true rfl, Nat.le_of_ble_eq_true rfl⟩) hS (fun q _ h => hFc q h) hFc (fun r51 u50 t H1 locs ht hvm h_u50 hB hz1 hk1 hS => ?_)
        obtain ⟨za0_5_52, za0_0_3_53, za0_0_4_54, za0_0_5_55, za0_0_6_56, za0_0_7_57, hF58, hF59, hF60, hF61, hP1, hK1, hD1⟩ := hB
        have hK1 := va_K.moved hvm.symm hK1
        have hJ9 := rgJ7_74b057b hP hD hk1 hFc (atH ht hP1) hD1
        clear hP hD hPc hKc hDc hFc hP1 hD1 hk1 hz1
        obtain ⟨hP, hD⟩ := hJ9
        clear hK1
        generalize H1 = H at hP hS ⊢
        refine W.widen (k := 0) (n := 0) (Nat.le_of_ble_eq_true rfl) (Nat.le_of_ble_eq_true rfl) ?_
        have h_r51 := congrArg Int32.toInt h_u50
        have b_r51 := i32b r51
        refine lv_istore (lv' := [(4, .int r51), (3, .int za0_5_45), (2, .int l4_2), (1, .int l4_1), (0, .ref a0)]) hx hb dX5_readPeopleOf_58 hl (by decide) rfl (fun ls hl => ?_)
        refine lv_iload_n hx hb dX5_readPeopleOf_60 rfl (lv_at hl 3 rfl) ?_
        refine lv_iload hx hb dX5_readPeopleOf_61 (lv_at hl 0 rfl) ?_
        have hPc := (rgP7_0bb1494 hP)
        have hKc := (rgK5_6e78cbf hK)
        refine vp_callSi ((va_runSN (As := [.int l4_1, .int r51]) (rest := []) ⟨hx, hb, hml, hown, hts⟩ (k_X8_hasBit l dC dI g (l4_1) (r51) ) ⟨va_cnB 2 hts (gwC qw_27) rfl rfl rfl (nm_16 hN) (hts (.initialized RX8) qw_28) (by decide +kernel) ⟨Nat.le_of_ble_eq_true rfl, Nat.le_of_ble_eq_true rfl⟩, (hts (.static yX8_hasBit) qw_29), trivial⟩ ⟨fun a U g9 mk q => ⟨q.1, q.2.1, va_K.moved (u := U) (U := U.calling g9 mk a) (Vm.Alike.refl U.vm) q.2.2.1, Ev.bl q.2.2.2⟩, fun U hU hW => ⟨rfl, atB hU hPc, va_K.moved hW.alike hKc, hE.go hS (fun _ h => h.elim) hU hW⟩⟩ rfl rfl hl.1 rfl (lv_room (Nat.le_of_ble_eq_true rfl)) dX5_readPeopleOf_63 ⟨Nat.le_of_ble_eq_true rfl, Nat.le_of_ble_eq_true rfl⟩)).run (fun r62 h_r62 => ?_)
        have h_r62 : (r62 = 0 ∨ r62 = 1) := h_r62
        have b_r62 := z01 (show r62 = 0 ∨ r62 = 1 from h_r62)
        refine lv_if_eq (tgt := 75) hx hb dX5_readPeopleOf_66 (by decide) (fun c66_63 => ?_) (fun c66_63 => ?_)
        · have c66_63 : r62.toInt = 0 := (cv_eq rfl (by decide)).mp c66_63
          refine lv_iload_n hx hb dX5_readPeopleOf_75 rfl (lv_at hl 3 rfl) ?_
          refine lv_iconst (v := 1) hx hb dX5_readPeopleOf_76 (by decide) ?_
          refine lv_iload hx hb dX5_readPeopleOf_77 (lv_at hl 0 rfl) ?_
          refine lv_ishl hx hb dX5_readPeopleOf_79 ?_
          refine lv_topi (fun x64 e_x64 => ?_)
          refine lv_ior hx hb dX5_readPeopleOf_80 ?_
          refine lv_topi (fun x65 e_x65 => ?_)
          refine lv_istore_n (lv' := [(1, .int x65), (4, .int r51), (3, .int za0_5_45), (2, .int l4_2), (0, .ref a0)]) hx hb dX5_readPeopleOf_81 rfl hl (by decide) rfl (fun ls hl => ?_)
          obtain ⟨x66, e_x66⟩ : ∃ y : Int32, y = l4_2 + 1 := ⟨_, rfl⟩
          refine lv_iinc (v := x66) (lv' := [(2, .int x66), (1, .int x65), (4, .int r51), (3, .int za0_5_45), (0, .ref a0)]) hx hb dX5_readPeopleOf_82 hl (k := 3) rfl (by rw [e_x66]; rfl) (by decide) rfl (fun ls hl => ?_)
          try have e_x66 := ti_add e_x66 rfl (show (1 : Int32).toInt = 1 by decide) (by omega)
          refine lv_goto (tgt := 4) hx hb dX5_readPeopleOf_85 (by decide) ?_
          exact ih4 ((2147483647 - x66.toInt).toNat) _ _ _ (by omega) ⟨x66, x65, za0_5_52, za0_0_3_53, za0_0_4_54, za0_0_5_55, za0_0_6_56, za0_0_7_57, rfl, (by omega), (by omega), (by omega), (by omega), lv_sub hl [0, 1, 4] rfl, hP, hD, hS⟩
        · have c66_63 : ¬ (r62.toInt = 0) := mt (cv_eq rfl (by decide)).mpr c66_63
          refine lv_aload_n hx hb dX5_readPeopleOf_69 rfl (lv_at hl 4 rfl) ?_
          refine lv_iconst (v := 2) hx hb dX5_readPeopleOf_70 (by decide) ?_
          refine lv_iload_n hx hb dX5_readPeopleOf_71 rfl (lv_at hl 1 rfl) ?_
          have qc2 : (2 : Int32).toInt = 2 := by decide
          have hPc := (rgP7_244302c hP)
          have hKc := (rgK5_6e78cbf hK)
          have hDc := (rgD7_6d0fc28 hD)
          have hFc := freeW hDc hS hA
          refine va_callv (va_runV (As := [.int 2, .int za0_5_45]) (rest := []) ⟨hx, hb, hml, hown, hts⟩ (k_X5_fail l dC dI g H.size (a0) (2) (za0_5_45) (a0_0) (a0_1) (a0_2) (a0_3) (a0_4) (za0_5_52) (by omega) (by omega) (by omega)) (cwV 2 hts (gwV qw_105 qw_106 qw_107 qw_100 qw_104) rfl rfl rfl (by decide +kernel) ⟨Nat.le_of_ble_eq_true rfl, Nat.le_of_ble_eq_true rfl⟩) ⟨fun a U g9 mk q => ⟨q.1, q.2.1, q.2.2.1, va_K.moved (u := U) (U := U.calling g9 mk a) (Vm.Alike.refl U.vm) q.2.2.2.1, q.2.2.2.2.1, Ev.bl q.2.2.2.2.2⟩, va_recv hK hP (ci := 4) (q0 := 0) rfl rgL7_2e0bc46, fun U hU hW => ⟨rfl, by rw [hU], atB hU hPc, va_K.moved hW.alike hKc, hDc.weaken (fun _ _ _ _ => trivial), hE.go hS hFc hU hW⟩⟩ rfl rfl hl.1 rfl (lv_room (Nat.le_of_ble_eq_true rfl)) dX5_readPeopleOf_72 ⟨Nat.le_of_ble_eq_true rfl, Nat.le_of_ble_eq_true rfl⟩) hS (fun q _ h => hFc q h) hFc (fun u67 t H1 locs ht hvm h_u67 hB hz1 hk1 hS => ?_)
          obtain ⟨za0_5_69, hF70, hP1, hK1, hD1⟩ := hB
          have hK1 := va_K.moved hvm.symm hK1
          have hJ9 := rgJ7_b79231f hP hD hk1 hFc (atH ht hP1) hD1
          clear hP hD hPc hKc hDc hFc hP1 hD1 hk1 hz1
          obtain ⟨hP, hD⟩ := hJ9
          clear hK1
          generalize H1 = H at hP hS ⊢
          refine W.widen (k := 0) (n := 0) (Nat.le_of_ble_eq_true rfl) (Nat.le_of_ble_eq_true rfl) ?_
          refine lv_iload_n hx hb dX5_readPeopleOf_75 rfl (lv_at hl 3 rfl) ?_
          refine lv_iconst (v := 1) hx hb dX5_readPeopleOf_76 (by decide) ?_
          refine lv_iload hx hb dX5_readPeopleOf_77 (lv_at hl 0 rfl) ?_
          refine lv_ishl hx hb dX5_readPeopleOf_79 ?_
          refine lv_topi (fun x71 e_x71 => ?_)
          refine lv_ior hx hb dX5_readPeopleOf_80 ?_
          refine lv_topi (fun x72 e_x72 => ?_)
          refine lv_istore_n (lv' := [(1, .int x72), (4, .int r51), (3, .int za0_5_45), (2, .int l4_2), (0, .ref a0)]) hx hb dX5_readPeopleOf_81 rfl hl (by decide) rfl (fun ls hl => ?_)
          obtain ⟨x73, e_x73⟩ : ∃ y : Int32, y = l4_2 + 1 := ⟨_, rfl⟩
          refine lv_iinc (v := x73) (lv' := [(2, .int x73), (1, .int x72), (4, .int r51), (3, .int za0_5_45), (0, .ref a0)]) hx hb dX5_readPeopleOf_82 hl (k := 3) rfl (by rw [e_x73]; rfl) (by decide) rfl (fun ls hl => ?_)
          try have e_x73 := ti_add e_x73 rfl (show (1 : Int32).toInt = 1 by decide) (by omega)
          refine lv_goto (tgt := 4) hx hb dX5_readPeopleOf_85 (by decide) ?_
          exact ih4 ((2147483647 - x73.toInt).toNat) _ _ _ (by omega) ⟨x73, x72, za0_5_69, za0_0_3_53, za0_0_4_54, za0_0_5_55, za0_0_6_56, za0_0_7_57, rfl, (by omega), (by omega), (by omega), (by omega), lv_sub hl [0, 1, 4] rfl, hP, hD, hS⟩
