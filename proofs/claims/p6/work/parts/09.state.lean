theorem dX2_takeBackLatest_0 : decode cX2_takeBackLatest 0 = .ok (.aload_n 0, 1) := by decide +kernel
theorem dX2_takeBackLatest_1 : decode cX2_takeBackLatest 1 = .ok (.getfield 21, 3) := by decide +kernel
theorem dX2_takeBackLatest_4 : decode cX2_takeBackLatest 4 = .ok (.ifCond .ne 4, 3) := by decide +kernel
theorem dX2_takeBackLatest_7 : decode cX2_takeBackLatest 7 = .ok (.return_, 1) := by decide +kernel
theorem dX2_takeBackLatest_8 : decode cX2_takeBackLatest 8 = .ok (.aload_n 0, 1) := by decide +kernel
theorem dX2_takeBackLatest_9 : decode cX2_takeBackLatest 9 = .ok (.dup, 1) := by decide +kernel
theorem dX2_takeBackLatest_10 : decode cX2_takeBackLatest 10 = .ok (.getfield 21, 3) := by decide +kernel
theorem dX2_takeBackLatest_13 : decode cX2_takeBackLatest 13 = .ok (.iconst 1, 1) := by decide +kernel
theorem dX2_takeBackLatest_14 : decode cX2_takeBackLatest 14 = .ok (.isub, 1) := by decide +kernel
theorem dX2_takeBackLatest_15 : decode cX2_takeBackLatest 15 = .ok (.putfield 21, 3) := by decide +kernel
theorem dX2_takeBackLatest_18 : decode cX2_takeBackLatest 18 = .ok (.aload_n 0, 1) := by decide +kernel
theorem dX2_takeBackLatest_19 : decode cX2_takeBackLatest 19 = .ok (.getfield 15, 3) := by decide +kernel
theorem dX2_takeBackLatest_22 : decode cX2_takeBackLatest 22 = .ok (.aload_n 0, 1) := by decide +kernel
theorem dX2_takeBackLatest_23 : decode cX2_takeBackLatest 23 = .ok (.getfield 21, 3) := by decide +kernel
theorem dX2_takeBackLatest_26 : decode cX2_takeBackLatest 26 = .ok (.iaload, 1) := by decide +kernel
theorem dX2_takeBackLatest_27 : decode cX2_takeBackLatest 27 = .ok (.istore_n 2, 1) := by decide +kernel
theorem dX2_takeBackLatest_28 : decode cX2_takeBackLatest 28 = .ok (.aload_n 0, 1) := by decide +kernel
theorem dX2_takeBackLatest_29 : decode cX2_takeBackLatest 29 = .ok (.getfield 18, 3) := by decide +kernel
theorem dX2_takeBackLatest_32 : decode cX2_takeBackLatest 32 = .ok (.aload_n 0, 1) := by decide +kernel
theorem dX2_takeBackLatest_33 : decode cX2_takeBackLatest 33 = .ok (.getfield 21, 3) := by decide +kernel
theorem dX2_takeBackLatest_36 : decode cX2_takeBackLatest 36 = .ok (.iaload, 1) := by decide +kernel
theorem dX2_takeBackLatest_37 : decode cX2_takeBackLatest 37 = .ok (.istore_n 3, 1) := by decide +kernel
theorem dX2_takeBackLatest_38 : decode cX2_takeBackLatest 38 = .ok (.aload_n 0, 1) := by decide +kernel
theorem dX2_takeBackLatest_39 : decode cX2_takeBackLatest 39 = .ok (.getfield 9, 3) := by decide +kernel
theorem dX2_takeBackLatest_42 : decode cX2_takeBackLatest 42 = .ok (.aload_n 0, 1) := by decide +kernel
theorem dX2_takeBackLatest_43 : decode cX2_takeBackLatest 43 = .ok (.getfield 21, 3) := by decide +kernel
theorem dX2_takeBackLatest_46 : decode cX2_takeBackLatest 46 = .ok (.iaload, 1) := by decide +kernel
theorem dX2_takeBackLatest_47 : decode cX2_takeBackLatest 47 = .ok (.tableswitch 54 0 2 #[25, 34, 44], 25) := by decide +kernel
theorem dX2_takeBackLatest_72 : decode cX2_takeBackLatest 72 = .ok (.aload_n 1, 1) := by decide +kernel
theorem dX2_takeBackLatest_73 : decode cX2_takeBackLatest 73 = .ok (.iload_n 2, 1) := by decide +kernel
theorem dX2_takeBackLatest_74 : decode cX2_takeBackLatest 74 = .ok (.iload_n 3, 1) := by decide +kernel
theorem dX2_takeBackLatest_75 : decode cX2_takeBackLatest 75 = .ok (.invokevirtual 34, 3) := by decide +kernel
theorem dX2_takeBackLatest_78 : decode cX2_takeBackLatest 78 = .ok (.goto 30, 3) := by decide +kernel
theorem dX2_takeBackLatest_81 : decode cX2_takeBackLatest 81 = .ok (.aload_n 1, 1) := by decide +kernel
theorem dX2_takeBackLatest_82 : decode cX2_takeBackLatest 82 = .ok (.getfield 40, 3) := by decide +kernel
theorem dX2_takeBackLatest_85 : decode cX2_takeBackLatest 85 = .ok (.iload_n 2, 1) := by decide +kernel
theorem dX2_takeBackLatest_86 : decode cX2_takeBackLatest 86 = .ok (.iload_n 3, 1) := by decide +kernel
theorem dX2_takeBackLatest_87 : decode cX2_takeBackLatest 87 = .ok (.iastore, 1) := by decide +kernel
theorem dX2_takeBackLatest_88 : decode cX2_takeBackLatest 88 = .ok (.goto 20, 3) := by decide +kernel
theorem dX2_takeBackLatest_91 : decode cX2_takeBackLatest 91 = .ok (.aload_n 1, 1) := by decide +kernel
theorem dX2_takeBackLatest_92 : decode cX2_takeBackLatest 92 = .ok (.getfield 43, 3) := by decide +kernel
theorem dX2_takeBackLatest_95 : decode cX2_takeBackLatest 95 = .ok (.iload_n 2, 1) := by decide +kernel
theorem dX2_takeBackLatest_96 : decode cX2_takeBackLatest 96 = .ok (.iload_n 3, 1) := by decide +kernel
theorem dX2_takeBackLatest_97 : decode cX2_takeBackLatest 97 = .ok (.iastore, 1) := by decide +kernel
theorem dX2_takeBackLatest_98 : decode cX2_takeBackLatest 98 = .ok (.goto 10, 3) := by decide +kernel
theorem dX2_takeBackLatest_101 : decode cX2_takeBackLatest 101 = .ok (.aload_n 1, 1) := by decide +kernel
theorem dX2_takeBackLatest_102 : decode cX2_takeBackLatest 102 = .ok (.getfield 46, 3) := by decide +kernel
theorem dX2_takeBackLatest_105 : decode cX2_takeBackLatest 105 = .ok (.iload_n 2, 1) := by decide +kernel
theorem dX2_takeBackLatest_106 : decode cX2_takeBackLatest 106 = .ok (.iload_n 3, 1) := by decide +kernel
theorem dX2_takeBackLatest_107 : decode cX2_takeBackLatest 107 = .ok (.iastore, 1) := by decide +kernel
theorem dX2_takeBackLatest_108 : decode cX2_takeBackLatest 108 = .ok (.return_, 1) := by decide +kernel
theorem dX3_copyFrom_0 : decode cX3_copyFrom 0 = .ok (.aload_n 1, 1) := by decide +kernel
theorem dX3_copyFrom_1 : decode cX3_copyFrom 1 = .ok (.getfield 9, 3) := by decide +kernel
theorem dX3_copyFrom_4 : decode cX3_copyFrom 4 = .ok (.iconst 0, 1) := by decide +kernel
theorem dX3_copyFrom_5 : decode cX3_copyFrom 5 = .ok (.aload_n 0, 1) := by decide +kernel
theorem dX3_copyFrom_6 : decode cX3_copyFrom 6 = .ok (.getfield 9, 3) := by decide +kernel
theorem dX3_copyFrom_9 : decode cX3_copyFrom 9 = .ok (.iconst 0, 1) := by decide +kernel
theorem dX3_copyFrom_10 : decode cX3_copyFrom 10 = .ok (.bipush 24, 2) := by decide +kernel
theorem dX3_copyFrom_12 : decode cX3_copyFrom 12 = .ok (.invokestatic 35, 3) := by decide +kernel
theorem dX3_copyFrom_15 : decode cX3_copyFrom 15 = .ok (.aload_n 1, 1) := by decide +kernel
theorem dX3_copyFrom_16 : decode cX3_copyFrom 16 = .ok (.getfield 15, 3) := by decide +kernel
theorem dX3_copyFrom_19 : decode cX3_copyFrom 19 = .ok (.iconst 0, 1) := by decide +kernel
theorem dX3_copyFrom_20 : decode cX3_copyFrom 20 = .ok (.aload_n 0, 1) := by decide +kernel
theorem dX3_copyFrom_21 : decode cX3_copyFrom 21 = .ok (.getfield 15, 3) := by decide +kernel
theorem dX3_copyFrom_24 : decode cX3_copyFrom 24 = .ok (.iconst 0, 1) := by decide +kernel
theorem dX3_copyFrom_25 : decode cX3_copyFrom 25 = .ok (.bipush 8, 2) := by decide +kernel
theorem dX3_copyFrom_27 : decode cX3_copyFrom 27 = .ok (.invokestatic 35, 3) := by decide +kernel
theorem dX3_copyFrom_30 : decode cX3_copyFrom 30 = .ok (.aload_n 1, 1) := by decide +kernel
theorem dX3_copyFrom_31 : decode cX3_copyFrom 31 = .ok (.getfield 18, 3) := by decide +kernel
theorem dX3_copyFrom_34 : decode cX3_copyFrom 34 = .ok (.iconst 0, 1) := by decide +kernel
theorem dX3_copyFrom_35 : decode cX3_copyFrom 35 = .ok (.aload_n 0, 1) := by decide +kernel
theorem dX3_copyFrom_36 : decode cX3_copyFrom 36 = .ok (.getfield 18, 3) := by decide +kernel
theorem dX3_copyFrom_39 : decode cX3_copyFrom 39 = .ok (.iconst 0, 1) := by decide +kernel
theorem dX3_copyFrom_40 : decode cX3_copyFrom 40 = .ok (.bipush 12, 2) := by decide +kernel
theorem dX3_copyFrom_42 : decode cX3_copyFrom 42 = .ok (.invokestatic 35, 3) := by decide +kernel
theorem dX3_copyFrom_45 : decode cX3_copyFrom 45 = .ok (.aload_n 1, 1) := by decide +kernel
theorem dX3_copyFrom_46 : decode cX3_copyFrom 46 = .ok (.getfield 21, 3) := by decide +kernel
theorem dX3_copyFrom_49 : decode cX3_copyFrom 49 = .ok (.iconst 0, 1) := by decide +kernel
theorem dX3_copyFrom_50 : decode cX3_copyFrom 50 = .ok (.aload_n 0, 1) := by decide +kernel
theorem dX3_copyFrom_51 : decode cX3_copyFrom 51 = .ok (.getfield 21, 3) := by decide +kernel
theorem dX3_copyFrom_54 : decode cX3_copyFrom 54 = .ok (.iconst 0, 1) := by decide +kernel
theorem dX3_copyFrom_55 : decode cX3_copyFrom 55 = .ok (.bipush 12, 2) := by decide +kernel
theorem dX3_copyFrom_57 : decode cX3_copyFrom 57 = .ok (.invokestatic 35, 3) := by decide +kernel
theorem dX3_copyFrom_60 : decode cX3_copyFrom 60 = .ok (.iconst 0, 1) := by decide +kernel
theorem dX3_copyFrom_61 : decode cX3_copyFrom 61 = .ok (.istore_n 2, 1) := by decide +kernel
theorem dX3_copyFrom_62 : decode cX3_copyFrom 62 = .ok (.iload_n 2, 1) := by decide +kernel
theorem dX3_copyFrom_63 : decode cX3_copyFrom 63 = .ok (.bipush 12, 2) := by decide +kernel
theorem dX3_copyFrom_65 : decode cX3_copyFrom 65 = .ok (.if_icmp .ge 45, 3) := by decide +kernel
theorem dX3_copyFrom_68 : decode cX3_copyFrom 68 = .ok (.aload_n 1, 1) := by decide +kernel
theorem dX3_copyFrom_69 : decode cX3_copyFrom 69 = .ok (.getfield 26, 3) := by decide +kernel
theorem dX3_copyFrom_72 : decode cX3_copyFrom 72 = .ok (.iload_n 2, 1) := by decide +kernel
theorem dX3_copyFrom_73 : decode cX3_copyFrom 73 = .ok (.aaload, 1) := by decide +kernel
theorem dX3_copyFrom_74 : decode cX3_copyFrom 74 = .ok (.iconst 0, 1) := by decide +kernel
theorem dX3_copyFrom_75 : decode cX3_copyFrom 75 = .ok (.aload_n 0, 1) := by decide +kernel
theorem dX3_copyFrom_76 : decode cX3_copyFrom 76 = .ok (.getfield 26, 3) := by decide +kernel
theorem dX3_copyFrom_79 : decode cX3_copyFrom 79 = .ok (.iload_n 2, 1) := by decide +kernel
theorem dX3_copyFrom_80 : decode cX3_copyFrom 80 = .ok (.aaload, 1) := by decide +kernel
theorem dX3_copyFrom_81 : decode cX3_copyFrom 81 = .ok (.iconst 0, 1) := by decide +kernel
theorem dX3_copyFrom_82 : decode cX3_copyFrom 82 = .ok (.iconst 5, 1) := by decide +kernel
theorem dX3_copyFrom_83 : decode cX3_copyFrom 83 = .ok (.invokestatic 35, 3) := by decide +kernel
theorem dX3_copyFrom_86 : decode cX3_copyFrom 86 = .ok (.aload_n 1, 1) := by decide +kernel
theorem dX3_copyFrom_87 : decode cX3_copyFrom 87 = .ok (.getfield 29, 3) := by decide +kernel
theorem dX3_copyFrom_90 : decode cX3_copyFrom 90 = .ok (.iload_n 2, 1) := by decide +kernel
theorem dX3_copyFrom_91 : decode cX3_copyFrom 91 = .ok (.aaload, 1) := by decide +kernel
theorem dX3_copyFrom_92 : decode cX3_copyFrom 92 = .ok (.iconst 0, 1) := by decide +kernel
theorem dX3_copyFrom_93 : decode cX3_copyFrom 93 = .ok (.aload_n 0, 1) := by decide +kernel
theorem dX3_copyFrom_94 : decode cX3_copyFrom 94 = .ok (.getfield 29, 3) := by decide +kernel
theorem dX3_copyFrom_97 : decode cX3_copyFrom 97 = .ok (.iload_n 2, 1) := by decide +kernel
theorem dX3_copyFrom_98 : decode cX3_copyFrom 98 = .ok (.aaload, 1) := by decide +kernel
theorem dX3_copyFrom_99 : decode cX3_copyFrom 99 = .ok (.iconst 0, 1) := by decide +kernel
theorem dX3_copyFrom_100 : decode cX3_copyFrom 100 = .ok (.iconst 5, 1) := by decide +kernel
theorem dX3_copyFrom_101 : decode cX3_copyFrom 101 = .ok (.invokestatic 35, 3) := by decide +kernel
theorem dX3_copyFrom_104 : decode cX3_copyFrom 104 = .ok (.iinc 2 1, 3) := by decide +kernel
theorem dX3_copyFrom_107 : decode cX3_copyFrom 107 = .ok (.goto (-45), 3) := by decide +kernel
theorem dX3_copyFrom_110 : decode cX3_copyFrom 110 = .ok (.return_, 1) := by decide +kernel
theorem dX3_addReview_0 : decode cX3_addReview 0 = .ok (.aload_n 0, 1) := by decide +kernel
theorem dX3_addReview_1 : decode cX3_addReview 1 = .ok (.getfield 26, 3) := by decide +kernel
theorem dX3_addReview_4 : decode cX3_addReview 4 = .ok (.iload_n 1, 1) := by decide +kernel
theorem dX3_addReview_5 : decode cX3_addReview 5 = .ok (.aaload, 1) := by decide +kernel
theorem dX3_addReview_6 : decode cX3_addReview 6 = .ok (.astore 4, 2) := by decide +kernel
theorem dX3_addReview_8 : decode cX3_addReview 8 = .ok (.aload_n 0, 1) := by decide +kernel
theorem dX3_addReview_9 : decode cX3_addReview 9 = .ok (.getfield 29, 3) := by decide +kernel
theorem dX3_addReview_12 : decode cX3_addReview 12 = .ok (.iload_n 1, 1) := by decide +kernel
theorem dX3_addReview_13 : decode cX3_addReview 13 = .ok (.aaload, 1) := by decide +kernel
theorem dX3_addReview_14 : decode cX3_addReview 14 = .ok (.astore 5, 2) := by decide +kernel
theorem dX3_addReview_16 : decode cX3_addReview 16 = .ok (.aload_n 0, 1) := by decide +kernel
theorem dX3_addReview_17 : decode cX3_addReview 17 = .ok (.getfield 21, 3) := by decide +kernel
theorem dX3_addReview_20 : decode cX3_addReview 20 = .ok (.iload_n 1, 1) := by decide +kernel
theorem dX3_addReview_21 : decode cX3_addReview 21 = .ok (.iaload, 1) := by decide +kernel
theorem dX3_addReview_22 : decode cX3_addReview 22 = .ok (.istore 6, 2) := by decide +kernel
theorem dX3_addReview_24 : decode cX3_addReview 24 = .ok (.iload 6, 2) := by decide +kernel
theorem dX3_addReview_26 : decode cX3_addReview 26 = .ok (.ifCond .le 44, 3) := by decide +kernel
theorem dX3_addReview_29 : decode cX3_addReview 29 = .ok (.aload 4, 2) := by decide +kernel
theorem dX3_addReview_31 : decode cX3_addReview 31 = .ok (.iload 6, 2) := by decide +kernel
theorem dX3_addReview_33 : decode cX3_addReview 33 = .ok (.iconst 1, 1) := by decide +kernel
theorem dX3_addReview_34 : decode cX3_addReview 34 = .ok (.isub, 1) := by decide +kernel
theorem dX3_addReview_35 : decode cX3_addReview 35 = .ok (.iaload, 1) := by decide +kernel
theorem dX3_addReview_36 : decode cX3_addReview 36 = .ok (.iload_n 2, 1) := by decide +kernel
theorem dX3_addReview_37 : decode cX3_addReview 37 = .ok (.if_icmp .le 33, 3) := by decide +kernel
theorem dX3_addReview_40 : decode cX3_addReview 40 = .ok (.aload 4, 2) := by decide +kernel
theorem dX3_addReview_42 : decode cX3_addReview 42 = .ok (.iload 6, 2) := by decide +kernel
theorem dX3_addReview_44 : decode cX3_addReview 44 = .ok (.aload 4, 2) := by decide +kernel
theorem dX3_addReview_46 : decode cX3_addReview 46 = .ok (.iload 6, 2) := by decide +kernel
theorem dX3_addReview_48 : decode cX3_addReview 48 = .ok (.iconst 1, 1) := by decide +kernel
theorem dX3_addReview_49 : decode cX3_addReview 49 = .ok (.isub, 1) := by decide +kernel
theorem dX3_addReview_50 : decode cX3_addReview 50 = .ok (.iaload, 1) := by decide +kernel
theorem dX3_addReview_51 : decode cX3_addReview 51 = .ok (.iastore, 1) := by decide +kernel
theorem dX3_addReview_52 : decode cX3_addReview 52 = .ok (.aload 5, 2) := by decide +kernel
theorem dX3_addReview_54 : decode cX3_addReview 54 = .ok (.iload 6, 2) := by decide +kernel
theorem dX3_addReview_56 : decode cX3_addReview 56 = .ok (.aload 5, 2) := by decide +kernel
theorem dX3_addReview_58 : decode cX3_addReview 58 = .ok (.iload 6, 2) := by decide +kernel
theorem dX3_addReview_60 : decode cX3_addReview 60 = .ok (.iconst 1, 1) := by decide +kernel
theorem dX3_addReview_61 : decode cX3_addReview 61 = .ok (.isub, 1) := by decide +kernel
theorem dX3_addReview_62 : decode cX3_addReview 62 = .ok (.iaload, 1) := by decide +kernel
theorem dX3_addReview_63 : decode cX3_addReview 63 = .ok (.iastore, 1) := by decide +kernel
theorem dX3_addReview_64 : decode cX3_addReview 64 = .ok (.iinc 6 (-1), 3) := by decide +kernel
theorem dX3_addReview_67 : decode cX3_addReview 67 = .ok (.goto (-43), 3) := by decide +kernel
theorem dX3_addReview_70 : decode cX3_addReview 70 = .ok (.aload 4, 2) := by decide +kernel
theorem dX3_addReview_72 : decode cX3_addReview 72 = .ok (.iload 6, 2) := by decide +kernel
theorem dX3_addReview_74 : decode cX3_addReview 74 = .ok (.iload_n 2, 1) := by decide +kernel
theorem dX3_addReview_75 : decode cX3_addReview 75 = .ok (.iastore, 1) := by decide +kernel
theorem dX3_addReview_76 : decode cX3_addReview 76 = .ok (.aload 5, 2) := by decide +kernel
theorem dX3_addReview_78 : decode cX3_addReview 78 = .ok (.iload 6, 2) := by decide +kernel
theorem dX3_addReview_80 : decode cX3_addReview 80 = .ok (.iload_n 3, 1) := by decide +kernel
theorem dX3_addReview_81 : decode cX3_addReview 81 = .ok (.iastore, 1) := by decide +kernel
theorem dX3_addReview_82 : decode cX3_addReview 82 = .ok (.aload_n 0, 1) := by decide +kernel
theorem dX3_addReview_83 : decode cX3_addReview 83 = .ok (.getfield 21, 3) := by decide +kernel
theorem dX3_addReview_86 : decode cX3_addReview 86 = .ok (.iload_n 1, 1) := by decide +kernel
theorem dX3_addReview_87 : decode cX3_addReview 87 = .ok (.dup2, 1) := by decide +kernel
theorem dX3_addReview_88 : decode cX3_addReview 88 = .ok (.iaload, 1) := by decide +kernel
theorem dX3_addReview_89 : decode cX3_addReview 89 = .ok (.iconst 1, 1) := by decide +kernel
theorem dX3_addReview_90 : decode cX3_addReview 90 = .ok (.iadd, 1) := by decide +kernel
theorem dX3_addReview_91 : decode cX3_addReview 91 = .ok (.iastore, 1) := by decide +kernel
theorem dX3_addReview_92 : decode cX3_addReview 92 = .ok (.iload 6, 2) := by decide +kernel
theorem dX3_addReview_94 : decode cX3_addReview 94 = .ok (.ireturn, 1) := by decide +kernel
theorem dX3_dropReview_0 : decode cX3_dropReview 0 = .ok (.aload_n 0, 1) := by decide +kernel
theorem dX3_dropReview_1 : decode cX3_dropReview 1 = .ok (.getfield 26, 3) := by decide +kernel
theorem dX3_dropReview_4 : decode cX3_dropReview 4 = .ok (.iload_n 1, 1) := by decide +kernel
theorem dX3_dropReview_5 : decode cX3_dropReview 5 = .ok (.aaload, 1) := by decide +kernel
theorem dX3_dropReview_6 : decode cX3_dropReview 6 = .ok (.astore_n 3, 1) := by decide +kernel
theorem dX3_dropReview_7 : decode cX3_dropReview 7 = .ok (.aload_n 0, 1) := by decide +kernel
theorem dX3_dropReview_8 : decode cX3_dropReview 8 = .ok (.getfield 29, 3) := by decide +kernel
theorem dX3_dropReview_11 : decode cX3_dropReview 11 = .ok (.iload_n 1, 1) := by decide +kernel
theorem dX3_dropReview_12 : decode cX3_dropReview 12 = .ok (.aaload, 1) := by decide +kernel
theorem dX3_dropReview_13 : decode cX3_dropReview 13 = .ok (.astore 4, 2) := by decide +kernel
theorem dX3_dropReview_15 : decode cX3_dropReview 15 = .ok (.iload_n 2, 1) := by decide +kernel
theorem dX3_dropReview_16 : decode cX3_dropReview 16 = .ok (.istore 5, 2) := by decide +kernel
theorem dX3_dropReview_18 : decode cX3_dropReview 18 = .ok (.iload 5, 2) := by decide +kernel
theorem dX3_dropReview_20 : decode cX3_dropReview 20 = .ok (.iconst 1, 1) := by decide +kernel
theorem dX3_dropReview_21 : decode cX3_dropReview 21 = .ok (.iadd, 1) := by decide +kernel
theorem dX3_dropReview_22 : decode cX3_dropReview 22 = .ok (.aload_n 0, 1) := by decide +kernel
theorem dX3_dropReview_23 : decode cX3_dropReview 23 = .ok (.getfield 21, 3) := by decide +kernel
theorem dX3_dropReview_26 : decode cX3_dropReview 26 = .ok (.iload_n 1, 1) := by decide +kernel
theorem dX3_dropReview_27 : decode cX3_dropReview 27 = .ok (.iaload, 1) := by decide +kernel
theorem dX3_dropReview_28 : decode cX3_dropReview 28 = .ok (.if_icmp .ge 31, 3) := by decide +kernel
theorem dX3_dropReview_31 : decode cX3_dropReview 31 = .ok (.aload_n 3, 1) := by decide +kernel
theorem dX3_dropReview_32 : decode cX3_dropReview 32 = .ok (.iload 5, 2) := by decide +kernel
theorem dX3_dropReview_34 : decode cX3_dropReview 34 = .ok (.aload_n 3, 1) := by decide +kernel
theorem dX3_dropReview_35 : decode cX3_dropReview 35 = .ok (.iload 5, 2) := by decide +kernel
theorem dX3_dropReview_37 : decode cX3_dropReview 37 = .ok (.iconst 1, 1) := by decide +kernel
theorem dX3_dropReview_38 : decode cX3_dropReview 38 = .ok (.iadd, 1) := by decide +kernel
theorem dX3_dropReview_39 : decode cX3_dropReview 39 = .ok (.iaload, 1) := by decide +kernel
theorem dX3_dropReview_40 : decode cX3_dropReview 40 = .ok (.iastore, 1) := by decide +kernel
theorem dX3_dropReview_41 : decode cX3_dropReview 41 = .ok (.aload 4, 2) := by decide +kernel
theorem dX3_dropReview_43 : decode cX3_dropReview 43 = .ok (.iload 5, 2) := by decide +kernel
theorem dX3_dropReview_45 : decode cX3_dropReview 45 = .ok (.aload 4, 2) := by decide +kernel
theorem dX3_dropReview_47 : decode cX3_dropReview 47 = .ok (.iload 5, 2) := by decide +kernel
theorem dX3_dropReview_49 : decode cX3_dropReview 49 = .ok (.iconst 1, 1) := by decide +kernel
theorem dX3_dropReview_50 : decode cX3_dropReview 50 = .ok (.iadd, 1) := by decide +kernel
theorem dX3_dropReview_51 : decode cX3_dropReview 51 = .ok (.iaload, 1) := by decide +kernel
theorem dX3_dropReview_52 : decode cX3_dropReview 52 = .ok (.iastore, 1) := by decide +kernel
theorem dX3_dropReview_53 : decode cX3_dropReview 53 = .ok (.iinc 5 1, 3) := by decide +kernel
theorem dX3_dropReview_56 : decode cX3_dropReview 56 = .ok (.goto (-38), 3) := by decide +kernel
theorem dX3_dropReview_59 : decode cX3_dropReview 59 = .ok (.aload_n 0, 1) := by decide +kernel
theorem dX3_dropReview_60 : decode cX3_dropReview 60 = .ok (.getfield 21, 3) := by decide +kernel
theorem dX3_dropReview_63 : decode cX3_dropReview 63 = .ok (.iload_n 1, 1) := by decide +kernel
theorem dX3_dropReview_64 : decode cX3_dropReview 64 = .ok (.dup2, 1) := by decide +kernel
theorem dX3_dropReview_65 : decode cX3_dropReview 65 = .ok (.iaload, 1) := by decide +kernel
theorem dX3_dropReview_66 : decode cX3_dropReview 66 = .ok (.iconst 1, 1) := by decide +kernel
theorem dX3_dropReview_67 : decode cX3_dropReview 67 = .ok (.isub, 1) := by decide +kernel
theorem dX3_dropReview_68 : decode cX3_dropReview 68 = .ok (.iastore, 1) := by decide +kernel
theorem dX3_dropReview_69 : decode cX3_dropReview 69 = .ok (.return_, 1) := by decide +kernel
theorem qw_52 : (Cond.methodLink RX3 35 arraycopyName : Cond) ∈ TBL := List.mem_of_getElem? (i := 948) (by decide +kernel)
theorem qw_53 : (Cond.fieldLink RX3 26 "ClosedUntil$State" "reviewDay" "[[I" : Cond) ∈ TBL := List.mem_of_getElem? (i := 142) (by decide +kernel)
theorem qw_54 : (Cond.arrayClass .int : Cond) ∈ TBL := List.mem_of_getElem? (i := 56) (by decide +kernel)
theorem qw_55 : (Cond.fieldLink RX3 29 "ClosedUntil$State" "reviewYears" "[[I" : Cond) ∈ TBL := List.mem_of_getElem? (i := 143) (by decide +kernel)
theorem qw_56 : (Cond.code yX3_dropReview cX3_dropReview 6 none : Cond) ∈ TBL := List.mem_of_getElem? (i := 936) (by decide +kernel)
theorem qw_57 : (Cond.initialized RX3 : Cond) ∈ TBL := List.mem_of_getElem? (i := 32) (by decide +kernel)
theorem qw_58 : (Cond.instanceMethod yX3_dropReview : Cond) ∈ TBL := List.mem_of_getElem? (i := 934) (by decide +kernel)
theorem qw_59 : (Cond.selects RX3 yX3_dropReview yX3_dropReview : Cond) ∈ TBL := List.mem_of_getElem? (i := 935) (by decide +kernel)
theorem rgL14_c4833ba {c0 c1 c2 c3 c4 c5 c6 c7 c8 c9 c10 c11 c12 c13 : Nat × va_E} {R : va_W} : (([c0, c1, c2, c3, c4, c5, c6, c7, c8, c9, c10, c11, c12, c13] ++ R : va_W))[7]? = some c7 := rfl
theorem rgL14_6dc13f2 {c0 c1 c2 c3 c4 c5 c6 c7 c8 c9 c10 c11 c12 c13 : Nat × va_E} {R : va_W} : (([c0, c1, c2, c3, c4, c5, c6, c7, c8, c9, c10, c11, c12, c13] ++ R : va_W))[0]? = some c0 := rfl
theorem rgL14_18b012d {c0 c1 c2 c3 c4 c5 c6 c7 c8 c9 c10 c11 c12 c13 : Nat × va_E} {R : va_W} : (([c0, c1, c2, c3, c4, c5, c6, c7, c8, c9, c10, c11, c12, c13] ++ R : va_W))[8]? = some c8 := rfl
theorem rgL14_e97579d {c0 c1 c2 c3 c4 c5 c6 c7 c8 c9 c10 c11 c12 c13 : Nat × va_E} {R : va_W} : (([c0, c1, c2, c3, c4, c5, c6, c7, c8, c9, c10, c11, c12, c13] ++ R : va_W))[1]? = some c1 := rfl
theorem rgS14_f0b1637 {A : Nat → Prop} {D : va_G} {cl : List vw_C} {H : Heap} {c0 c1 c2 c3 c4 c5 c6 c7 c8 c9 c10 c11 c12 c13 : Nat × va_E} {R : va_W} {d e : Nat × va_E} (hP : va_P D cl (([c0, c1, c2, c3, c4, c5, c6, c7, c8, c9, c10, c11, c12, c13] ++ R).set 1 d) H) (hD : va_D A (([c0, c1, c2, c3, c4, c5, c6, c7, c8, c9, c10, c11, c12, c13] ++ R).set 1 d)) (h : d = e) : va_P D cl ([c0, e, c2, c3, c4, c5, c6, c7, c8, c9, c10, c11, c12, c13] ++ R) H ∧ va_D A ([c0, e, c2, c3, c4, c5, c6, c7, c8, c9, c10, c11, c12, c13] ++ R) := by subst h; exact ⟨hP, hD⟩
theorem rgL14_22b75ef {c0 c1 c2 c3 c4 c5 c6 c7 c8 c9 c10 c11 c12 c13 : Nat × va_E} {R : va_W} : (([c0, c1, c2, c3, c4, c5, c6, c7, c8, c9, c10, c11, c12, c13] ++ R : va_W))[9]? = some c9 := rfl
theorem rgL14_e7bad9d {c0 c1 c2 c3 c4 c5 c6 c7 c8 c9 c10 c11 c12 c13 : Nat × va_E} {R : va_W} : (([c0, c1, c2, c3, c4, c5, c6, c7, c8, c9, c10, c11, c12, c13] ++ R : va_W))[2]? = some c2 := rfl
theorem rgS14_3397b05 {A : Nat → Prop} {D : va_G} {cl : List vw_C} {H : Heap} {c0 c1 c2 c3 c4 c5 c6 c7 c8 c9 c10 c11 c12 c13 : Nat × va_E} {R : va_W} {d e : Nat × va_E} (hP : va_P D cl (([c0, c1, c2, c3, c4, c5, c6, c7, c8, c9, c10, c11, c12, c13] ++ R).set 2 d) H) (hD : va_D A (([c0, c1, c2, c3, c4, c5, c6, c7, c8, c9, c10, c11, c12, c13] ++ R).set 2 d)) (h : d = e) : va_P D cl ([c0, c1, e, c3, c4, c5, c6, c7, c8, c9, c10, c11, c12, c13] ++ R) H ∧ va_D A ([c0, c1, e, c3, c4, c5, c6, c7, c8, c9, c10, c11, c12, c13] ++ R) := by subst h; exact ⟨hP, hD⟩
theorem rgL14_f23dc93 {c0 c1 c2 c3 c4 c5 c6 c7 c8 c9 c10 c11 c12 c13 : Nat × va_E} {R : va_W} : (([c0, c1, c2, c3, c4, c5, c6, c7, c8, c9, c10, c11, c12, c13] ++ R : va_W))[10]? = some c10 := rfl
theorem rgL14_58d8a8e {c0 c1 c2 c3 c4 c5 c6 c7 c8 c9 c10 c11 c12 c13 : Nat × va_E} {R : va_W} : (([c0, c1, c2, c3, c4, c5, c6, c7, c8, c9, c10, c11, c12, c13] ++ R : va_W))[3]? = some c3 := rfl
theorem rgS14_27d9bf4 {A : Nat → Prop} {D : va_G} {cl : List vw_C} {H : Heap} {c0 c1 c2 c3 c4 c5 c6 c7 c8 c9 c10 c11 c12 c13 : Nat × va_E} {R : va_W} {d e : Nat × va_E} (hP : va_P D cl (([c0, c1, c2, c3, c4, c5, c6, c7, c8, c9, c10, c11, c12, c13] ++ R).set 3 d) H) (hD : va_D A (([c0, c1, c2, c3, c4, c5, c6, c7, c8, c9, c10, c11, c12, c13] ++ R).set 3 d)) (h : d = e) : va_P D cl ([c0, c1, c2, e, c4, c5, c6, c7, c8, c9, c10, c11, c12, c13] ++ R) H ∧ va_D A ([c0, c1, c2, e, c4, c5, c6, c7, c8, c9, c10, c11, c12, c13] ++ R) := by subst h; exact ⟨hP, hD⟩
theorem rgL14_b9da084 {c0 c1 c2 c3 c4 c5 c6 c7 c8 c9 c10 c11 c12 c13 : Nat × va_E} {R : va_W} : (([c0, c1, c2, c3, c4, c5, c6, c7, c8, c9, c10, c11, c12, c13] ++ R : va_W))[11]? = some c11 := rfl
theorem rgL14_69a3b92 {c0 c1 c2 c3 c4 c5 c6 c7 c8 c9 c10 c11 c12 c13 : Nat × va_E} {R : va_W} : (([c0, c1, c2, c3, c4, c5, c6, c7, c8, c9, c10, c11, c12, c13] ++ R : va_W))[4]? = some c4 := rfl
theorem rgS14_1ecdbfd {A : Nat → Prop} {D : va_G} {cl : List vw_C} {H : Heap} {c0 c1 c2 c3 c4 c5 c6 c7 c8 c9 c10 c11 c12 c13 : Nat × va_E} {R : va_W} {d e : Nat × va_E} (hP : va_P D cl (([c0, c1, c2, c3, c4, c5, c6, c7, c8, c9, c10, c11, c12, c13] ++ R).set 4 d) H) (hD : va_D A (([c0, c1, c2, c3, c4, c5, c6, c7, c8, c9, c10, c11, c12, c13] ++ R).set 4 d)) (h : d = e) : va_P D cl ([c0, c1, c2, c3, e, c5, c6, c7, c8, c9, c10, c11, c12, c13] ++ R) H ∧ va_D A ([c0, c1, c2, c3, e, c5, c6, c7, c8, c9, c10, c11, c12, c13] ++ R) := by subst h; exact ⟨hP, hD⟩
theorem rgK13_332f5b0 {D : va_G} {cl : List vw_C} {U : State} {t0 t1 t2 t3 t4 t5 t6 t7 t8 t9 t10 t11 t12 : ClassId × FieldType} (h : va_K D cl [t0, t1, t2, t3, t4, t5, t6, t7, t8, t9, t10, t11, t12] U) : va_K D cl [] U := h.sub (tys' := []) [] rfl
theorem rgL14_67a3d53 {c0 c1 c2 c3 c4 c5 c6 c7 c8 c9 c10 c11 c12 c13 : Nat × va_E} {R : va_W} : (([c0, c1, c2, c3, c4, c5, c6, c7, c8, c9, c10, c11, c12, c13] ++ R : va_W))[12]? = some c12 := rfl
theorem rgT13_2969950 {t0 t1 t2 t3 t4 t5 t6 t7 t8 t9 t10 t11 t12 : ClassId × FieldType} : (([t0, t1, t2, t3, t4, t5, t6, t7, t8, t9, t10, t11, t12] : List (ClassId × FieldType)))[10]? = some t10 := rfl
theorem rgL14_ef76522 {c0 c1 c2 c3 c4 c5 c6 c7 c8 c9 c10 c11 c12 c13 : Nat × va_E} {R : va_W} : (([c0, c1, c2, c3, c4, c5, c6, c7, c8, c9, c10, c11, c12, c13] ++ R : va_W))[5]? = some c5 := rfl
theorem rgT13_b1627a7 {t0 t1 t2 t3 t4 t5 t6 t7 t8 t9 t10 t11 t12 : ClassId × FieldType} : (([t0, t1, t2, t3, t4, t5, t6, t7, t8, t9, t10, t11, t12] : List (ClassId × FieldType)))[4]? = some t4 := rfl
theorem rgU14_ad94bfe {c0 c1 c2 c3 c4 c5 c6 c7 c8 c9 c10 c11 c12 c13 : Nat × va_E} {rows : va_W} {j : Nat} {v : Nat × va_E} (h : rows[j]? = some v) : ([c0, c1, c2, c3, c4, c5, c6, c7, c8, c9, c10, c11, c12, c13] ++ rows)[14 + j]? = some v := rowUp rfl h
theorem rgW14_4491592 {A : Nat → Prop} {D : va_G} {cl : List vw_C} {H : Heap} {c0 c1 c2 c3 c4 c5 c6 c7 c8 c9 c10 c11 c12 c13 : Nat × va_E} {rows rx : va_W} {j : Nat} {v : Nat × va_E} (hP : va_P D cl (([c0, c1, c2, c3, c4, c5, c6, c7, c8, c9, c10, c11, c12, c13] ++ rows).set (14 + j) v) H) (hD : va_D A (([c0, c1, c2, c3, c4, c5, c6, c7, c8, c9, c10, c11, c12, c13] ++ rows).set (14 + j) v)) (e : rows.set j v = rx) : va_P D cl ([c0, c1, c2, c3, c4, c5, c6, c7, c8, c9, c10, c11, c12, c13] ++ rx) H ∧ va_D A ([c0, c1, c2, c3, c4, c5, c6, c7, c8, c9, c10, c11, c12, c13] ++ rx) := by subst e; rw [rowSet (n := 14) rfl] at hP hD; exact ⟨hP, hD⟩
theorem rgL14_535458e {c0 c1 c2 c3 c4 c5 c6 c7 c8 c9 c10 c11 c12 c13 : Nat × va_E} {R : va_W} : (([c0, c1, c2, c3, c4, c5, c6, c7, c8, c9, c10, c11, c12, c13] ++ R : va_W))[13]? = some c13 := rfl
theorem rgT13_e41237c {t0 t1 t2 t3 t4 t5 t6 t7 t8 t9 t10 t11 t12 : ClassId × FieldType} : (([t0, t1, t2, t3, t4, t5, t6, t7, t8, t9, t10, t11, t12] : List (ClassId × FieldType)))[11]? = some t11 := rfl
theorem rgL14_9ce4a37 {c0 c1 c2 c3 c4 c5 c6 c7 c8 c9 c10 c11 c12 c13 : Nat × va_E} {R : va_W} : (([c0, c1, c2, c3, c4, c5, c6, c7, c8, c9, c10, c11, c12, c13] ++ R : va_W))[6]? = some c6 := rfl
theorem rgT13_1e1357f {t0 t1 t2 t3 t4 t5 t6 t7 t8 t9 t10 t11 t12 : ClassId × FieldType} : (([t0, t1, t2, t3, t4, t5, t6, t7, t8, t9, t10, t11, t12] : List (ClassId × FieldType)))[5]? = some t5 := rfl
theorem rgL4_6945f2e {c0 c1 c2 c3 : Nat × va_E} {R : va_W} : (([c0, c1, c2, c3] ++ R : va_W))[0]? = some c0 := rfl
theorem rgL4_97f54b4 {c0 c1 c2 c3 : Nat × va_E} {R : va_W} : (([c0, c1, c2, c3] ++ R : va_W))[2]? = some c2 := rfl
theorem rgL4_05dcacb {c0 c1 c2 c3 : Nat × va_E} {R : va_W} : (([c0, c1, c2, c3] ++ R : va_W))[3]? = some c3 := rfl
theorem rgL4_3765c98 {c0 c1 c2 c3 : Nat × va_E} {R : va_W} : (([c0, c1, c2, c3] ++ R : va_W))[1]? = some c1 := rfl
theorem rgU4_1dd8f5a {c0 c1 c2 c3 : Nat × va_E} {rows : va_W} {j : Nat} {v : Nat × va_E} (h : rows[j]? = some v) : ([c0, c1, c2, c3] ++ rows)[4 + j]? = some v := rowUp rfl h
theorem rgW4_1dbbc5a {A : Nat → Prop} {D : va_G} {cl : List vw_C} {H : Heap} {c0 c1 c2 c3 : Nat × va_E} {rows rx : va_W} {j : Nat} {v : Nat × va_E} (hP : va_P D cl (([c0, c1, c2, c3] ++ rows).set (4 + j) v) H) (hD : va_D A (([c0, c1, c2, c3] ++ rows).set (4 + j) v)) (e : rows.set j v = rx) : va_P D cl ([c0, c1, c2, c3] ++ rx) H ∧ va_D A ([c0, c1, c2, c3] ++ rx) := by subst e; rw [rowSet (n := 4) rfl] at hP hD; exact ⟨hP, hD⟩
theorem rgS4_a4d3d29 {A : Nat → Prop} {D : va_G} {cl : List vw_C} {H : Heap} {c0 c1 c2 c3 : Nat × va_E} {R : va_W} {d e : Nat × va_E} (hP : va_P D cl (([c0, c1, c2, c3] ++ R).set 1 d) H) (hD : va_D A (([c0, c1, c2, c3] ++ R).set 1 d)) (h : d = e) : va_P D cl ([c0, e, c2, c3] ++ R) H ∧ va_D A ([c0, e, c2, c3] ++ R) := by subst h; exact ⟨hP, hD⟩
theorem rgL11_b27e9f1 {c0 c1 c2 c3 c4 c5 c6 c7 c8 c9 c10 : Nat × va_E} {R : va_W} : (([c0, c1, c2, c3, c4, c5, c6, c7, c8, c9, c10] ++ R : va_W))[0]? = some c0 := rfl
theorem rgS11_4660afc {A : Nat → Prop} {D : va_G} {cl : List vw_C} {H : Heap} {c0 c1 c2 c3 c4 c5 c6 c7 c8 c9 c10 : Nat × va_E} {R : va_W} {d e : Nat × va_E} (hP : va_P D cl (([c0, c1, c2, c3, c4, c5, c6, c7, c8, c9, c10] ++ R).set 0 d) H) (hD : va_D A (([c0, c1, c2, c3, c4, c5, c6, c7, c8, c9, c10] ++ R).set 0 d)) (h : d = e) : va_P D cl ([e, c1, c2, c3, c4, c5, c6, c7, c8, c9, c10] ++ R) H ∧ va_D A ([e, c1, c2, c3, c4, c5, c6, c7, c8, c9, c10] ++ R) := by subst h; exact ⟨hP, hD⟩
theorem rgL11_df359c0 {c0 c1 c2 c3 c4 c5 c6 c7 c8 c9 c10 : Nat × va_E} {R : va_W} : (([c0, c1, c2, c3, c4, c5, c6, c7, c8, c9, c10] ++ R : va_W))[2]? = some c2 := rfl
theorem rgT10_bad6806 {t0 t1 t2 t3 t4 t5 t6 t7 t8 t9 : ClassId × FieldType} : (([t0, t1, t2, t3, t4, t5, t6, t7, t8, t9] : List (ClassId × FieldType)))[1]? = some t1 := rfl
theorem rgL11_7e76fd9 {c0 c1 c2 c3 c4 c5 c6 c7 c8 c9 c10 : Nat × va_E} {R : va_W} : (([c0, c1, c2, c3, c4, c5, c6, c7, c8, c9, c10] ++ R : va_W))[3]? = some c3 := rfl
theorem rgT10_261d576 {t0 t1 t2 t3 t4 t5 t6 t7 t8 t9 : ClassId × FieldType} : (([t0, t1, t2, t3, t4, t5, t6, t7, t8, t9] : List (ClassId × FieldType)))[2]? = some t2 := rfl
theorem rgL11_7ad3314 {c0 c1 c2 c3 c4 c5 c6 c7 c8 c9 c10 : Nat × va_E} {R : va_W} : (([c0, c1, c2, c3, c4, c5, c6, c7, c8, c9, c10] ++ R : va_W))[1]? = some c1 := rfl
theorem rgT10_b796b64 {t0 t1 t2 t3 t4 t5 t6 t7 t8 t9 : ClassId × FieldType} : (([t0, t1, t2, t3, t4, t5, t6, t7, t8, t9] : List (ClassId × FieldType)))[0]? = some t0 := rfl
theorem rgP11_a287b04 {D : va_G} {cl : List vw_C} {H : Heap} {c0 c1 c2 c3 c4 c5 c6 c7 c8 c9 c10 : Nat × va_E} {R : va_W} (h : va_P D cl ([c0, c1, c2, c3, c4, c5, c6, c7, c8, c9, c10] ++ R) H) : va_P D cl ([c4, c8, c9, c10] ++ R) H := h.part (X := [c0, c1, c2, c3, c4, c5, c6, c7, c8, c9, c10]) (cx := [c4, c8, c9, c10]) [4, 8, 9, 10] rfl
theorem rgK10_30e454f {D : va_G} {cl : List vw_C} {U : State} {t0 t1 t2 t3 t4 t5 t6 t7 t8 t9 : ClassId × FieldType} (h : va_K D cl [t0, t1, t2, t3, t4, t5, t6, t7, t8, t9] U) : va_K D cl [t6, t7, t8] U := h.sub (tys' := [t6, t7, t8]) [6, 7, 8] rfl
theorem rgD11_d6ef455 {A : Nat → Prop} {c0 c1 c2 c3 c4 c5 c6 c7 c8 c9 c10 : Nat × va_E} {R : va_W} (h : va_D A ([c0, c1, c2, c3, c4, c5, c6, c7, c8, c9, c10] ++ R)) : va_D A ([c4, c8, c9, c10] ++ R) := h.part (X := [c0, c1, c2, c3, c4, c5, c6, c7, c8, c9, c10]) (cx := [c4, c8, c9, c10]) [4, 8, 9, 10] (by decide +kernel) rfl
theorem rgL11_be39076 {c0 c1 c2 c3 c4 c5 c6 c7 c8 c9 c10 : Nat × va_E} {R : va_W} : (([c0, c1, c2, c3, c4, c5, c6, c7, c8, c9, c10] ++ R : va_W))[4]? = some c4 := rfl
theorem rgJ11_f558afe {A0 : Nat → Prop} {D : va_G} {cl : List vw_C} {H H1 : Heap} {c0 c1 c2 c3 c4 c5 c6 c7 c8 c9 c10 : Nat × va_E} {d0 d1 d2 d3 : Nat × va_E} {R R1 : va_W} (hP : va_P D cl ([c0, c1, c2, c3, c4, c5, c6, c7, c8, c9, c10] ++ R) H) (hD : va_D A0 ([c0, c1, c2, c3, c4, c5, c6, c7, c8, c9, c10] ++ R)) (hk : ∀ q : Nat, q < H.size → ¬ va_A ([c4, c8, c9, c10] ++ R) H.size q → H1[q]? = H[q]?) (hF : ∀ q, va_A ([c4, c8, c9, c10] ++ R) H.size q → A0 q) (hP1 : va_P D cl ([d0, d1, d2, d3] ++ R1) H1) (hD1 : va_D (va_A ([c4, c8, c9, c10] ++ R) H.size) ([d0, d1, d2, d3] ++ R1)) : va_P D cl ([c0, c1, c2, c3, d0, c5, c6, c7, d1, d2, d3] ++ R1) H1 ∧ va_D A0 ([c0, c1, c2, c3, d0, c5, c6, c7, d1, d2, d3] ++ R1) := by
  obtain ⟨h1, h2⟩ := va_joinP (X := [c0, c1, c2, c3, c4, c5, c6, c7, c8, c9, c10]) (cx := [c4, c8, c9, c10]) (wr := [c0, c1, c2, c3, c5, c6, c7]) (rx := [d0, d1, d2, d3]) hP hD [4, 8, 9, 10] [0, 1, 2, 3, 5, 6, 7] rfl rfl (by decide +kernel) (by decide +kernel) hk hF hP1 hD1
  exact ⟨va_P.part (X := [c0, c1, c2, c3, c5, c6, c7, d0, d1, d2, d3]) (cx := [c0, c1, c2, c3, d0, c5, c6, c7, d1, d2, d3]) h1 [0, 1, 2, 3, 7, 4, 5, 6, 8, 9, 10] rfl, va_D.part (X := [c0, c1, c2, c3, c5, c6, c7, d0, d1, d2, d3]) (cx := [c0, c1, c2, c3, d0, c5, c6, c7, d1, d2, d3]) h2 [0, 1, 2, 3, 7, 4, 5, 6, 8, 9, 10] (by decide +kernel) rfl⟩
theorem rgK10_59b8e2b {D : va_G} {cl : List vw_C} {U : State} {t0 t1 t2 t3 t4 t5 t6 t7 t8 t9 : ClassId × FieldType} (h : va_K D cl [t0, t1, t2, t3, t4, t5, t6, t7, t8, t9] U) : va_K D cl [] U := h.sub (tys' := []) [] rfl
theorem rgL11_db97465 {c0 c1 c2 c3 c4 c5 c6 c7 c8 c9 c10 : Nat × va_E} {R : va_W} : (([c0, c1, c2, c3, c4, c5, c6, c7, c8, c9, c10] ++ R : va_W))[7]? = some c7 := rfl
theorem rgT10_21c7d47 {t0 t1 t2 t3 t4 t5 t6 t7 t8 t9 : ClassId × FieldType} : (([t0, t1, t2, t3, t4, t5, t6, t7, t8, t9] : List (ClassId × FieldType)))[5]? = some t5 := rfl
theorem rgS11_f64cc55 {A : Nat → Prop} {D : va_G} {cl : List vw_C} {H : Heap} {c0 c1 c2 c3 c4 c5 c6 c7 c8 c9 c10 : Nat × va_E} {R : va_W} {d e : Nat × va_E} (hP : va_P D cl (([c0, c1, c2, c3, c4, c5, c6, c7, c8, c9, c10] ++ R).set 7 d) H) (hD : va_D A (([c0, c1, c2, c3, c4, c5, c6, c7, c8, c9, c10] ++ R).set 7 d)) (h : d = e) : va_P D cl ([c0, c1, c2, c3, c4, c5, c6, e, c8, c9, c10] ++ R) H ∧ va_D A ([c0, c1, c2, c3, c4, c5, c6, e, c8, c9, c10] ++ R) := by subst h; exact ⟨hP, hD⟩
theorem rgL11_af8e928 {c0 c1 c2 c3 c4 c5 c6 c7 c8 c9 c10 : Nat × va_E} {R : va_W} : (([c0, c1, c2, c3, c4, c5, c6, c7, c8, c9, c10] ++ R : va_W))[6]? = some c6 := rfl
theorem rgT10_054400c {t0 t1 t2 t3 t4 t5 t6 t7 t8 t9 : ClassId × FieldType} : (([t0, t1, t2, t3, t4, t5, t6, t7, t8, t9] : List (ClassId × FieldType)))[4]? = some t4 := rfl
theorem rgS11_551c18d {A : Nat → Prop} {D : va_G} {cl : List vw_C} {H : Heap} {c0 c1 c2 c3 c4 c5 c6 c7 c8 c9 c10 : Nat × va_E} {R : va_W} {d e : Nat × va_E} (hP : va_P D cl (([c0, c1, c2, c3, c4, c5, c6, c7, c8, c9, c10] ++ R).set 6 d) H) (hD : va_D A (([c0, c1, c2, c3, c4, c5, c6, c7, c8, c9, c10] ++ R).set 6 d)) (h : d = e) : va_P D cl ([c0, c1, c2, c3, c4, c5, e, c7, c8, c9, c10] ++ R) H ∧ va_D A ([c0, c1, c2, c3, c4, c5, e, c7, c8, c9, c10] ++ R) := by subst h; exact ⟨hP, hD⟩
theorem rgL11_f259af2 {c0 c1 c2 c3 c4 c5 c6 c7 c8 c9 c10 : Nat × va_E} {R : va_W} : (([c0, c1, c2, c3, c4, c5, c6, c7, c8, c9, c10] ++ R : va_W))[5]? = some c5 := rfl
theorem rgT10_9dd1bcb {t0 t1 t2 t3 t4 t5 t6 t7 t8 t9 : ClassId × FieldType} : (([t0, t1, t2, t3, t4, t5, t6, t7, t8, t9] : List (ClassId × FieldType)))[3]? = some t3 := rfl
theorem rgS11_0052bbd {A : Nat → Prop} {D : va_G} {cl : List vw_C} {H : Heap} {c0 c1 c2 c3 c4 c5 c6 c7 c8 c9 c10 : Nat × va_E} {R : va_W} {d e : Nat × va_E} (hP : va_P D cl (([c0, c1, c2, c3, c4, c5, c6, c7, c8, c9, c10] ++ R).set 5 d) H) (hD : va_D A (([c0, c1, c2, c3, c4, c5, c6, c7, c8, c9, c10] ++ R).set 5 d)) (h : d = e) : va_P D cl ([c0, c1, c2, c3, c4, e, c6, c7, c8, c9, c10] ++ R) H ∧ va_D A ([c0, c1, c2, c3, c4, e, c6, c7, c8, c9, c10] ++ R) := by subst h; exact ⟨hP, hD⟩
set_option maxHeartbeats 4000000 in
set_option maxRecDepth 100000 in
theorem k_X3_copyFrom (l : Launch) (dC : Nat → ClassId) (dI : Nat → Nat → Nat) (g : Gv) (sz : Nat) (a0 : Nat) (a1 : Nat) (a0_0 : Nat) (a0_1 : Nat) (a0_2 : Nat) (a0_3 : Nat) (a0_4 : Nat) (a0_5 : Nat) (a0_0_c : ClassId) (a0_0_f : Nat → Int32) (a0_1_c : ClassId) (a0_1_f : Nat → Int32) (a0_2_c : ClassId) (a0_2_f : Nat → Int32) (a0_3_c : ClassId) (a0_3_f : Nat → Int32) (a0_4_c : ClassId) (a0_4_f : Nat → Option Nat) (a0_5_c : ClassId) (a0_5_f : Nat → Option Nat) (a1_0 : Nat) (a1_1 : Nat) (a1_2 : Nat) (a1_3 : Nat) (a1_4 : Nat) (a1_5 : Nat) (a1_0_c : ClassId) (a1_0_f : Nat → Int32) (a1_1_c : ClassId) (a1_1_f : Nat → Int32) (a1_2_c : ClassId) (a1_2_f : Nat → Int32) (a1_3_c : ClassId) (a1_3_f : Nat → Int32) (a1_4_c : ClassId) (a1_4_f : Nat → Option Nat) (a1_5_c : ClassId) (a1_5_f : Nat → Option Nat) (rows : va_W) (h_a0_3_f : vr 0 5 a0_3_f) (h_a0_4_f : GR g.2.2.2.2.1 5 12 a0_4_f rows) (h_a0_5_f : GR g.2.2.2.2.1 5 12 a0_5_f rows) (h_a1_3_f : vr 0 5 a1_3_f) (h_a1_4_f : GR g.2.2.2.2.1 5 12 a1_4_f rows) (h_a1_5_f : GR g.2.2.2.2.1 5 12 a1_5_f rows) : Met l yX3_copyFrom (.code yX3_copyFrom cX3_copyFrom 3 none :: TBL) ({ frames := 1, cells := 0, slots := 0, locals := 50 }) (va_Pc [.ref a0, .ref a1] (fun U => U.heap.size = sz ∧ va_P (dC, dI) vwCl (([(a0, .inr (2, [.ref a0_0, .ref a0_1, .ref a0_2, .ref a0_3, .ref a0_4, .ref a0_5])), (a0_0, .inl (a0_0_c, 24, .inl a0_0_f)), (a0_1, .inl (a0_1_c, 8, .inl a0_1_f)), (a0_2, .inl (a0_2_c, 12, .inl a0_2_f)), (a0_3, .inl (a0_3_c, 12, .inl a0_3_f)), (a0_4, .inl (a0_4_c, 12, .inr (.inr (.inr (.inr a0_4_f))))), (a0_5, .inl (a0_5_c, 12, .inr (.inr (.inr (.inr a0_5_f))))), (a1, .inr (2, [.ref a1_0, .ref a1_1, .ref a1_2, .ref a1_3, .ref a1_4, .ref a1_5])), (a1_0, .inl (a1_0_c, 24, .inl a1_0_f)), (a1_1, .inl (a1_1_c, 8, .inl a1_1_f)), (a1_2, .inl (a1_2_c, 12, .inl a1_2_f)), (a1_3, .inl (a1_3_c, 12, .inl a1_3_f)), (a1_4, .inl (a1_4_c, 12, .inr (.inr (.inr (.inr a1_4_f))))), (a1_5, .inl (a1_5_c, 12, .inr (.inr (.inr (.inr a1_5_f)))))] : va_W) ++ rows) U.heap ∧ va_K (dC, dI) vwCl [(a0_0_c, .int), (a0_1_c, .int), (a0_2_c, .int), (a0_3_c, .int), (a0_4_c, .array .int), (a0_5_c, .array .int), (a1_0_c, .int), (a1_1_c, .int), (a1_2_c, .int), (a1_3_c, .int), (a1_4_c, .array .int), (a1_5_c, .array .int)] U ∧ va_D (fun _ => True) (([(a0, .inr (2, [.ref a0_0, .ref a0_1, .ref a0_2, .ref a0_3, .ref a0_4, .ref a0_5])), (a0_0, .inl (a0_0_c, 24, .inl a0_0_f)), (a0_1, .inl (a0_1_c, 8, .inl a0_1_f)), (a0_2, .inl (a0_2_c, 12, .inl a0_2_f)), (a0_3, .inl (a0_3_c, 12, .inl a0_3_f)), (a0_4, .inl (a0_4_c, 12, .inr (.inr (.inr (.inr a0_4_f))))), (a0_5, .inl (a0_5_c, 12, .inr (.inr (.inr (.inr a0_5_f))))), (a1, .inr (2, [.ref a1_0, .ref a1_1, .ref a1_2, .ref a1_3, .ref a1_4, .ref a1_5])), (a1_0, .inl (a1_0_c, 24, .inl a1_0_f)), (a1_1, .inl (a1_1_c, 8, .inl a1_1_f)), (a1_2, .inl (a1_2_c, 12, .inl a1_2_f)), (a1_3, .inl (a1_3_c, 12, .inl a1_3_f)), (a1_4, .inl (a1_4_c, 12, .inr (.inr (.inr (.inr a1_4_f))))), (a1_5, .inl (a1_5_c, 12, .inr (.inr (.inr (.inr a1_5_f)))))] : va_W) ++ rows) ∧ Ev g (va_A (([(a0, .inr (2, [.ref a0_0, .ref a0_1, .ref a0_2, .ref a0_3, .ref a0_4, .ref a0_5])), (a0_0, .inl (a0_0_c, 24, .inl a0_0_f)), (a0_1, .inl (a0_1_c, 8, .inl a0_1_f)), (a0_2, .inl (a0_2_c, 12, .inl a0_2_f)), (a0_3, .inl (a0_3_c, 12, .inl a0_3_f)), (a0_4, .inl (a0_4_c, 12, .inr (.inr (.inr (.inr a0_4_f))))), (a0_5, .inl (a0_5_c, 12, .inr (.inr (.inr (.inr a0_5_f))))), (a1, .inr (2, [.ref a1_0, .ref a1_1, .ref a1_2, .ref a1_3, .ref a1_4, .ref a1_5])), (a1_0, .inl (a1_0_c, 24, .inl a1_0_f)), (a1_1, .inl (a1_1_c, 8, .inl a1_1_f)), (a1_2, .inl (a1_2_c, 12, .inl a1_2_f)), (a1_3, .inl (a1_3_c, 12, .inl a1_3_f)), (a1_4, .inl (a1_4_c, 12, .inr (.inr (.inr (.inr a1_4_f))))), (a1_5, .inl (a1_5_c, 12, .inr (.inr (.inr (.inr a1_5_f)))))] : va_W) ++ rows) sz) U)) (va_Qv (fun (_ : Unit) => True) (fun (_ : Unit) (t : State) => ∃ (za0_0_f : Nat → Int32) (za0_1_f : Nat → Int32) (za0_2_f : Nat → Int32) (za0_3_f : Nat → Int32) (zrows : va_W), vr 0 5 za0_3_f ∧ RS g.2.2.2.2.1 rows zrows ∧ va_P (dC, dI) vwCl (([(a0, .inr (2, [.ref a0_0, .ref a0_1, .ref a0_2, .ref a0_3, .ref a0_4, .ref a0_5])), (a0_0, .inl (a0_0_c, 24, .inl za0_0_f)), (a0_1, .inl (a0_1_c, 8, .inl za0_1_f)), (a0_2, .inl (a0_2_c, 12, .inl za0_2_f)), (a0_3, .inl (a0_3_c, 12, .inl za0_3_f)), (a0_4, .inl (a0_4_c, 12, .inr (.inr (.inr (.inr a0_4_f))))), (a0_5, .inl (a0_5_c, 12, .inr (.inr (.inr (.inr a0_5_f))))), (a1, .inr (2, [.ref a1_0, .ref a1_1, .ref a1_2, .ref a1_3, .ref a1_4, .ref a1_5])), (a1_0, .inl (a1_0_c, 24, .inl a1_0_f)), (a1_1, .inl (a1_1_c, 8, .inl a1_1_f)), (a1_2, .inl (a1_2_c, 12, .inl a1_2_f)), (a1_3, .inl (a1_3_c, 12, .inl a1_3_f)), (a1_4, .inl (a1_4_c, 12, .inr (.inr (.inr (.inr a1_4_f))))), (a1_5, .inl (a1_5_c, 12, .inr (.inr (.inr (.inr a1_5_f)))))] : va_W) ++ zrows) t.heap ∧ va_K (dC, dI) vwCl [] t ∧ va_D (va_A (([(a0, .inr (2, [.ref a0_0, .ref a0_1, .ref a0_2, .ref a0_3, .ref a0_4, .ref a0_5])), (a0_0, .inl (a0_0_c, 24, .inl a0_0_f)), (a0_1, .inl (a0_1_c, 8, .inl a0_1_f)), (a0_2, .inl (a0_2_c, 12, .inl a0_2_f)), (a0_3, .inl (a0_3_c, 12, .inl a0_3_f)), (a0_4, .inl (a0_4_c, 12, .inr (.inr (.inr (.inr a0_4_f))))), (a0_5, .inl (a0_5_c, 12, .inr (.inr (.inr (.inr a0_5_f))))), (a1, .inr (2, [.ref a1_0, .ref a1_1, .ref a1_2, .ref a1_3, .ref a1_4, .ref a1_5])), (a1_0, .inl (a1_0_c, 24, .inl a1_0_f)), (a1_1, .inl (a1_1_c, 8, .inl a1_1_f)), (a1_2, .inl (a1_2_c, 12, .inl a1_2_f)), (a1_3, .inl (a1_3_c, 12, .inl a1_3_f)), (a1_4, .inl (a1_4_c, 12, .inr (.inr (.inr (.inr a1_4_f))))), (a1_5, .inl (a1_5_c, 12, .inr (.inr (.inr (.inr a1_5_f)))))] : va_W) ++ rows) sz) (([(a0, .inr (2, [.ref a0_0, .ref a0_1, .ref a0_2, .ref a0_3, .ref a0_4, .ref a0_5])), (a0_0, .inl (a0_0_c, 24, .inl za0_0_f)), (a0_1, .inl (a0_1_c, 8, .inl za0_1_f)), (a0_2, .inl (a0_2_c, 12, .inl za0_2_f)), (a0_3, .inl (a0_3_c, 12, .inl za0_3_f)), (a0_4, .inl (a0_4_c, 12, .inr (.inr (.inr (.inr a0_4_f))))), (a0_5, .inl (a0_5_c, 12, .inr (.inr (.inr (.inr a0_5_f))))), (a1, .inr (2, [.ref a1_0, .ref a1_1, .ref a1_2, .ref a1_3, .ref a1_4, .ref a1_5])), (a1_0, .inl (a1_0_c, 24, .inl a1_0_f)), (a1_1, .inl (a1_1_c, 8, .inl a1_1_f)), (a1_2, .inl (a1_2_c, 12, .inl a1_2_f)), (a1_3, .inl (a1_3_c, 12, .inl a1_3_f)), (a1_4, .inl (a1_4_c, 12, .inr (.inr (.inr (.inr a1_4_f))))), (a1_5, .inl (a1_5_c, 12, .inr (.inr (.inr (.inr a1_5_f)))))] : va_W) ++ zrows)) (va_A (([(a0, .inr (2, [.ref a0_0, .ref a0_1, .ref a0_2, .ref a0_3, .ref a0_4, .ref a0_5])), (a0_0, .inl (a0_0_c, 24, .inl a0_0_f)), (a0_1, .inl (a0_1_c, 8, .inl a0_1_f)), (a0_2, .inl (a0_2_c, 12, .inl a0_2_f)), (a0_3, .inl (a0_3_c, 12, .inl a0_3_f)), (a0_4, .inl (a0_4_c, 12, .inr (.inr (.inr (.inr a0_4_f))))), (a0_5, .inl (a0_5_c, 12, .inr (.inr (.inr (.inr a0_5_f))))), (a1, .inr (2, [.ref a1_0, .ref a1_1, .ref a1_2, .ref a1_3, .ref a1_4, .ref a1_5])), (a1_0, .inl (a1_0_c, 24, .inl a1_0_f)), (a1_1, .inl (a1_1_c, 8, .inl a1_1_f)), (a1_2, .inl (a1_2_c, 12, .inl a1_2_f)), (a1_3, .inl (a1_3_c, 12, .inl a1_3_f)), (a1_4, .inl (a1_4_c, 12, .inr (.inr (.inr (.inr a1_4_f))))), (a1_5, .inl (a1_5_c, 12, .inr (.inr (.inr (.inr a1_5_f)))))] : va_W) ++ rows) sz)) 0 0 (va_A (([(a0, .inr (2, [.ref a0_0, .ref a0_1, .ref a0_2, .ref a0_3, .ref a0_4, .ref a0_5])), (a0_0, .inl (a0_0_c, 24, .inl a0_0_f)), (a0_1, .inl (a0_1_c, 8, .inl a0_1_f)), (a0_2, .inl (a0_2_c, 12, .inl a0_2_f)), (a0_3, .inl (a0_3_c, 12, .inl a0_3_f)), (a0_4, .inl (a0_4_c, 12, .inr (.inr (.inr (.inr a0_4_f))))), (a0_5, .inl (a0_5_c, 12, .inr (.inr (.inr (.inr a0_5_f))))), (a1, .inr (2, [.ref a1_0, .ref a1_1, .ref a1_2, .ref a1_3, .ref a1_4, .ref a1_5])), (a1_0, .inl (a1_0_c, 24, .inl a1_0_f)), (a1_1, .inl (a1_1_c, 8, .inl a1_1_f)), (a1_2, .inl (a1_2_c, 12, .inl a1_2_f)), (a1_3, .inl (a1_3_c, 12, .inl a1_3_f)), (a1_4, .inl (a1_4_c, 12, .inr (.inr (.inr (.inr a1_4_f))))), (a1_5, .inl (a1_5_c, 12, .inr (.inr (.inr (.inr a1_5_f)))))] : va_W) ++ rows) sz) := by
  refine Met.ofW (cc := cX3_copyFrom) (maxL := 3) (ret := none) (by decide) rfl ?_
  intro p e s m args below meth c s₁ B hml hv
  obtain ⟨rfl, hsz, hP, hK, hD0, hE⟩ := hv
  have hx := B.exec
  have hb := B.bytes
  have hr := B.returns
  have hts0 := atoms_spec (ws := (.code yX3_copyFrom cX3_copyFrom 3 none :: TBL)) B.pre
  have hts := fun (w : Cond) (h : w ∈ TBL) => hts0 w (List.mem_cons_of_mem _ h)
  have hown : s.vm.findClass RX3 = some m.cls := findClass_of_methodNamed B.named
  have hlocks := B.notSynchronized
  have hN := hE.1
  subst hsz
  have hD := hD0.self (sz := s.heap.size)
  generalize hAe : va_A (([(a0, .inr (2, [.ref a0_0, .ref a0_1, .ref a0_2, .ref a0_3, .ref a0_4, .ref a0_5])), (a0_0, .inl (a0_0_c, 24, .inl a0_0_f)), (a0_1, .inl (a0_1_c, 8, .inl a0_1_f)), (a0_2, .inl (a0_2_c, 12, .inl a0_2_f)), (a0_3, .inl (a0_3_c, 12, .inl a0_3_f)), (a0_4, .inl (a0_4_c, 12, .inr (.inr (.inr (.inr a0_4_f))))), (a0_5, .inl (a0_5_c, 12, .inr (.inr (.inr (.inr a0_5_f))))), (a1, .inr (2, [.ref a1_0, .ref a1_1, .ref a1_2, .ref a1_3, .ref a1_4, .ref a1_5])), (a1_0, .inl (a1_0_c, 24, .inl a1_0_f)), (a1_1, .inl (a1_1_c, 8, .inl a1_1_f)), (a1_2, .inl (a1_2_c, 12, .inl a1_2_f)), (a1_3, .inl (a1_3_c, 12, .inl a1_3_f)), (a1_4, .inl (a1_4_c, 12, .inr (.inr (.inr (.inr a1_4_f))))), (a1_5, .inl (a1_5_c, 12, .inr (.inr (.inr (.inr a1_5_f)))))] : va_W) ++ rows) s.heap.size = A at hD hE ⊢
  have hA : ∀ q : Nat, s.heap.size ≤ q → A q := fun q h => by rw [← hAe]; exact Or.inr h
  have hS : va_S A s.heap s.heap [] := va_S.rf
  replace hP : va_P (dC, dI) vwCl (([(a0, .inr (2, [.ref a0_0, .ref a0_1, .ref a0_2, .ref a0_3, .ref a0_4, .ref a0_5])), (a0_0, .inl (a0_0_c, 24, .inl a0_0_f)), (a0_1, .inl (a0_1_c, 8, .inl a0_1_f)), (a0_2, .inl (a0_2_c, 12, .inl a0_2_f)), (a0_3, .inl (a0_3_c, 12, .inl a0_3_f)), (a0_4, .inl (a0_4_c, 12, .inr (.inr (.inr (.inr a0_4_f))))), (a0_5, .inl (a0_5_c, 12, .inr (.inr (.inr (.inr a0_5_f))))), (a1, .inr (2, [.ref a1_0, .ref a1_1, .ref a1_2, .ref a1_3, .ref a1_4, .ref a1_5])), (a1_0, .inl (a1_0_c, 24, .inl a1_0_f)), (a1_1, .inl (a1_1_c, 8, .inl a1_1_f)), (a1_2, .inl (a1_2_c, 12, .inl a1_2_f)), (a1_3, .inl (a1_3_c, 12, .inl a1_3_f)), (a1_4, .inl (a1_4_c, 12, .inr (.inr (.inr (.inr a1_4_f))))), (a1_5, .inl (a1_5_c, 12, .inr (.inr (.inr (.inr a1_5_f)))))] : va_W) ++ rows) s.heap := hP
  have hl := lv_entry ([.ref a0, .ref a1]) (n := 3) (Nat.le_of_ble_eq_true rfl)
  rw [lg_entry_eq]
  generalize (lg_sl ([.ref a0, .ref a1]) ++ List.replicate (3 - (lg_sl ([.ref a0, .ref a1])).length) Slot.unset).toArray = ls at hl ⊢
  have hl : lv_has ls 3 [(0, .ref a0), (1, .ref a1)] := hl
  have hK := cyK hK (hts (.arrayClass .int) qw_54) hE.2.2.2.2.2.2.2.2.2.2.2.2.1
  replace hK : va_K (dC, dI) vwCl [(a0_0_c, .int), (a0_1_c, .int), (a0_2_c, .int), (a0_3_c, .int), (a0_4_c, .array .int), (a0_5_c, .array .int), (a1_0_c, .int), (a1_1_c, .int), (a1_2_c, .int), (a1_3_c, .int), (a1_4_c, .array .int), (a1_5_c, .array .int), (g.2.2.2.2.1, .int)] s := hK
  have hRS : RS g.2.2.2.2.1 rows rows := RS.rf
  refine lv_aload_n hx hb dX3_copyFrom_0 rfl (lv_at hl 1 rfl) ?_
  refine va_get (D := (dC, dI)) (ci := 2) (v := .ref a1_0) (C := RX3) (T := TX3) (N := 6) hx hb hts inlX3 hown hK hP 7 rgL14_c4833ba rfl 0 (by decide) (hts (.fieldLink RX3 9 "ClosedUntil$State" "parent" "[I") qw_46) (fun _ h9 => h9) rfl dX3_copyFrom_1 ?_
  refine lv_iconst (v := 0) hx hb dX3_copyFrom_4 (by decide) ?_
  refine lv_aload_n hx hb dX3_copyFrom_5 rfl (lv_at hl 0 rfl) ?_
  refine va_get (D := (dC, dI)) (ci := 2) (v := .ref a0_0) (C := RX3) (T := TX3) (N := 6) hx hb hts inlX3 hown hK hP 0 rgL14_6dc13f2 rfl 0 (by decide) (hts (.fieldLink RX3 9 "ClosedUntil$State" "parent" "[I") qw_46) (fun _ h9 => h9) rfl dX3_copyFrom_6 ?_
  refine lv_iconst (v := 0) hx hb dX3_copyFrom_9 (by decide) ?_
  refine lv_bipush (v := 24) hx hb dX3_copyFrom_10 (by decide) ?_
  refine va_copyi hx hb (by rw [hml]; exact hl.1.symm) hown (hts (.methodLink RX3 35 arraycopyName) qw_52) (hts (.native arraycopyName) qw_38) (hts (.static arraycopyName) qw_39) (hts (.initialized "java/lang/System") qw_40) hK hP hD hS 8 1 6 0 rgL14_18b012d rgL14_e97579d rfl rfl rfl (by decide) (by decide) (by decide) (Nat.le_of_ble_eq_true rfl) (Nat.le_of_ble_eq_true rfl) (fun _ _ => rfl) (Nat.le_of_ble_eq_true rfl) (Nat.le_of_ble_eq_true rfl) dX3_copyFrom_12 (fun H locs hP9 hD9 hS9 => ?_)
  obtain ⟨y1, e_y1⟩ : ∃ y, (va_cpy a1_0_f a0_0_f (0 : Int32).toNatClampNeg (0 : Int32).toNatClampNeg (24 : Int32).toNatClampNeg) = y := ⟨_, rfl⟩
  clear hP hD hS
  obtain ⟨hP, hD⟩ := rgS14_f0b1637 (e := (a0_0, .inl (a0_0_c, 24, .inl y1))) hP9 hD9 (congrArg (fun z9 => (((a0_0, .inl (a0_0_c, 24, .inl z9)) : Nat × va_E))) e_y1)
  have hS := hS9; clear hP9 hD9 hS9
  refine lv_aload_n hx hb dX3_copyFrom_15 rfl (lv_at hl 1 rfl) ?_
  refine va_get (D := (dC, dI)) (ci := 2) (v := .ref a1_1) (C := RX3) (T := TX3) (N := 6) hx hb hts inlX3 hown hK hP 7 rgL14_c4833ba rfl 1 (by decide) (hts (.fieldLink RX3 15 "ClosedUntil$State" "death" "[I") qw_47) (fun _ h9 => h9) rfl dX3_copyFrom_16 ?_
  refine lv_iconst (v := 0) hx hb dX3_copyFrom_19 (by decide) ?_
  refine lv_aload_n hx hb dX3_copyFrom_20 rfl (lv_at hl 0 rfl) ?_
  refine va_get (D := (dC, dI)) (ci := 2) (v := .ref a0_1) (C := RX3) (T := TX3) (N := 6) hx hb hts inlX3 hown hK hP 0 rgL14_6dc13f2 rfl 1 (by decide) (hts (.fieldLink RX3 15 "ClosedUntil$State" "death" "[I") qw_47) (fun _ h9 => h9) rfl dX3_copyFrom_21 ?_
  refine lv_iconst (v := 0) hx hb dX3_copyFrom_24 (by decide) ?_
  refine lv_bipush (v := 8) hx hb dX3_copyFrom_25 (by decide) ?_
  refine va_copyi hx hb (by rw [hml]; exact hl.1.symm) hown (hts (.methodLink RX3 35 arraycopyName) qw_52) (hts (.native arraycopyName) qw_38) (hts (.static arraycopyName) qw_39) (hts (.initialized "java/lang/System") qw_40) hK hP hD hS 9 2 7 1 rgL14_22b75ef rgL14_e7bad9d rfl rfl rfl (by decide) (by decide) (by decide) (Nat.le_of_ble_eq_true rfl) (Nat.le_of_ble_eq_true rfl) (fun _ _ => rfl) (Nat.le_of_ble_eq_true rfl) (Nat.le_of_ble_eq_true rfl) dX3_copyFrom_27 (fun H locs hP9 hD9 hS9 => ?_)
  obtain ⟨y2, e_y2⟩ : ∃ y, (va_cpy a1_1_f a0_1_f (0 : Int32).toNatClampNeg (0 : Int32).toNatClampNeg (8 : Int32).toNatClampNeg) = y := ⟨_, rfl⟩
  clear hP hD hS
  obtain ⟨hP, hD⟩ := rgS14_3397b05 (e := (a0_1, .inl (a0_1_c, 8, .inl y2))) hP9 hD9 (congrArg (fun z9 => (((a0_1, .inl (a0_1_c, 8, .inl z9)) : Nat × va_E))) e_y2)
  have hS := hS9; clear hP9 hD9 hS9
  refine lv_aload_n hx hb dX3_copyFrom_30 rfl (lv_at hl 1 rfl) ?_
  refine va_get (D := (dC, dI)) (ci := 2) (v := .ref a1_2) (C := RX3) (T := TX3) (N := 6) hx hb hts inlX3 hown hK hP 7 rgL14_c4833ba rfl 2 (by decide) (hts (.fieldLink RX3 18 "ClosedUntil$State" "lifted" "[I") qw_48) (fun _ h9 => h9) rfl dX3_copyFrom_31 ?_
  refine lv_iconst (v := 0) hx hb dX3_copyFrom_34 (by decide) ?_
  refine lv_aload_n hx hb dX3_copyFrom_35 rfl (lv_at hl 0 rfl) ?_
  refine va_get (D := (dC, dI)) (ci := 2) (v := .ref a0_2) (C := RX3) (T := TX3) (N := 6) hx hb hts inlX3 hown hK hP 0 rgL14_6dc13f2 rfl 2 (by decide) (hts (.fieldLink RX3 18 "ClosedUntil$State" "lifted" "[I") qw_48) (fun _ h9 => h9) rfl dX3_copyFrom_36 ?_
  refine lv_iconst (v := 0) hx hb dX3_copyFrom_39 (by decide) ?_
  refine lv_bipush (v := 12) hx hb dX3_copyFrom_40 (by decide) ?_
  refine va_copyi hx hb (by rw [hml]; exact hl.1.symm) hown (hts (.methodLink RX3 35 arraycopyName) qw_52) (hts (.native arraycopyName) qw_38) (hts (.static arraycopyName) qw_39) (hts (.initialized "java/lang/System") qw_40) hK hP hD hS 10 3 8 2 rgL14_f23dc93 rgL14_58d8a8e rfl rfl rfl (by decide) (by decide) (by decide) (Nat.le_of_ble_eq_true rfl) (Nat.le_of_ble_eq_true rfl) (fun _ _ => rfl) (Nat.le_of_ble_eq_true rfl) (Nat.le_of_ble_eq_true rfl) dX3_copyFrom_42 (fun H locs hP9 hD9 hS9 => ?_)
  obtain ⟨y3, e_y3⟩ : ∃ y, (va_cpy a1_2_f a0_2_f (0 : Int32).toNatClampNeg (0 : Int32).toNatClampNeg (12 : Int32).toNatClampNeg) = y := ⟨_, rfl⟩
  clear hP hD hS
  obtain ⟨hP, hD⟩ := rgS14_27d9bf4 (e := (a0_2, .inl (a0_2_c, 12, .inl y3))) hP9 hD9 (congrArg (fun z9 => (((a0_2, .inl (a0_2_c, 12, .inl z9)) : Nat × va_E))) e_y3)
  have hS := hS9; clear hP9 hD9 hS9
  refine lv_aload_n hx hb dX3_copyFrom_45 rfl (lv_at hl 1 rfl) ?_
  refine va_get (D := (dC, dI)) (ci := 2) (v := .ref a1_3) (C := RX3) (T := TX3) (N := 6) hx hb hts inlX3 hown hK hP 7 rgL14_c4833ba rfl 3 (by decide) (hts (.fieldLink RX3 21 "ClosedUntil$State" "reviews" "[I") qw_49) (fun _ h9 => h9) rfl dX3_copyFrom_46 ?_
  refine lv_iconst (v := 0) hx hb dX3_copyFrom_49 (by decide) ?_
  refine lv_aload_n hx hb dX3_copyFrom_50 rfl (lv_at hl 0 rfl) ?_
  refine va_get (D := (dC, dI)) (ci := 2) (v := .ref a0_3) (C := RX3) (T := TX3) (N := 6) hx hb hts inlX3 hown hK hP 0 rgL14_6dc13f2 rfl 3 (by decide) (hts (.fieldLink RX3 21 "ClosedUntil$State" "reviews" "[I") qw_49) (fun _ h9 => h9) rfl dX3_copyFrom_51 ?_
  refine lv_iconst (v := 0) hx hb dX3_copyFrom_54 (by decide) ?_
  refine lv_bipush (v := 12) hx hb dX3_copyFrom_55 (by decide) ?_
  refine va_copyi hx hb (by rw [hml]; exact hl.1.symm) hown (hts (.methodLink RX3 35 arraycopyName) qw_52) (hts (.native arraycopyName) qw_38) (hts (.static arraycopyName) qw_39) (hts (.initialized "java/lang/System") qw_40) hK hP hD hS 11 4 9 3 rgL14_b9da084 rgL14_69a3b92 rfl rfl rfl (by decide) (by decide) (by decide) (Nat.le_of_ble_eq_true rfl) (Nat.le_of_ble_eq_true rfl) (fun _ _ => rfl) (Nat.le_of_ble_eq_true rfl) (Nat.le_of_ble_eq_true rfl) dX3_copyFrom_57 (fun H locs hP9 hD9 hS9 => ?_)
  obtain ⟨y4, e_y4⟩ : ∃ y, (va_cpy a1_3_f a0_3_f (0 : Int32).toNatClampNeg (0 : Int32).toNatClampNeg (12 : Int32).toNatClampNeg) = y := ⟨_, rfl⟩
  clear hP hD hS
  obtain ⟨hP, hD⟩ := rgS14_1ecdbfd (e := (a0_3, .inl (a0_3_c, 12, .inl y4))) hP9 hD9 (congrArg (fun z9 => (((a0_3, .inl (a0_3_c, 12, .inl z9)) : Nat × va_E))) e_y4)
  have hS := hS9; clear hP9 hD9 hS9
  have b_y4 : vr 0 5 y4 := vr_cpy e_y4 h_a1_3_f h_a0_3_f
  refine lv_iconst (v := 0) hx hb dX3_copyFrom_60 (by decide) ?_
  refine lv_istore_n (lv' := [(2, .int 0), (0, .ref a0), (1, .ref a1)]) hx hb dX3_copyFrom_61 rfl hl (by decide) rfl (fun ls hl => ?_)
  have qc0 : (0 : Int32).toInt = 0 := by decide
  refine wloop (fun n H locs ls => ∃ (l62_2 : Int32) (r62 : va_W), n = (2147483647 - l62_2.toInt).toNat ∧ (RS g.2.2.2.2.1 rows r62) ∧ (0 ≤ l62_2.toInt) ∧ lv_has ls 3 [(2, .int l62_2), (0, .ref a0), (1, .ref a1)] ∧ va_P (dC, dI) vwCl (([(a0, .inr (2, [.ref a0_0, .ref a0_1, .ref a0_2, .ref a0_3, .ref a0_4, .ref a0_5])), (a0_0, .inl (a0_0_c, 24, .inl y1)), (a0_1, .inl (a0_1_c, 8, .inl y2)), (a0_2, .inl (a0_2_c, 12, .inl y3)), (a0_3, .inl (a0_3_c, 12, .inl y4)), (a0_4, .inl (a0_4_c, 12, .inr (.inr (.inr (.inr a0_4_f))))), (a0_5, .inl (a0_5_c, 12, .inr (.inr (.inr (.inr a0_5_f))))), (a1, .inr (2, [.ref a1_0, .ref a1_1, .ref a1_2, .ref a1_3, .ref a1_4, .ref a1_5])), (a1_0, .inl (a1_0_c, 24, .inl a1_0_f)), (a1_1, .inl (a1_1_c, 8, .inl a1_1_f)), (a1_2, .inl (a1_2_c, 12, .inl a1_2_f)), (a1_3, .inl (a1_3_c, 12, .inl a1_3_f)), (a1_4, .inl (a1_4_c, 12, .inr (.inr (.inr (.inr a1_4_f))))), (a1_5, .inl (a1_5_c, 12, .inr (.inr (.inr (.inr a1_5_f)))))] : va_W) ++ r62) H ∧ va_D A (([(a0, .inr (2, [.ref a0_0, .ref a0_1, .ref a0_2, .ref a0_3, .ref a0_4, .ref a0_5])), (a0_0, .inl (a0_0_c, 24, .inl y1)), (a0_1, .inl (a0_1_c, 8, .inl y2)), (a0_2, .inl (a0_2_c, 12, .inl y3)), (a0_3, .inl (a0_3_c, 12, .inl y4)), (a0_4, .inl (a0_4_c, 12, .inr (.inr (.inr (.inr a0_4_f))))), (a0_5, .inl (a0_5_c, 12, .inr (.inr (.inr (.inr a0_5_f))))), (a1, .inr (2, [.ref a1_0, .ref a1_1, .ref a1_2, .ref a1_3, .ref a1_4, .ref a1_5])), (a1_0, .inl (a1_0_c, 24, .inl a1_0_f)), (a1_1, .inl (a1_1_c, 8, .inl a1_1_f)), (a1_2, .inl (a1_2_c, 12, .inl a1_2_f)), (a1_3, .inl (a1_3_c, 12, .inl a1_3_f)), (a1_4, .inl (a1_4_c, 12, .inr (.inr (.inr (.inr a1_4_f))))), (a1_5, .inl (a1_5_c, 12, .inr (.inr (.inr (.inr a1_5_f)))))] : va_W) ++ r62) ∧ va_S A s.heap H locs) ?_ ((2147483647 - (0 : Int32).toInt).toNat) _ _ _ ⟨0, rows, rfl, hRS, (by omega), lv_sub hl [0, 1, 2] rfl, hP, hD, hS⟩
  intro n62 H locs ls hI ih62
  obtain ⟨l62_2, r62, hn62, g_r62, g_l62_2, hl, hP, hD, hS⟩ := hI
  have b_l62_2 := i32b l62_2
  have hRS := g_r62
  refine lv_iload_n hx hb dX3_copyFrom_62 rfl (lv_at hl 0 rfl) ?_
  refine lv_bipush (v := 12) hx hb dX3_copyFrom_63 (by decide) ?_
  refine lv_icmp_ge (tgt := 110) hx hb dX3_copyFrom_65 (by decide) (fun c65_5 => ?_) (fun c65_5 => ?_)
  · have c65_5 : 12 ≤ l62_2.toInt := (cv_le (by decide) rfl).mp c65_5
    refine W.widen (k := 0) (n := 0) (Nat.le_of_ble_eq_true rfl) (Nat.le_of_ble_eq_true rfl) ?_
    have hP9 := hP
    have hD9 := hD
    have hK9 := (rgK13_332f5b0 hK)
    have hf9_0 : vr 0 5 y4 := b_y4
    have hf9_1 : RS g.2.2.2.2.1 rows r62 := hRS
    exact W.vret hx hb hr (fun t ht hW => ⟨⟨(), rfl, trivial, y1, y2, y3, y4, r62, hf9_0, hf9_1, atB ht hP9, va_K.moved hW.alike hK9, hD9⟩, hS.F ht⟩) hS.2.2 dX3_copyFrom_110
  · have c65_5 : ¬ (12 ≤ l62_2.toInt) := mt (cv_le (by decide) rfl).mpr c65_5
    refine lv_aload_n hx hb dX3_copyFrom_68 rfl (lv_at hl 2 rfl) ?_
    refine va_get (D := (dC, dI)) (ci := 2) (v := .ref a1_4) (C := RX3) (T := TX3) (N := 6) hx hb hts inlX3 hown hK hP 7 rgL14_c4833ba rfl 4 (by decide) (hts (.fieldLink RX3 26 "ClosedUntil$State" "reviewDay" "[[I") qw_53) (fun _ h9 => h9) rfl dX3_copyFrom_69 ?_
    refine lv_iload_n hx hb dX3_copyFrom_72 rfl (lv_at hl 0 rfl) ?_
    refine va_aldqA hx hb hK hP 12 10 rgL14_67a3d53 rgT13_2969950 (vinI (by omega) (by omega)) dX3_copyFrom_73 ?_
    obtain ⟨y6, hg8, hy7⟩ := GR.at h_a1_4_f (i := l62_2.toNatClampNeg) (clI (by omega) (by omega))
    refine topv (w := .ref y6) (by rw [hg8]; rfl) ?_
    refine lv_iconst (v := 0) hx hb dX3_copyFrom_74 (by decide) ?_
    refine lv_aload_n hx hb dX3_copyFrom_75 rfl (lv_at hl 1 rfl) ?_
    refine va_get (D := (dC, dI)) (ci := 2) (v := .ref a0_4) (C := RX3) (T := TX3) (N := 6) hx hb hts inlX3 hown hK hP 0 rgL14_6dc13f2 rfl 4 (by decide) (hts (.fieldLink RX3 26 "ClosedUntil$State" "reviewDay" "[[I") qw_53) (fun _ h9 => h9) rfl dX3_copyFrom_76 ?_
    refine lv_iload_n hx hb dX3_copyFrom_79 rfl (lv_at hl 0 rfl) ?_
    refine va_aldqA hx hb hK hP 5 4 rgL14_ef76522 rgT13_b1627a7 (vinI (by omega) (by omega)) dX3_copyFrom_80 ?_
    obtain ⟨y9, hg11, hy10⟩ := GR.at h_a0_4_f (i := l62_2.toNatClampNeg) (clI (by omega) (by omega))
    refine topv (w := .ref y9) (by rw [hg11]; rfl) ?_
    refine lv_iconst (v := 0) hx hb dX3_copyFrom_81 (by decide) ?_
    refine lv_iconst (v := 5) hx hb dX3_copyFrom_82 (by decide) ?_
    obtain ⟨j12, rr13, hr14⟩ := RS.rh hRS hy7
    obtain ⟨j15, rr16, hr17⟩ := RS.rh hRS hy10
    refine va_copyi hx hb (by rw [hml]; exact hl.1.symm) hown (hts (.methodLink RX3 35 arraycopyName) qw_52) (hts (.native arraycopyName) qw_38) (hts (.static arraycopyName) qw_39) (hts (.initialized "java/lang/System") qw_40) hK hP hD hS (14 + j12) (14 + j15) 12 12 (rgU14_ad94bfe hr14) (rgU14_ad94bfe hr17) rfl rfl rfl (by decide) (by decide) (by decide) (Nat.le_of_ble_eq_true rfl) (Nat.le_of_ble_eq_true rfl) (fun _ _ => rfl) (Nat.le_of_ble_eq_true rfl) (Nat.le_of_ble_eq_true rfl) dX3_copyFrom_83 (fun H locs hP9 hD9 hS9 => ?_)
    obtain ⟨rx18, e_rx18⟩ : ∃ y, r62.set j15 (y9, .inl (g.2.2.2.2.1, 5, .inl (va_cpy rr13 rr16 (0 : Int32).toNatClampNeg (0 : Int32).toNatClampNeg (5 : Int32).toNatClampNeg))) = y := ⟨_, rfl⟩
    have hRS := e_rx18 ▸ RS.set hRS (va_cpy rr13 rr16 (0 : Int32).toNatClampNeg (0 : Int32).toNatClampNeg (5 : Int32).toNatClampNeg) hr17
    clear hP hD hS
    obtain ⟨hP, hD⟩ := rgW14_4491592 hP9 hD9 e_rx18
    have hS := hS9; clear hP9 hD9 hS9
    refine lv_aload_n hx hb dX3_copyFrom_86 rfl (lv_at hl 2 rfl) ?_
    refine va_get (D := (dC, dI)) (ci := 2) (v := .ref a1_5) (C := RX3) (T := TX3) (N := 6) hx hb hts inlX3 hown hK hP 7 rgL14_c4833ba rfl 5 (by decide) (hts (.fieldLink RX3 29 "ClosedUntil$State" "reviewYears" "[[I") qw_55) (fun _ h9 => h9) rfl dX3_copyFrom_87 ?_
    refine lv_iload_n hx hb dX3_copyFrom_90 rfl (lv_at hl 0 rfl) ?_
    refine va_aldqA hx hb hK hP 13 11 rgL14_535458e rgT13_e41237c (vinI (by omega) (by omega)) dX3_copyFrom_91 ?_
    obtain ⟨y19, hg21, hy20⟩ := GR.at h_a1_5_f (i := l62_2.toNatClampNeg) (clI (by omega) (by omega))
    refine topv (w := .ref y19) (by rw [hg21]; rfl) ?_
    refine lv_iconst (v := 0) hx hb dX3_copyFrom_92 (by decide) ?_
    refine lv_aload_n hx hb dX3_copyFrom_93 rfl (lv_at hl 1 rfl) ?_
    refine va_get (D := (dC, dI)) (ci := 2) (v := .ref a0_5) (C := RX3) (T := TX3) (N := 6) hx hb hts inlX3 hown hK hP 0 rgL14_6dc13f2 rfl 5 (by decide) (hts (.fieldLink RX3 29 "ClosedUntil$State" "reviewYears" "[[I") qw_55) (fun _ h9 => h9) rfl dX3_copyFrom_94 ?_
    refine lv_iload_n hx hb dX3_copyFrom_97 rfl (lv_at hl 0 rfl) ?_
    refine va_aldqA hx hb hK hP 6 5 rgL14_9ce4a37 rgT13_1e1357f (vinI (by omega) (by omega)) dX3_copyFrom_98 ?_
    obtain ⟨y22, hg24, hy23⟩ := GR.at h_a0_5_f (i := l62_2.toNatClampNeg) (clI (by omega) (by omega))
    refine topv (w := .ref y22) (by rw [hg24]; rfl) ?_
    refine lv_iconst (v := 0) hx hb dX3_copyFrom_99 (by decide) ?_
    refine lv_iconst (v := 5) hx hb dX3_copyFrom_100 (by decide) ?_
    obtain ⟨j25, rr26, hr27⟩ := RS.rh hRS hy20
    obtain ⟨j28, rr29, hr30⟩ := RS.rh hRS hy23
    refine va_copyi hx hb (by rw [hml]; exact hl.1.symm) hown (hts (.methodLink RX3 35 arraycopyName) qw_52) (hts (.native arraycopyName) qw_38) (hts (.static arraycopyName) qw_39) (hts (.initialized "java/lang/System") qw_40) hK hP hD hS (14 + j25) (14 + j28) 12 12 (rgU14_ad94bfe hr27) (rgU14_ad94bfe hr30) rfl rfl rfl (by decide) (by decide) (by decide) (Nat.le_of_ble_eq_true rfl) (Nat.le_of_ble_eq_true rfl) (fun _ _ => rfl) (Nat.le_of_ble_eq_true rfl) (Nat.le_of_ble_eq_true rfl) dX3_copyFrom_101 (fun H locs hP9 hD9 hS9 => ?_)
    obtain ⟨rx31, e_rx31⟩ : ∃ y, rx18.set j28 (y22, .inl (g.2.2.2.2.1, 5, .inl (va_cpy rr26 rr29 (0 : Int32).toNatClampNeg (0 : Int32).toNatClampNeg (5 : Int32).toNatClampNeg))) = y := ⟨_, rfl⟩
    have hRS := e_rx31 ▸ RS.set hRS (va_cpy rr26 rr29 (0 : Int32).toNatClampNeg (0 : Int32).toNatClampNeg (5 : Int32).toNatClampNeg) hr30
    clear hP hD hS
    obtain ⟨hP, hD⟩ := rgW14_4491592 hP9 hD9 e_rx31
    have hS := hS9; clear hP9 hD9 hS9
    obtain ⟨x32, e_x32⟩ : ∃ y : Int32, y = l62_2 + 1 := ⟨_, rfl⟩
    refine lv_iinc (v := x32) (lv' := [(2, .int x32), (0, .ref a0), (1, .ref a1)]) hx hb dX3_copyFrom_104 hl (k := 0) rfl (by rw [e_x32]; rfl) (by decide) rfl (fun ls hl => ?_)
    try have e_x32 := ti_add e_x32 rfl (show (1 : Int32).toInt = 1 by decide) (by omega)
    refine lv_goto (tgt := 62) hx hb dX3_copyFrom_107 (by decide) ?_
    exact ih62 ((2147483647 - x32.toInt).toNat) _ _ _ (by omega) ⟨x32, rx31, rfl, hRS, (by omega), lv_sub hl [0, 1, 2] rfl, hP, hD, hS⟩
set_option maxHeartbeats 4000000 in
set_option maxRecDepth 100000 in
theorem k_X3_addReview (l : Launch) (dC : Nat → ClassId) (dI : Nat → Nat → Nat) (g : Gv) (sz : Nat) (a0 : Nat) (a1 : Int32) (a2 : Int32) (a3 : Int32) (a0_0 : Nat) (a0_1 : Nat) (a0_2 : Nat) (a0_3 : Nat) (a0_4 : Nat) (a0_5 : Nat) (a0_3_c : ClassId) (a0_3_f : Nat → Int32) (a0_4_c : ClassId) (a0_4_f : Nat → Option Nat) (a0_5_c : ClassId) (a0_5_f : Nat → Option Nat) (rows : va_W) (h_a0_3_f : vr 0 5 a0_3_f) (h_a0_4_f : GR g.2.2.2.2.1 5 12 a0_4_f rows) (h_a0_5_f : GR g.2.2.2.2.1 5 12 a0_5_f rows) (ha1r : 0 ≤ a1.toInt ∧ a1.toInt < 12) (hrv : (a0_3_f a1.toNatClampNeg).toInt ≤ 4) : Met l yX3_addReview (.code yX3_addReview cX3_addReview 7 (some .int) :: TBL) ({ frames := 0, cells := 0, slots := 0, locals := 0 }) (va_Pc [.ref a0, .int a1, .int a2, .int a3] (fun U => U.heap.size = sz ∧ va_P (dC, dI) vwCl (([(a0, .inr (2, [.ref a0_0, .ref a0_1, .ref a0_2, .ref a0_3, .ref a0_4, .ref a0_5])), (a0_3, .inl (a0_3_c, 12, .inl a0_3_f)), (a0_4, .inl (a0_4_c, 12, .inr (.inr (.inr (.inr a0_4_f))))), (a0_5, .inl (a0_5_c, 12, .inr (.inr (.inr (.inr a0_5_f)))))] : va_W) ++ rows) U.heap ∧ va_K (dC, dI) vwCl [(a0_3_c, .int), (a0_4_c, .array .int), (a0_5_c, .array .int)] U ∧ va_D (fun _ => True) (([(a0, .inr (2, [.ref a0_0, .ref a0_1, .ref a0_2, .ref a0_3, .ref a0_4, .ref a0_5])), (a0_3, .inl (a0_3_c, 12, .inl a0_3_f)), (a0_4, .inl (a0_4_c, 12, .inr (.inr (.inr (.inr a0_4_f))))), (a0_5, .inl (a0_5_c, 12, .inr (.inr (.inr (.inr a0_5_f)))))] : va_W) ++ rows) ∧ Ev g (va_A (([(a0, .inr (2, [.ref a0_0, .ref a0_1, .ref a0_2, .ref a0_3, .ref a0_4, .ref a0_5])), (a0_3, .inl (a0_3_c, 12, .inl a0_3_f)), (a0_4, .inl (a0_4_c, 12, .inr (.inr (.inr (.inr a0_4_f))))), (a0_5, .inl (a0_5_c, 12, .inr (.inr (.inr (.inr a0_5_f)))))] : va_W) ++ rows) sz) U)) (va_Qi (fun (r : Int32) (u : Int32) => u = r) (fun (u : Int32) (t : State) => ∃ (za0_3_f : Nat → Int32) (zrows : va_W), vr 0 5 za0_3_f ∧ RS g.2.2.2.2.1 rows zrows ∧ (0 ≤ u.toInt ∧ u.toInt ≤ 4) ∧ (RevUp a0_3_f za0_3_f a1.toNatClampNeg 1) ∧ va_P (dC, dI) vwCl (([(a0, .inr (2, [.ref a0_0, .ref a0_1, .ref a0_2, .ref a0_3, .ref a0_4, .ref a0_5])), (a0_3, .inl (a0_3_c, 12, .inl za0_3_f)), (a0_4, .inl (a0_4_c, 12, .inr (.inr (.inr (.inr a0_4_f))))), (a0_5, .inl (a0_5_c, 12, .inr (.inr (.inr (.inr a0_5_f)))))] : va_W) ++ zrows) t.heap ∧ va_K (dC, dI) vwCl [] t ∧ va_D (va_A (([(a0, .inr (2, [.ref a0_0, .ref a0_1, .ref a0_2, .ref a0_3, .ref a0_4, .ref a0_5])), (a0_3, .inl (a0_3_c, 12, .inl a0_3_f)), (a0_4, .inl (a0_4_c, 12, .inr (.inr (.inr (.inr a0_4_f))))), (a0_5, .inl (a0_5_c, 12, .inr (.inr (.inr (.inr a0_5_f)))))] : va_W) ++ rows) sz) (([(a0, .inr (2, [.ref a0_0, .ref a0_1, .ref a0_2, .ref a0_3, .ref a0_4, .ref a0_5])), (a0_3, .inl (a0_3_c, 12, .inl za0_3_f)), (a0_4, .inl (a0_4_c, 12, .inr (.inr (.inr (.inr a0_4_f))))), (a0_5, .inl (a0_5_c, 12, .inr (.inr (.inr (.inr a0_5_f)))))] : va_W) ++ zrows)) (va_A (([(a0, .inr (2, [.ref a0_0, .ref a0_1, .ref a0_2, .ref a0_3, .ref a0_4, .ref a0_5])), (a0_3, .inl (a0_3_c, 12, .inl a0_3_f)), (a0_4, .inl (a0_4_c, 12, .inr (.inr (.inr (.inr a0_4_f))))), (a0_5, .inl (a0_5_c, 12, .inr (.inr (.inr (.inr a0_5_f)))))] : va_W) ++ rows) sz)) 0 0 (va_A (([(a0, .inr (2, [.ref a0_0, .ref a0_1, .ref a0_2, .ref a0_3, .ref a0_4, .ref a0_5])), (a0_3, .inl (a0_3_c, 12, .inl a0_3_f)), (a0_4, .inl (a0_4_c, 12, .inr (.inr (.inr (.inr a0_4_f))))), (a0_5, .inl (a0_5_c, 12, .inr (.inr (.inr (.inr a0_5_f)))))] : va_W) ++ rows) sz) := by
  refine Met.ofW (cc := cX3_addReview) (maxL := 7) (ret := (some .int)) (by decide) rfl ?_
  intro p e s m args below meth c s₁ B hml hv
  obtain ⟨rfl, hsz, hP, hK, hD0, hE⟩ := hv
  have hx := B.exec
  have hb := B.bytes
  have hr := B.returns
  have hts0 := atoms_spec (ws := (.code yX3_addReview cX3_addReview 7 (some .int) :: TBL)) B.pre
  have hts := fun (w : Cond) (h : w ∈ TBL) => hts0 w (List.mem_cons_of_mem _ h)
  have hown : s.vm.findClass RX3 = some m.cls := findClass_of_methodNamed B.named
  have hlocks := B.notSynchronized
  have hN := hE.1
  subst hsz
  have hD := hD0.self (sz := s.heap.size)
  generalize hAe : va_A (([(a0, .inr (2, [.ref a0_0, .ref a0_1, .ref a0_2, .ref a0_3, .ref a0_4, .ref a0_5])), (a0_3, .inl (a0_3_c, 12, .inl a0_3_f)), (a0_4, .inl (a0_4_c, 12, .inr (.inr (.inr (.inr a0_4_f))))), (a0_5, .inl (a0_5_c, 12, .inr (.inr (.inr (.inr a0_5_f)))))] : va_W) ++ rows) s.heap.size = A at hD hE ⊢
  have hA : ∀ q : Nat, s.heap.size ≤ q → A q := fun q h => by rw [← hAe]; exact Or.inr h
  have hS : va_S A s.heap s.heap [] := va_S.rf
  replace hP : va_P (dC, dI) vwCl (([(a0, .inr (2, [.ref a0_0, .ref a0_1, .ref a0_2, .ref a0_3, .ref a0_4, .ref a0_5])), (a0_3, .inl (a0_3_c, 12, .inl a0_3_f)), (a0_4, .inl (a0_4_c, 12, .inr (.inr (.inr (.inr a0_4_f))))), (a0_5, .inl (a0_5_c, 12, .inr (.inr (.inr (.inr a0_5_f)))))] : va_W) ++ rows) s.heap := hP
  have hl := lv_entry ([.ref a0, .int a1, .int a2, .int a3]) (n := 7) (Nat.le_of_ble_eq_true rfl)
  rw [lg_entry_eq]
  generalize (lg_sl ([.ref a0, .int a1, .int a2, .int a3]) ++ List.replicate (7 - (lg_sl ([.ref a0, .int a1, .int a2, .int a3])).length) Slot.unset).toArray = ls at hl ⊢
  have hl : lv_has ls 7 [(0, .ref a0), (1, .int a1), (2, .int a2), (3, .int a3)] := hl
  have hK := cyK hK (hts (.arrayClass .int) qw_54) hE.2.2.2.2.2.2.2.2.2.2.2.2.1
  replace hK : va_K (dC, dI) vwCl [(a0_3_c, .int), (a0_4_c, .array .int), (a0_5_c, .array .int), (g.2.2.2.2.1, .int)] s := hK
  have b_a1 := i32b a1
  have b_a2 := i32b a2
  have b_a3 := i32b a3
  have hRS : RS g.2.2.2.2.1 rows rows := RS.rf
  refine lv_aload_n hx hb dX3_addReview_0 rfl (lv_at hl 0 rfl) ?_
  refine va_get (D := (dC, dI)) (ci := 2) (v := .ref a0_4) (C := RX3) (T := TX3) (N := 6) hx hb hts inlX3 hown hK hP 0 rgL4_6945f2e rfl 4 (by decide) (hts (.fieldLink RX3 26 "ClosedUntil$State" "reviewDay" "[[I") qw_53) (fun _ h9 => h9) rfl dX3_addReview_1 ?_
  refine lv_iload_n hx hb dX3_addReview_4 rfl (lv_at hl 1 rfl) ?_
  refine va_aldqA hx hb hK hP 2 1 rgL4_97f54b4 rgT4_b124325 (vinI (by omega) (by omega)) dX3_addReview_5 ?_
  obtain ⟨y1, hg3, hy2⟩ := GR.at h_a0_4_f (i := a1.toNatClampNeg) (clI (by omega) (by omega))
  refine topv (w := .ref y1) (by rw [hg3]; rfl) ?_
  refine lv_astore (lv' := [(4, .ref y1), (0, .ref a0), (1, .int a1), (2, .int a2), (3, .int a3)]) hx hb dX3_addReview_6 hl (by decide) rfl (fun ls hl => ?_)
  refine lv_aload_n hx hb dX3_addReview_8 rfl (lv_at hl 1 rfl) ?_
  refine va_get (D := (dC, dI)) (ci := 2) (v := .ref a0_5) (C := RX3) (T := TX3) (N := 6) hx hb hts inlX3 hown hK hP 0 rgL4_6945f2e rfl 5 (by decide) (hts (.fieldLink RX3 29 "ClosedUntil$State" "reviewYears" "[[I") qw_55) (fun _ h9 => h9) rfl dX3_addReview_9 ?_
  refine lv_iload_n hx hb dX3_addReview_12 rfl (lv_at hl 2 rfl) ?_
  refine va_aldqA hx hb hK hP 3 2 rgL4_05dcacb rgT4_df3fd44 (vinI (by omega) (by omega)) dX3_addReview_13 ?_
  obtain ⟨y4, hg6, hy5⟩ := GR.at h_a0_5_f (i := a1.toNatClampNeg) (clI (by omega) (by omega))
  refine topv (w := .ref y4) (by rw [hg6]; rfl) ?_
  refine lv_astore (lv' := [(5, .ref y4), (4, .ref y1), (0, .ref a0), (1, .int a1), (2, .int a2), (3, .int a3)]) hx hb dX3_addReview_14 hl (by decide) rfl (fun ls hl => ?_)
  refine lv_aload_n hx hb dX3_addReview_16 rfl (lv_at hl 2 rfl) ?_
  refine va_get (D := (dC, dI)) (ci := 2) (v := .ref a0_3) (C := RX3) (T := TX3) (N := 6) hx hb hts inlX3 hown hK hP 0 rgL4_6945f2e rfl 3 (by decide) (hts (.fieldLink RX3 21 "ClosedUntil$State" "reviews" "[I") qw_49) (fun _ h9 => h9) rfl dX3_addReview_17 ?_
  refine lv_iload_n hx hb dX3_addReview_20 rfl (lv_at hl 3 rfl) ?_
  refine va_iald hx hb hK hP 1 0 rgL4_3765c98 rgT4_b662ba5 (vinI (by omega) (by omega)) dX3_addReview_21 ?_
  refine lv_topi (fun x7 e_x7 => ?_)
  have b_x7 : 0 ≤ x7.toInt ∧ x7.toInt ≤ 5 := vr_at (lo := 0) (hi := 5) (f := a0_3_f) h_a0_3_f e_x7
  have hx4 : x7.toInt ≤ 4 := by rw [e_x7]; exact hrv
  refine lv_istore (lv' := [(6, .int x7), (5, .ref y4), (4, .ref y1), (0, .ref a0), (1, .int a1), (2, .int a2), (3, .int a3)]) hx hb dX3_addReview_22 hl (by decide) rfl (fun ls hl => ?_)
  refine wloop (fun n H locs ls => ∃ (l24_6 : Int32) (r24 : va_W), n = (l24_6.toInt).toNat ∧ (RS g.2.2.2.2.1 rows r24) ∧ (0 ≤ l24_6.toInt ∧ l24_6.toInt ≤ 4) ∧ lv_has ls 7 [(6, .int l24_6), (5, .ref y4), (4, .ref y1), (0, .ref a0), (1, .int a1), (2, .int a2), (3, .int a3)] ∧ va_P (dC, dI) vwCl (([(a0, .inr (2, [.ref a0_0, .ref a0_1, .ref a0_2, .ref a0_3, .ref a0_4, .ref a0_5])), (a0_3, .inl (a0_3_c, 12, .inl a0_3_f)), (a0_4, .inl (a0_4_c, 12, .inr (.inr (.inr (.inr a0_4_f))))), (a0_5, .inl (a0_5_c, 12, .inr (.inr (.inr (.inr a0_5_f)))))] : va_W) ++ r24) H ∧ va_D A (([(a0, .inr (2, [.ref a0_0, .ref a0_1, .ref a0_2, .ref a0_3, .ref a0_4, .ref a0_5])), (a0_3, .inl (a0_3_c, 12, .inl a0_3_f)), (a0_4, .inl (a0_4_c, 12, .inr (.inr (.inr (.inr a0_4_f))))), (a0_5, .inl (a0_5_c, 12, .inr (.inr (.inr (.inr a0_5_f)))))] : va_W) ++ r24) ∧ va_S A s.heap H locs) ?_ ((x7.toInt).toNat) _ _ _ ⟨x7, rows, rfl, hRS, (by omega), lv_sub hl [0, 1, 2, 3, 4, 5, 6] rfl, hP, hD, hS⟩
  intro n24 H locs ls hI ih24
  obtain ⟨l24_6, r24, hn24, g_r24, gx24_0, hl, hP, hD, hS⟩ := hI
  have b_l24_6 := i32b l24_6
  have hRS := g_r24
  refine lv_iload hx hb dX3_addReview_24 (lv_at hl 0 rfl) ?_
  refine lv_if_le (tgt := 70) hx hb dX3_addReview_26 (by decide) (fun c26_8 => ?_) (fun c26_8 => ?_)
  · have c26_8 : l24_6.toInt ≤ 0 := (cv_le rfl (by decide)).mp c26_8
    refine lv_aload hx hb dX3_addReview_70 (lv_at hl 2 rfl) ?_
    refine lv_iload hx hb dX3_addReview_72 (lv_at hl 0 rfl) ?_
    refine lv_iload_n hx hb dX3_addReview_74 rfl (lv_at hl 5 rfl) ?_
    obtain ⟨j9, rr10, hr11⟩ := RS.rh hRS hy2
    refine va_iast hx hb hK hP hD hS (4 + j9) 3 (rgU4_1dd8f5a hr11) rgT4_a0d579d (vinI (by omega) (by omega)) dX3_addReview_75 (fun H locs hP9 hD9 hS9 => ?_)
    obtain ⟨rx12, e_rx12⟩ : ∃ y, r24.set j9 (y1, .inl (g.2.2.2.2.1, 5, .inl (upd rr10 l24_6.toNatClampNeg a2))) = y := ⟨_, rfl⟩
    have hRS := e_rx12 ▸ RS.set hRS (upd rr10 l24_6.toNatClampNeg a2) hr11
    clear hP hD hS
    obtain ⟨hP, hD⟩ := rgW4_1dbbc5a hP9 hD9 e_rx12
    have hS := hS9; clear hP9 hD9 hS9
    refine lv_aload hx hb dX3_addReview_76 (lv_at hl 1 rfl) ?_
    refine lv_iload hx hb dX3_addReview_78 (lv_at hl 0 rfl) ?_
    refine lv_iload_n hx hb dX3_addReview_80 rfl (lv_at hl 6 rfl) ?_
    obtain ⟨j13, rr14, hr15⟩ := RS.rh hRS hy5
    refine va_iast hx hb hK hP hD hS (4 + j13) 3 (rgU4_1dd8f5a hr15) rgT4_a0d579d (vinI (by omega) (by omega)) dX3_addReview_81 (fun H locs hP9 hD9 hS9 => ?_)
    obtain ⟨rx16, e_rx16⟩ : ∃ y, rx12.set j13 (y4, .inl (g.2.2.2.2.1, 5, .inl (upd rr14 l24_6.toNatClampNeg a3))) = y := ⟨_, rfl⟩
    have hRS := e_rx16 ▸ RS.set hRS (upd rr14 l24_6.toNatClampNeg a3) hr15
    clear hP hD hS
    obtain ⟨hP, hD⟩ := rgW4_1dbbc5a hP9 hD9 e_rx16
    have hS := hS9; clear hP9 hD9 hS9
    refine lv_aload_n hx hb dX3_addReview_82 rfl (lv_at hl 3 rfl) ?_
    refine va_get (D := (dC, dI)) (ci := 2) (v := .ref a0_3) (C := RX3) (T := TX3) (N := 6) hx hb hts inlX3 hown hK hP 0 rgL4_6945f2e rfl 3 (by decide) (hts (.fieldLink RX3 21 "ClosedUntil$State" "reviews" "[I") qw_49) (fun _ h9 => h9) rfl dX3_addReview_83 ?_
    refine lv_iload_n hx hb dX3_addReview_86 rfl (lv_at hl 4 rfl) ?_
    refine lv_dup2_11 hx hb dX3_addReview_87 rfl rfl ?_
    refine va_iald hx hb hK hP 1 0 rgL4_3765c98 rgT4_b662ba5 (vinI (by omega) (by omega)) dX3_addReview_88 ?_
    refine lv_topi (fun x17 e_x17 => ?_)
    have b_x17 : 0 ≤ x17.toInt ∧ x17.toInt ≤ 5 := vr_at (lo := 0) (hi := 5) (f := a0_3_f) h_a0_3_f e_x17
    have hx5 : x17.toInt ≤ 4 := by rw [e_x17]; exact hrv
    refine lv_iconst (v := 1) hx hb dX3_addReview_89 (by decide) ?_
    refine lv_iadd hx hb dX3_addReview_90 ?_
    refine lv_topi (fun x18 e_x18 => ?_)
    try have e_x18 := ti_add e_x18 rfl (show (1 : Int32).toInt = 1 by decide) (by omega)
    refine va_iast hx hb hK hP hD hS 1 0 rgL4_3765c98 rgT4_b662ba5 (vinI (by omega) (by omega)) dX3_addReview_91 (fun H locs hP9 hD9 hS9 => ?_)
    obtain ⟨y19, e_y19⟩ : ∃ y, (upd a0_3_f a1.toNatClampNeg x18) = y := ⟨_, rfl⟩
    clear hP hD hS
    obtain ⟨hP, hD⟩ := rgS4_a4d3d29 (e := (a0_3, .inl (a0_3_c, 12, .inl y19))) hP9 hD9 (congrArg (fun z9 => (((a0_3, .inl (a0_3_c, 12, .inl z9)) : Nat × va_E))) e_y19)
    have hS := hS9; clear hP9 hD9 hS9
    have b_y19 : vr 0 5 y19 := vr_upd e_y19 h_a0_3_f (by omega)
    refine lv_iload hx hb dX3_addReview_92 (lv_at hl 0 rfl) ?_
    refine W.widen (k := 0) (n := 0) (Nat.le_of_ble_eq_true rfl) (Nat.le_of_ble_eq_true rfl) ?_
    have hP9 := hP
    have hD9 := hD
    have hK9 := (rgK4_6738937 hK)
    have hf9_0 : vr 0 5 y19 := b_y19
    have hf9_1 : RS g.2.2.2.2.1 rows rx16 := hRS
    have hf9_2 : (0 ≤ l24_6.toInt ∧ l24_6.toInt ≤ 4) := (by omega)
    have hf9_3 : (RevUp a0_3_f y19 a1.toNatClampNeg 1) := RevUp.of e_y19 e_x17 (by omega)
    exact W.iret (v := l24_6) hx hb hr (fun t ht hW => ⟨⟨l24_6, l24_6, rfl, rfl, y19, rx16, hf9_0, hf9_1, hf9_2, hf9_3, atB ht hP9, va_K.moved hW.alike hK9, hD9⟩, hS.F ht⟩) hS.2.2 dX3_addReview_94
  · have c26_8 : ¬ (l24_6.toInt ≤ 0) := mt (cv_le rfl (by decide)).mpr c26_8
    refine lv_aload hx hb dX3_addReview_29 (lv_at hl 2 rfl) ?_
    refine lv_iload hx hb dX3_addReview_31 (lv_at hl 0 rfl) ?_
    refine lv_iconst (v := 1) hx hb dX3_addReview_33 (by decide) ?_
    refine lv_isub hx hb dX3_addReview_34 ?_
    refine lv_topi (fun x20 e_x20 => ?_)
    try have e_x20 := ti_sub e_x20 rfl (show (1 : Int32).toInt = 1 by decide) (by omega)
    obtain ⟨j21, rr22, hr23⟩ := RS.rh hRS hy2
    refine va_iald hx hb hK hP (4 + j21) 3 (rgU4_1dd8f5a hr23) rgT4_a0d579d (vinI (by omega) (by omega)) dX3_addReview_35 ?_
    refine lv_topi (fun x24 e_x24 => ?_)
    have b_x24 := i32b x24
    refine lv_iload_n hx hb dX3_addReview_36 rfl (lv_at hl 5 rfl) ?_
    refine lv_icmp_le (tgt := 70) hx hb dX3_addReview_37 (by decide) (fun c37_25 => ?_) (fun c37_25 => ?_)
    · have c37_25 : x24.toInt ≤ a2.toInt := (cv_le rfl rfl).mp c37_25
      refine lv_aload hx hb dX3_addReview_70 (lv_at hl 2 rfl) ?_
      refine lv_iload hx hb dX3_addReview_72 (lv_at hl 0 rfl) ?_
      refine lv_iload_n hx hb dX3_addReview_74 rfl (lv_at hl 5 rfl) ?_
      obtain ⟨j26, rr27, hr28⟩ := RS.rh hRS hy2
      refine va_iast hx hb hK hP hD hS (4 + j26) 3 (rgU4_1dd8f5a hr28) rgT4_a0d579d (vinI (by omega) (by omega)) dX3_addReview_75 (fun H locs hP9 hD9 hS9 => ?_)
      obtain ⟨rx29, e_rx29⟩ : ∃ y, r24.set j26 (y1, .inl (g.2.2.2.2.1, 5, .inl (upd rr27 l24_6.toNatClampNeg a2))) = y := ⟨_, rfl⟩
      have hRS := e_rx29 ▸ RS.set hRS (upd rr27 l24_6.toNatClampNeg a2) hr28
      clear hP hD hS
      obtain ⟨hP, hD⟩ := rgW4_1dbbc5a hP9 hD9 e_rx29
      have hS := hS9; clear hP9 hD9 hS9
      refine lv_aload hx hb dX3_addReview_76 (lv_at hl 1 rfl) ?_
      refine lv_iload hx hb dX3_addReview_78 (lv_at hl 0 rfl) ?_
      refine lv_iload_n hx hb dX3_addReview_80 rfl (lv_at hl 6 rfl) ?_
      obtain ⟨j30, rr31, hr32⟩ := RS.rh hRS hy5
      refine va_iast hx hb hK hP hD hS (4 + j30) 3 (rgU4_1dd8f5a hr32) rgT4_a0d579d (vinI (by omega) (by omega)) dX3_addReview_81 (fun H locs hP9 hD9 hS9 => ?_)
      obtain ⟨rx33, e_rx33⟩ : ∃ y, rx29.set j30 (y4, .inl (g.2.2.2.2.1, 5, .inl (upd rr31 l24_6.toNatClampNeg a3))) = y := ⟨_, rfl⟩
      have hRS := e_rx33 ▸ RS.set hRS (upd rr31 l24_6.toNatClampNeg a3) hr32
      clear hP hD hS
      obtain ⟨hP, hD⟩ := rgW4_1dbbc5a hP9 hD9 e_rx33
      have hS := hS9; clear hP9 hD9 hS9
      refine lv_aload_n hx hb dX3_addReview_82 rfl (lv_at hl 3 rfl) ?_
      refine va_get (D := (dC, dI)) (ci := 2) (v := .ref a0_3) (C := RX3) (T := TX3) (N := 6) hx hb hts inlX3 hown hK hP 0 rgL4_6945f2e rfl 3 (by decide) (hts (.fieldLink RX3 21 "ClosedUntil$State" "reviews" "[I") qw_49) (fun _ h9 => h9) rfl dX3_addReview_83 ?_
      refine lv_iload_n hx hb dX3_addReview_86 rfl (lv_at hl 4 rfl) ?_
      refine lv_dup2_11 hx hb dX3_addReview_87 rfl rfl ?_
      refine va_iald hx hb hK hP 1 0 rgL4_3765c98 rgT4_b662ba5 (vinI (by omega) (by omega)) dX3_addReview_88 ?_
      refine lv_topi (fun x34 e_x34 => ?_)
      have b_x34 : 0 ≤ x34.toInt ∧ x34.toInt ≤ 5 := vr_at (lo := 0) (hi := 5) (f := a0_3_f) h_a0_3_f e_x34
      have hx5 : x34.toInt ≤ 4 := by rw [e_x34]; exact hrv
      refine lv_iconst (v := 1) hx hb dX3_addReview_89 (by decide) ?_
      refine lv_iadd hx hb dX3_addReview_90 ?_
      refine lv_topi (fun x35 e_x35 => ?_)
      try have e_x35 := ti_add e_x35 rfl (show (1 : Int32).toInt = 1 by decide) (by omega)
      refine va_iast hx hb hK hP hD hS 1 0 rgL4_3765c98 rgT4_b662ba5 (vinI (by omega) (by omega)) dX3_addReview_91 (fun H locs hP9 hD9 hS9 => ?_)
      obtain ⟨y36, e_y36⟩ : ∃ y, (upd a0_3_f a1.toNatClampNeg x35) = y := ⟨_, rfl⟩
      clear hP hD hS
      obtain ⟨hP, hD⟩ := rgS4_a4d3d29 (e := (a0_3, .inl (a0_3_c, 12, .inl y36))) hP9 hD9 (congrArg (fun z9 => (((a0_3, .inl (a0_3_c, 12, .inl z9)) : Nat × va_E))) e_y36)
      have hS := hS9; clear hP9 hD9 hS9
      have b_y36 : vr 0 5 y36 := vr_upd e_y36 h_a0_3_f (by omega)
      refine lv_iload hx hb dX3_addReview_92 (lv_at hl 0 rfl) ?_
      refine W.widen (k := 0) (n := 0) (Nat.le_of_ble_eq_true rfl) (Nat.le_of_ble_eq_true rfl) ?_
      have hP9 := hP
      have hD9 := hD
      have hK9 := (rgK4_6738937 hK)
      have hf9_0 : vr 0 5 y36 := b_y36
      have hf9_1 : RS g.2.2.2.2.1 rows rx33 := hRS
      have hf9_2 : (0 ≤ l24_6.toInt ∧ l24_6.toInt ≤ 4) := (by omega)
      have hf9_3 : (RevUp a0_3_f y36 a1.toNatClampNeg 1) := RevUp.of e_y36 e_x34 (by omega)
      exact W.iret (v := l24_6) hx hb hr (fun t ht hW => ⟨⟨l24_6, l24_6, rfl, rfl, y36, rx33, hf9_0, hf9_1, hf9_2, hf9_3, atB ht hP9, va_K.moved hW.alike hK9, hD9⟩, hS.F ht⟩) hS.2.2 dX3_addReview_94
    · have c37_25 : ¬ (x24.toInt ≤ a2.toInt) := mt (cv_le rfl rfl).mpr c37_25
      refine lv_aload hx hb dX3_addReview_40 (lv_at hl 2 rfl) ?_
      refine lv_iload hx hb dX3_addReview_42 (lv_at hl 0 rfl) ?_
      refine lv_aload hx hb dX3_addReview_44 (lv_at hl 2 rfl) ?_
      refine lv_iload hx hb dX3_addReview_46 (lv_at hl 0 rfl) ?_
      refine lv_iconst (v := 1) hx hb dX3_addReview_48 (by decide) ?_
      refine lv_isub hx hb dX3_addReview_49 ?_
      refine lv_topi (fun x37 e_x37 => ?_)
      try have e_x37 := ti_sub e_x37 rfl (show (1 : Int32).toInt = 1 by decide) (by omega)
      obtain ⟨j38, rr39, hr40⟩ := RS.rh hRS hy2
      refine va_iald hx hb hK hP (4 + j38) 3 (rgU4_1dd8f5a hr40) rgT4_a0d579d (vinI (by omega) (by omega)) dX3_addReview_50 ?_
      refine lv_topi (fun x41 e_x41 => ?_)
      have b_x41 := i32b x41
      obtain ⟨j42, rr43, hr44⟩ := RS.rh hRS hy2
      refine va_iast hx hb hK hP hD hS (4 + j42) 3 (rgU4_1dd8f5a hr44) rgT4_a0d579d (vinI (by omega) (by omega)) dX3_addReview_51 (fun H locs hP9 hD9 hS9 => ?_)
      obtain ⟨rx45, e_rx45⟩ : ∃ y, r24.set j42 (y1, .inl (g.2.2.2.2.1, 5, .inl (upd rr43 l24_6.toNatClampNeg x41))) = y := ⟨_, rfl⟩
      have hRS := e_rx45 ▸ RS.set hRS (upd rr43 l24_6.toNatClampNeg x41) hr44
      clear hP hD hS
      obtain ⟨hP, hD⟩ := rgW4_1dbbc5a hP9 hD9 e_rx45
      have hS := hS9; clear hP9 hD9 hS9
      refine lv_aload hx hb dX3_addReview_52 (lv_at hl 1 rfl) ?_
      refine lv_iload hx hb dX3_addReview_54 (lv_at hl 0 rfl) ?_
      refine lv_aload hx hb dX3_addReview_56 (lv_at hl 1 rfl) ?_
      refine lv_iload hx hb dX3_addReview_58 (lv_at hl 0 rfl) ?_
      refine lv_iconst (v := 1) hx hb dX3_addReview_60 (by decide) ?_
      refine lv_isub hx hb dX3_addReview_61 ?_
      refine lv_topi (fun x46 e_x46 => ?_)
      try have e_x46 := ti_sub e_x46 rfl (show (1 : Int32).toInt = 1 by decide) (by omega)
      obtain ⟨j47, rr48, hr49⟩ := RS.rh hRS hy5
      refine va_iald hx hb hK hP (4 + j47) 3 (rgU4_1dd8f5a hr49) rgT4_a0d579d (vinI (by omega) (by omega)) dX3_addReview_62 ?_
      refine lv_topi (fun x50 e_x50 => ?_)
      have b_x50 := i32b x50
      obtain ⟨j51, rr52, hr53⟩ := RS.rh hRS hy5
      refine va_iast hx hb hK hP hD hS (4 + j51) 3 (rgU4_1dd8f5a hr53) rgT4_a0d579d (vinI (by omega) (by omega)) dX3_addReview_63 (fun H locs hP9 hD9 hS9 => ?_)
      obtain ⟨rx54, e_rx54⟩ : ∃ y, rx45.set j51 (y4, .inl (g.2.2.2.2.1, 5, .inl (upd rr52 l24_6.toNatClampNeg x50))) = y := ⟨_, rfl⟩
      have hRS := e_rx54 ▸ RS.set hRS (upd rr52 l24_6.toNatClampNeg x50) hr53
      clear hP hD hS
      obtain ⟨hP, hD⟩ := rgW4_1dbbc5a hP9 hD9 e_rx54
      have hS := hS9; clear hP9 hD9 hS9
      obtain ⟨x55, e_x55⟩ : ∃ y : Int32, y = l24_6 + (-1) := ⟨_, rfl⟩
      refine lv_iinc (v := x55) (lv' := [(6, .int x55), (5, .ref y4), (4, .ref y1), (0, .ref a0), (1, .int a1), (2, .int a2), (3, .int a3)]) hx hb dX3_addReview_64 hl (k := 0) rfl (by rw [e_x55]; rfl) (by decide) rfl (fun ls hl => ?_)
      try have e_x55 := ti_add e_x55 rfl (show ((-1) : Int32).toInt = (-1) by decide) (by omega)
      refine lv_goto (tgt := 24) hx hb dX3_addReview_67 (by decide) ?_
      exact ih24 ((x55.toInt).toNat) _ _ _ (by omega) ⟨x55, rx54, rfl, hRS, (by omega), lv_sub hl [0, 1, 2, 3, 4, 5, 6] rfl, hP, hD, hS⟩
set_option maxHeartbeats 4000000 in
set_option maxRecDepth 100000 in
theorem k_X3_dropReview (l : Launch) (dC : Nat → ClassId) (dI : Nat → Nat → Nat) (g : Gv) (sz : Nat) (a0 : Nat) (a1 : Int32) (a2 : Int32) (a0_0 : Nat) (a0_1 : Nat) (a0_2 : Nat) (a0_3 : Nat) (a0_4 : Nat) (a0_5 : Nat) (a0_3_c : ClassId) (a0_3_f : Nat → Int32) (a0_4_c : ClassId) (a0_4_f : Nat → Option Nat) (a0_5_c : ClassId) (a0_5_f : Nat → Option Nat) (rows : va_W) (h_a0_3_f : vr 0 5 a0_3_f) (h_a0_4_f : GR g.2.2.2.2.1 5 12 a0_4_f rows) (h_a0_5_f : GR g.2.2.2.2.1 5 12 a0_5_f rows) (ha1r : 0 ≤ a1.toInt ∧ a1.toInt < 12) (ha2 : 0 ≤ a2.toInt ∧ a2.toInt ≤ 4) (hrv : 1 ≤ (a0_3_f a1.toNatClampNeg).toInt) : Met l yX3_dropReview (.code yX3_dropReview cX3_dropReview 6 none :: TBL) ({ frames := 0, cells := 0, slots := 0, locals := 0 }) (va_Pc [.ref a0, .int a1, .int a2] (fun U => U.heap.size = sz ∧ va_P (dC, dI) vwCl (([(a0, .inr (2, [.ref a0_0, .ref a0_1, .ref a0_2, .ref a0_3, .ref a0_4, .ref a0_5])), (a0_3, .inl (a0_3_c, 12, .inl a0_3_f)), (a0_4, .inl (a0_4_c, 12, .inr (.inr (.inr (.inr a0_4_f))))), (a0_5, .inl (a0_5_c, 12, .inr (.inr (.inr (.inr a0_5_f)))))] : va_W) ++ rows) U.heap ∧ va_K (dC, dI) vwCl [(a0_3_c, .int), (a0_4_c, .array .int), (a0_5_c, .array .int)] U ∧ va_D (fun _ => True) (([(a0, .inr (2, [.ref a0_0, .ref a0_1, .ref a0_2, .ref a0_3, .ref a0_4, .ref a0_5])), (a0_3, .inl (a0_3_c, 12, .inl a0_3_f)), (a0_4, .inl (a0_4_c, 12, .inr (.inr (.inr (.inr a0_4_f))))), (a0_5, .inl (a0_5_c, 12, .inr (.inr (.inr (.inr a0_5_f)))))] : va_W) ++ rows) ∧ Ev g (va_A (([(a0, .inr (2, [.ref a0_0, .ref a0_1, .ref a0_2, .ref a0_3, .ref a0_4, .ref a0_5])), (a0_3, .inl (a0_3_c, 12, .inl a0_3_f)), (a0_4, .inl (a0_4_c, 12, .inr (.inr (.inr (.inr a0_4_f))))), (a0_5, .inl (a0_5_c, 12, .inr (.inr (.inr (.inr a0_5_f)))))] : va_W) ++ rows) sz) U)) (va_Qv (fun (_ : Unit) => True) (fun (_ : Unit) (t : State) => ∃ (za0_3_f : Nat → Int32) (zrows : va_W), vr 0 5 za0_3_f ∧ RS g.2.2.2.2.1 rows zrows ∧ (RevUp a0_3_f za0_3_f a1.toNatClampNeg (-1)) ∧ va_P (dC, dI) vwCl (([(a0, .inr (2, [.ref a0_0, .ref a0_1, .ref a0_2, .ref a0_3, .ref a0_4, .ref a0_5])), (a0_3, .inl (a0_3_c, 12, .inl za0_3_f)), (a0_4, .inl (a0_4_c, 12, .inr (.inr (.inr (.inr a0_4_f))))), (a0_5, .inl (a0_5_c, 12, .inr (.inr (.inr (.inr a0_5_f)))))] : va_W) ++ zrows) t.heap ∧ va_K (dC, dI) vwCl [] t ∧ va_D (va_A (([(a0, .inr (2, [.ref a0_0, .ref a0_1, .ref a0_2, .ref a0_3, .ref a0_4, .ref a0_5])), (a0_3, .inl (a0_3_c, 12, .inl a0_3_f)), (a0_4, .inl (a0_4_c, 12, .inr (.inr (.inr (.inr a0_4_f))))), (a0_5, .inl (a0_5_c, 12, .inr (.inr (.inr (.inr a0_5_f)))))] : va_W) ++ rows) sz) (([(a0, .inr (2, [.ref a0_0, .ref a0_1, .ref a0_2, .ref a0_3, .ref a0_4, .ref a0_5])), (a0_3, .inl (a0_3_c, 12, .inl za0_3_f)), (a0_4, .inl (a0_4_c, 12, .inr (.inr (.inr (.inr a0_4_f))))), (a0_5, .inl (a0_5_c, 12, .inr (.inr (.inr (.inr a0_5_f)))))] : va_W) ++ zrows)) (va_A (([(a0, .inr (2, [.ref a0_0, .ref a0_1, .ref a0_2, .ref a0_3, .ref a0_4, .ref a0_5])), (a0_3, .inl (a0_3_c, 12, .inl a0_3_f)), (a0_4, .inl (a0_4_c, 12, .inr (.inr (.inr (.inr a0_4_f))))), (a0_5, .inl (a0_5_c, 12, .inr (.inr (.inr (.inr a0_5_f)))))] : va_W) ++ rows) sz)) 0 0 (va_A (([(a0, .inr (2, [.ref a0_0, .ref a0_1, .ref a0_2, .ref a0_3, .ref a0_4, .ref a0_5])), (a0_3, .inl (a0_3_c, 12, .inl a0_3_f)), (a0_4, .inl (a0_4_c, 12, .inr (.inr (.inr (.inr a0_4_f))))), (a0_5, .inl (a0_5_c, 12, .inr (.inr (.inr (.inr a0_5_f)))))] : va_W) ++ rows) sz) := by
  refine Met.ofW (cc := cX3_dropReview) (maxL := 6) (ret := none) (by decide) rfl ?_
  intro p e s m args below meth c s₁ B hml hv
  obtain ⟨rfl, hsz, hP, hK, hD0, hE⟩ := hv
  have hx := B.exec
  have hb := B.bytes
  have hr := B.returns
  have hts0 := atoms_spec (ws := (.code yX3_dropReview cX3_dropReview 6 none :: TBL)) B.pre
  have hts := fun (w : Cond) (h : w ∈ TBL) => hts0 w (List.mem_cons_of_mem _ h)
  have hown : s.vm.findClass RX3 = some m.cls := findClass_of_methodNamed B.named
  have hlocks := B.notSynchronized
  have hN := hE.1
  subst hsz
  have hD := hD0.self (sz := s.heap.size)
  generalize hAe : va_A (([(a0, .inr (2, [.ref a0_0, .ref a0_1, .ref a0_2, .ref a0_3, .ref a0_4, .ref a0_5])), (a0_3, .inl (a0_3_c, 12, .inl a0_3_f)), (a0_4, .inl (a0_4_c, 12, .inr (.inr (.inr (.inr a0_4_f))))), (a0_5, .inl (a0_5_c, 12, .inr (.inr (.inr (.inr a0_5_f)))))] : va_W) ++ rows) s.heap.size = A at hD hE ⊢
  have hA : ∀ q : Nat, s.heap.size ≤ q → A q := fun q h => by rw [← hAe]; exact Or.inr h
  have hS : va_S A s.heap s.heap [] := va_S.rf
  replace hP : va_P (dC, dI) vwCl (([(a0, .inr (2, [.ref a0_0, .ref a0_1, .ref a0_2, .ref a0_3, .ref a0_4, .ref a0_5])), (a0_3, .inl (a0_3_c, 12, .inl a0_3_f)), (a0_4, .inl (a0_4_c, 12, .inr (.inr (.inr (.inr a0_4_f))))), (a0_5, .inl (a0_5_c, 12, .inr (.inr (.inr (.inr a0_5_f)))))] : va_W) ++ rows) s.heap := hP
  have hl := lv_entry ([.ref a0, .int a1, .int a2]) (n := 6) (Nat.le_of_ble_eq_true rfl)
  rw [lg_entry_eq]
  generalize (lg_sl ([.ref a0, .int a1, .int a2]) ++ List.replicate (6 - (lg_sl ([.ref a0, .int a1, .int a2])).length) Slot.unset).toArray = ls at hl ⊢
  have hl : lv_has ls 6 [(0, .ref a0), (1, .int a1), (2, .int a2)] := hl
  have hK := cyK hK (hts (.arrayClass .int) qw_54) hE.2.2.2.2.2.2.2.2.2.2.2.2.1
  replace hK : va_K (dC, dI) vwCl [(a0_3_c, .int), (a0_4_c, .array .int), (a0_5_c, .array .int), (g.2.2.2.2.1, .int)] s := hK
  have b_a1 := i32b a1
  have b_a2 := i32b a2
  have hRS : RS g.2.2.2.2.1 rows rows := RS.rf
  refine lv_aload_n hx hb dX3_dropReview_0 rfl (lv_at hl 0 rfl) ?_
  refine va_get (D := (dC, dI)) (ci := 2) (v := .ref a0_4) (C := RX3) (T := TX3) (N := 6) hx hb hts inlX3 hown hK hP 0 rgL4_6945f2e rfl 4 (by decide) (hts (.fieldLink RX3 26 "ClosedUntil$State" "reviewDay" "[[I") qw_53) (fun _ h9 => h9) rfl dX3_dropReview_1 ?_
  refine lv_iload_n hx hb dX3_dropReview_4 rfl (lv_at hl 1 rfl) ?_
  refine va_aldqA hx hb hK hP 2 1 rgL4_97f54b4 rgT4_b124325 (vinI (by omega) (by omega)) dX3_dropReview_5 ?_
  obtain ⟨y1, hg3, hy2⟩ := GR.at h_a0_4_f (i := a1.toNatClampNeg) (clI (by omega) (by omega))
  refine topv (w := .ref y1) (by rw [hg3]; rfl) ?_
  refine lv_astore_n (lv' := [(3, .ref y1), (0, .ref a0), (1, .int a1), (2, .int a2)]) hx hb dX3_dropReview_6 rfl hl (by decide) rfl (fun ls hl => ?_)
  refine lv_aload_n hx hb dX3_dropReview_7 rfl (lv_at hl 1 rfl) ?_
  refine va_get (D := (dC, dI)) (ci := 2) (v := .ref a0_5) (C := RX3) (T := TX3) (N := 6) hx hb hts inlX3 hown hK hP 0 rgL4_6945f2e rfl 5 (by decide) (hts (.fieldLink RX3 29 "ClosedUntil$State" "reviewYears" "[[I") qw_55) (fun _ h9 => h9) rfl dX3_dropReview_8 ?_
  refine lv_iload_n hx hb dX3_dropReview_11 rfl (lv_at hl 2 rfl) ?_
  refine va_aldqA hx hb hK hP 3 2 rgL4_05dcacb rgT4_df3fd44 (vinI (by omega) (by omega)) dX3_dropReview_12 ?_
  obtain ⟨y4, hg6, hy5⟩ := GR.at h_a0_5_f (i := a1.toNatClampNeg) (clI (by omega) (by omega))
  refine topv (w := .ref y4) (by rw [hg6]; rfl) ?_
  refine lv_astore (lv' := [(4, .ref y4), (3, .ref y1), (0, .ref a0), (1, .int a1), (2, .int a2)]) hx hb dX3_dropReview_13 hl (by decide) rfl (fun ls hl => ?_)
  refine lv_iload_n hx hb dX3_dropReview_15 rfl (lv_at hl 4 rfl) ?_
  refine lv_istore (lv' := [(5, .int a2), (4, .ref y4), (3, .ref y1), (0, .ref a0), (1, .int a1), (2, .int a2)]) hx hb dX3_dropReview_16 hl (by decide) rfl (fun ls hl => ?_)
  refine wloop (fun n H locs ls => ∃ (l18_5 : Int32) (r18 : va_W), n = (2147483647 - l18_5.toInt).toNat ∧ (RS g.2.2.2.2.1 rows r18) ∧ (a2.toInt ≤ l18_5.toInt) ∧ (l18_5.toInt ≤ 5) ∧ lv_has ls 6 [(5, .int l18_5), (4, .ref y4), (3, .ref y1), (0, .ref a0), (1, .int a1), (2, .int a2)] ∧ va_P (dC, dI) vwCl (([(a0, .inr (2, [.ref a0_0, .ref a0_1, .ref a0_2, .ref a0_3, .ref a0_4, .ref a0_5])), (a0_3, .inl (a0_3_c, 12, .inl a0_3_f)), (a0_4, .inl (a0_4_c, 12, .inr (.inr (.inr (.inr a0_4_f))))), (a0_5, .inl (a0_5_c, 12, .inr (.inr (.inr (.inr a0_5_f)))))] : va_W) ++ r18) H ∧ va_D A (([(a0, .inr (2, [.ref a0_0, .ref a0_1, .ref a0_2, .ref a0_3, .ref a0_4, .ref a0_5])), (a0_3, .inl (a0_3_c, 12, .inl a0_3_f)), (a0_4, .inl (a0_4_c, 12, .inr (.inr (.inr (.inr a0_4_f))))), (a0_5, .inl (a0_5_c, 12, .inr (.inr (.inr (.inr a0_5_f)))))] : va_W) ++ r18) ∧ va_S A s.heap H locs) ?_ ((2147483647 - a2.toInt).toNat) _ _ _ ⟨a2, rows, rfl, hRS, (by omega), (by omega), lv_sub hl [0, 1, 2, 3, 4, 5] rfl, hP, hD, hS⟩
  intro n18 H locs ls hI ih18
  obtain ⟨l18_5, r18, hn18, g_r18, g_l18_5, gx18_0, hl, hP, hD, hS⟩ := hI
  have b_l18_5 := i32b l18_5
  have hRS := g_r18
  refine lv_iload hx hb dX3_dropReview_18 (lv_at hl 0 rfl) ?_
  refine lv_iconst (v := 1) hx hb dX3_dropReview_20 (by decide) ?_
  refine lv_iadd hx hb dX3_dropReview_21 ?_
  refine lv_topi (fun x7 e_x7 => ?_)
  try have e_x7 := ti_add e_x7 rfl (show (1 : Int32).toInt = 1 by decide) (by omega)
  refine lv_aload_n hx hb dX3_dropReview_22 rfl (lv_at hl 3 rfl) ?_
  refine va_get (D := (dC, dI)) (ci := 2) (v := .ref a0_3) (C := RX3) (T := TX3) (N := 6) hx hb hts inlX3 hown hK hP 0 rgL4_6945f2e rfl 3 (by decide) (hts (.fieldLink RX3 21 "ClosedUntil$State" "reviews" "[I") qw_49) (fun _ h9 => h9) rfl dX3_dropReview_23 ?_
  refine lv_iload_n hx hb dX3_dropReview_26 rfl (lv_at hl 4 rfl) ?_
  refine va_iald hx hb hK hP 1 0 rgL4_3765c98 rgT4_b662ba5 (vinI (by omega) (by omega)) dX3_dropReview_27 ?_
  refine lv_topi (fun x8 e_x8 => ?_)
  have b_x8 : 0 ≤ x8.toInt ∧ x8.toInt ≤ 5 := vr_at (lo := 0) (hi := 5) (f := a0_3_f) h_a0_3_f e_x8
  refine lv_icmp_ge (tgt := 59) hx hb dX3_dropReview_28 (by decide) (fun c28_9 => ?_) (fun c28_9 => ?_)
  · have c28_9 : x8.toInt ≤ x7.toInt := (cv_le rfl rfl).mp c28_9
    refine lv_aload_n hx hb dX3_dropReview_59 rfl (lv_at hl 3 rfl) ?_
    refine va_get (D := (dC, dI)) (ci := 2) (v := .ref a0_3) (C := RX3) (T := TX3) (N := 6) hx hb hts inlX3 hown hK hP 0 rgL4_6945f2e rfl 3 (by decide) (hts (.fieldLink RX3 21 "ClosedUntil$State" "reviews" "[I") qw_49) (fun _ h9 => h9) rfl dX3_dropReview_60 ?_
    refine lv_iload_n hx hb dX3_dropReview_63 rfl (lv_at hl 4 rfl) ?_
    refine lv_dup2_11 hx hb dX3_dropReview_64 rfl rfl ?_
    refine va_iald hx hb hK hP 1 0 rgL4_3765c98 rgT4_b662ba5 (vinI (by omega) (by omega)) dX3_dropReview_65 ?_
    refine lv_topi (fun x10 e_x10 => ?_)
    have b_x10 : 0 ≤ x10.toInt ∧ x10.toInt ≤ 5 := vr_at (lo := 0) (hi := 5) (f := a0_3_f) h_a0_3_f e_x10
    have hx5 : 1 ≤ x10.toInt := by rw [e_x10]; exact hrv
    refine lv_iconst (v := 1) hx hb dX3_dropReview_66 (by decide) ?_
    refine lv_isub hx hb dX3_dropReview_67 ?_
    refine lv_topi (fun x11 e_x11 => ?_)
    try have e_x11 := ti_sub e_x11 rfl (show (1 : Int32).toInt = 1 by decide) (by omega)
    refine va_iast hx hb hK hP hD hS 1 0 rgL4_3765c98 rgT4_b662ba5 (vinI (by omega) (by omega)) dX3_dropReview_68 (fun H locs hP9 hD9 hS9 => ?_)
    obtain ⟨y12, e_y12⟩ : ∃ y, (upd a0_3_f a1.toNatClampNeg x11) = y := ⟨_, rfl⟩
    clear hP hD hS
    obtain ⟨hP, hD⟩ := rgS4_a4d3d29 (e := (a0_3, .inl (a0_3_c, 12, .inl y12))) hP9 hD9 (congrArg (fun z9 => (((a0_3, .inl (a0_3_c, 12, .inl z9)) : Nat × va_E))) e_y12)
    have hS := hS9; clear hP9 hD9 hS9
    have b_y12 : vr 0 5 y12 := vr_upd e_y12 h_a0_3_f (by omega)
    refine W.widen (k := 0) (n := 0) (Nat.le_of_ble_eq_true rfl) (Nat.le_of_ble_eq_true rfl) ?_
    have hP9 := hP
    have hD9 := hD
    have hK9 := (rgK4_6738937 hK)
    have hf9_0 : vr 0 5 y12 := b_y12
    have hf9_1 : RS g.2.2.2.2.1 rows r18 := hRS
    have hf9_2 : (RevUp a0_3_f y12 a1.toNatClampNeg (-1)) := RevUp.of e_y12 e_x10 (by omega)
    exact W.vret hx hb hr (fun t ht hW => ⟨⟨(), rfl, trivial, y12, r18, hf9_0, hf9_1, hf9_2, atB ht hP9, va_K.moved hW.alike hK9, hD9⟩, hS.F ht⟩) hS.2.2 dX3_dropReview_69
  · have c28_9 : ¬ (x8.toInt ≤ x7.toInt) := mt (cv_le rfl rfl).mpr c28_9
    refine lv_aload_n hx hb dX3_dropReview_31 rfl (lv_at hl 2 rfl) ?_
    refine lv_iload hx hb dX3_dropReview_32 (lv_at hl 0 rfl) ?_
    refine lv_aload_n hx hb dX3_dropReview_34 rfl (lv_at hl 2 rfl) ?_
    refine lv_iload hx hb dX3_dropReview_35 (lv_at hl 0 rfl) ?_
    refine lv_iconst (v := 1) hx hb dX3_dropReview_37 (by decide) ?_
    refine lv_iadd hx hb dX3_dropReview_38 ?_
    refine lv_topi (fun x13 e_x13 => ?_)
    try have e_x13 := ti_add e_x13 rfl (show (1 : Int32).toInt = 1 by decide) (by omega)
    obtain ⟨j14, rr15, hr16⟩ := RS.rh hRS hy2
    refine va_iald hx hb hK hP (4 + j14) 3 (rgU4_1dd8f5a hr16) rgT4_a0d579d (vinI (by omega) (by omega)) dX3_dropReview_39 ?_
    refine lv_topi (fun x17 e_x17 => ?_)
    have b_x17 := i32b x17
    obtain ⟨j18, rr19, hr20⟩ := RS.rh hRS hy2
    refine va_iast hx hb hK hP hD hS (4 + j18) 3 (rgU4_1dd8f5a hr20) rgT4_a0d579d (vinI (by omega) (by omega)) dX3_dropReview_40 (fun H locs hP9 hD9 hS9 => ?_)
    obtain ⟨rx21, e_rx21⟩ : ∃ y, r18.set j18 (y1, .inl (g.2.2.2.2.1, 5, .inl (upd rr19 l18_5.toNatClampNeg x17))) = y := ⟨_, rfl⟩
    have hRS := e_rx21 ▸ RS.set hRS (upd rr19 l18_5.toNatClampNeg x17) hr20
    clear hP hD hS
    obtain ⟨hP, hD⟩ := rgW4_1dbbc5a hP9 hD9 e_rx21
    have hS := hS9; clear hP9 hD9 hS9
    refine lv_aload hx hb dX3_dropReview_41 (lv_at hl 1 rfl) ?_
    refine lv_iload hx hb dX3_dropReview_43 (lv_at hl 0 rfl) ?_
    refine lv_aload hx hb dX3_dropReview_45 (lv_at hl 1 rfl) ?_
    refine lv_iload hx hb dX3_dropReview_47 (lv_at hl 0 rfl) ?_
    refine lv_iconst (v := 1) hx hb dX3_dropReview_49 (by decide) ?_
    refine lv_iadd hx hb dX3_dropReview_50 ?_
    refine lv_topi (fun x22 e_x22 => ?_)
    try have e_x22 := ti_add e_x22 rfl (show (1 : Int32).toInt = 1 by decide) (by omega)
    obtain ⟨j23, rr24, hr25⟩ := RS.rh hRS hy5
    refine va_iald hx hb hK hP (4 + j23) 3 (rgU4_1dd8f5a hr25) rgT4_a0d579d (vinI (by omega) (by omega)) dX3_dropReview_51 ?_
    refine lv_topi (fun x26 e_x26 => ?_)
    have b_x26 := i32b x26
    obtain ⟨j27, rr28, hr29⟩ := RS.rh hRS hy5
    refine va_iast hx hb hK hP hD hS (4 + j27) 3 (rgU4_1dd8f5a hr29) rgT4_a0d579d (vinI (by omega) (by omega)) dX3_dropReview_52 (fun H locs hP9 hD9 hS9 => ?_)
    obtain ⟨rx30, e_rx30⟩ : ∃ y, rx21.set j27 (y4, .inl (g.2.2.2.2.1, 5, .inl (upd rr28 l18_5.toNatClampNeg x26))) = y := ⟨_, rfl⟩
    have hRS := e_rx30 ▸ RS.set hRS (upd rr28 l18_5.toNatClampNeg x26) hr29
    clear hP hD hS
    obtain ⟨hP, hD⟩ := rgW4_1dbbc5a hP9 hD9 e_rx30
    have hS := hS9; clear hP9 hD9 hS9
    obtain ⟨x31, e_x31⟩ : ∃ y : Int32, y = l18_5 + 1 := ⟨_, rfl⟩
    refine lv_iinc (v := x31) (lv' := [(5, .int x31), (4, .ref y4), (3, .ref y1), (0, .ref a0), (1, .int a1), (2, .int a2)]) hx hb dX3_dropReview_53 hl (k := 0) rfl (by rw [e_x31]; rfl) (by decide) rfl (fun ls hl => ?_)
    try have e_x31 := ti_add e_x31 rfl (show (1 : Int32).toInt = 1 by decide) (by omega)
    refine lv_goto (tgt := 18) hx hb dX3_dropReview_56 (by decide) ?_
    exact ih18 ((2147483647 - x31.toInt).toNat) _ _ _ (by omega) ⟨x31, rx30, rfl, hRS, (by omega), (by omega), lv_sub hl [0, 1, 2, 3, 4, 5] rfl, hP, hD, hS⟩
set_option maxHeartbeats 4000000 in
set_option maxRecDepth 100000 in
theorem k_X2_takeBackLatest (l : Launch) (dC : Nat → ClassId) (dI : Nat → Nat → Nat) (g : Gv) (sz : Nat) (a0 : Nat) (a1 : Nat) (a0_0 : Nat) (a0_1 : Nat) (a0_2 : Nat) (a0_3 : Int32) (a0_0_c : ClassId) (a0_0_f : Nat → Int32) (a0_1_c : ClassId) (a0_1_f : Nat → Int32) (a0_2_c : ClassId) (a0_2_f : Nat → Int32) (a1_0 : Nat) (a1_1 : Nat) (a1_2 : Nat) (a1_3 : Nat) (a1_4 : Nat) (a1_5 : Nat) (a1_0_c : ClassId) (a1_0_f : Nat → Int32) (a1_1_c : ClassId) (a1_1_f : Nat → Int32) (a1_2_c : ClassId) (a1_2_f : Nat → Int32) (a1_3_c : ClassId) (a1_3_f : Nat → Int32) (a1_4_c : ClassId) (a1_4_f : Nat → Option Nat) (a1_5_c : ClassId) (a1_5_f : Nat → Option Nat) (rows : va_W) (h_a0_3 : 0 ≤ a0_3.toInt ∧ a0_3.toInt ≤ 12) (h_a1_3_f : vr 0 5 a1_3_f) (h_a1_4_f : GR g.2.2.2.2.1 5 12 a1_4_f rows) (h_a1_5_f : GR g.2.2.2.2.1 5 12 a1_5_f rows) (hja : JA a0_0_f a0_1_f a0_2_f a0_3) (hjc : JC a0_0_f a0_1_f a0_3 a1_3_f) : Met l yX2_takeBackLatest (.code yX2_takeBackLatest cX2_takeBackLatest 4 none :: TBL) ({ frames := 1, cells := 0, slots := 0, locals := 25 }) (va_Pc [.ref a0, .ref a1] (fun U => U.heap.size = sz ∧ va_P (dC, dI) vwCl (([(a0, .inr (1, [.ref a0_0, .ref a0_1, .ref a0_2, .int a0_3])), (a0_0, .inl (a0_0_c, 12, .inl a0_0_f)), (a0_1, .inl (a0_1_c, 12, .inl a0_1_f)), (a0_2, .inl (a0_2_c, 12, .inl a0_2_f)), (a1, .inr (2, [.ref a1_0, .ref a1_1, .ref a1_2, .ref a1_3, .ref a1_4, .ref a1_5])), (a1_0, .inl (a1_0_c, 24, .inl a1_0_f)), (a1_1, .inl (a1_1_c, 8, .inl a1_1_f)), (a1_2, .inl (a1_2_c, 12, .inl a1_2_f)), (a1_3, .inl (a1_3_c, 12, .inl a1_3_f)), (a1_4, .inl (a1_4_c, 12, .inr (.inr (.inr (.inr a1_4_f))))), (a1_5, .inl (a1_5_c, 12, .inr (.inr (.inr (.inr a1_5_f)))))] : va_W) ++ rows) U.heap ∧ va_K (dC, dI) vwCl [(a0_0_c, .int), (a0_1_c, .int), (a0_2_c, .int), (a1_0_c, .int), (a1_1_c, .int), (a1_2_c, .int), (a1_3_c, .int), (a1_4_c, .array .int), (a1_5_c, .array .int)] U ∧ va_D (fun _ => True) (([(a0, .inr (1, [.ref a0_0, .ref a0_1, .ref a0_2, .int a0_3])), (a0_0, .inl (a0_0_c, 12, .inl a0_0_f)), (a0_1, .inl (a0_1_c, 12, .inl a0_1_f)), (a0_2, .inl (a0_2_c, 12, .inl a0_2_f)), (a1, .inr (2, [.ref a1_0, .ref a1_1, .ref a1_2, .ref a1_3, .ref a1_4, .ref a1_5])), (a1_0, .inl (a1_0_c, 24, .inl a1_0_f)), (a1_1, .inl (a1_1_c, 8, .inl a1_1_f)), (a1_2, .inl (a1_2_c, 12, .inl a1_2_f)), (a1_3, .inl (a1_3_c, 12, .inl a1_3_f)), (a1_4, .inl (a1_4_c, 12, .inr (.inr (.inr (.inr a1_4_f))))), (a1_5, .inl (a1_5_c, 12, .inr (.inr (.inr (.inr a1_5_f)))))] : va_W) ++ rows) ∧ Ev g (va_A (([(a0, .inr (1, [.ref a0_0, .ref a0_1, .ref a0_2, .int a0_3])), (a0_0, .inl (a0_0_c, 12, .inl a0_0_f)), (a0_1, .inl (a0_1_c, 12, .inl a0_1_f)), (a0_2, .inl (a0_2_c, 12, .inl a0_2_f)), (a1, .inr (2, [.ref a1_0, .ref a1_1, .ref a1_2, .ref a1_3, .ref a1_4, .ref a1_5])), (a1_0, .inl (a1_0_c, 24, .inl a1_0_f)), (a1_1, .inl (a1_1_c, 8, .inl a1_1_f)), (a1_2, .inl (a1_2_c, 12, .inl a1_2_f)), (a1_3, .inl (a1_3_c, 12, .inl a1_3_f)), (a1_4, .inl (a1_4_c, 12, .inr (.inr (.inr (.inr a1_4_f))))), (a1_5, .inl (a1_5_c, 12, .inr (.inr (.inr (.inr a1_5_f)))))] : va_W) ++ rows) sz) U)) (va_Qv (fun (_ : Unit) => True) (fun (_ : Unit) (t : State) => ∃ (za0_3 : Int32) (za1_0_f : Nat → Int32) (za1_1_f : Nat → Int32) (za1_2_f : Nat → Int32) (za1_3_f : Nat → Int32) (zrows : va_W), (0 ≤ za0_3.toInt ∧ za0_3.toInt ≤ 12) ∧ vr 0 5 za1_3_f ∧ RS g.2.2.2.2.1 rows zrows ∧ (JA a0_0_f a0_1_f a0_2_f za0_3) ∧ (JC a0_0_f a0_1_f za0_3 za1_3_f) ∧ va_P (dC, dI) vwCl (([(a0, .inr (1, [.ref a0_0, .ref a0_1, .ref a0_2, .int za0_3])), (a0_0, .inl (a0_0_c, 12, .inl a0_0_f)), (a0_1, .inl (a0_1_c, 12, .inl a0_1_f)), (a0_2, .inl (a0_2_c, 12, .inl a0_2_f)), (a1, .inr (2, [.ref a1_0, .ref a1_1, .ref a1_2, .ref a1_3, .ref a1_4, .ref a1_5])), (a1_0, .inl (a1_0_c, 24, .inl za1_0_f)), (a1_1, .inl (a1_1_c, 8, .inl za1_1_f)), (a1_2, .inl (a1_2_c, 12, .inl za1_2_f)), (a1_3, .inl (a1_3_c, 12, .inl za1_3_f)), (a1_4, .inl (a1_4_c, 12, .inr (.inr (.inr (.inr a1_4_f))))), (a1_5, .inl (a1_5_c, 12, .inr (.inr (.inr (.inr a1_5_f)))))] : va_W) ++ zrows) t.heap ∧ va_K (dC, dI) vwCl [] t ∧ va_D (va_A (([(a0, .inr (1, [.ref a0_0, .ref a0_1, .ref a0_2, .int a0_3])), (a0_0, .inl (a0_0_c, 12, .inl a0_0_f)), (a0_1, .inl (a0_1_c, 12, .inl a0_1_f)), (a0_2, .inl (a0_2_c, 12, .inl a0_2_f)), (a1, .inr (2, [.ref a1_0, .ref a1_1, .ref a1_2, .ref a1_3, .ref a1_4, .ref a1_5])), (a1_0, .inl (a1_0_c, 24, .inl a1_0_f)), (a1_1, .inl (a1_1_c, 8, .inl a1_1_f)), (a1_2, .inl (a1_2_c, 12, .inl a1_2_f)), (a1_3, .inl (a1_3_c, 12, .inl a1_3_f)), (a1_4, .inl (a1_4_c, 12, .inr (.inr (.inr (.inr a1_4_f))))), (a1_5, .inl (a1_5_c, 12, .inr (.inr (.inr (.inr a1_5_f)))))] : va_W) ++ rows) sz) (([(a0, .inr (1, [.ref a0_0, .ref a0_1, .ref a0_2, .int za0_3])), (a0_0, .inl (a0_0_c, 12, .inl a0_0_f)), (a0_1, .inl (a0_1_c, 12, .inl a0_1_f)), (a0_2, .inl (a0_2_c, 12, .inl a0_2_f)), (a1, .inr (2, [.ref a1_0, .ref a1_1, .ref a1_2, .ref a1_3, .ref a1_4, .ref a1_5])), (a1_0, .inl (a1_0_c, 24, .inl za1_0_f)), (a1_1, .inl (a1_1_c, 8, .inl za1_1_f)), (a1_2, .inl (a1_2_c, 12, .inl za1_2_f)), (a1_3, .inl (a1_3_c, 12, .inl za1_3_f)), (a1_4, .inl (a1_4_c, 12, .inr (.inr (.inr (.inr a1_4_f))))), (a1_5, .inl (a1_5_c, 12, .inr (.inr (.inr (.inr a1_5_f)))))] : va_W) ++ zrows)) (va_A (([(a0, .inr (1, [.ref a0_0, .ref a0_1, .ref a0_2, .int a0_3])), (a0_0, .inl (a0_0_c, 12, .inl a0_0_f)), (a0_1, .inl (a0_1_c, 12, .inl a0_1_f)), (a0_2, .inl (a0_2_c, 12, .inl a0_2_f)), (a1, .inr (2, [.ref a1_0, .ref a1_1, .ref a1_2, .ref a1_3, .ref a1_4, .ref a1_5])), (a1_0, .inl (a1_0_c, 24, .inl a1_0_f)), (a1_1, .inl (a1_1_c, 8, .inl a1_1_f)), (a1_2, .inl (a1_2_c, 12, .inl a1_2_f)), (a1_3, .inl (a1_3_c, 12, .inl a1_3_f)), (a1_4, .inl (a1_4_c, 12, .inr (.inr (.inr (.inr a1_4_f))))), (a1_5, .inl (a1_5_c, 12, .inr (.inr (.inr (.inr a1_5_f)))))] : va_W) ++ rows) sz)) 0 0 (va_A (([(a0, .inr (1, [.ref a0_0, .ref a0_1, .ref a0_2, .int a0_3])), (a0_0, .inl (a0_0_c, 12, .inl a0_0_f)), (a0_1, .inl (a0_1_c, 12, .inl a0_1_f)), (a0_2, .inl (a0_2_c, 12, .inl a0_2_f)), (a1, .inr (2, [.ref a1_0, .ref a1_1, .ref a1_2, .ref a1_3, .ref a1_4, .ref a1_5])), (a1_0, .inl (a1_0_c, 24, .inl a1_0_f)), (a1_1, .inl (a1_1_c, 8, .inl a1_1_f)), (a1_2, .inl (a1_2_c, 12, .inl a1_2_f)), (a1_3, .inl (a1_3_c, 12, .inl a1_3_f)), (a1_4, .inl (a1_4_c, 12, .inr (.inr (.inr (.inr a1_4_f))))), (a1_5, .inl (a1_5_c, 12, .inr (.inr (.inr (.inr a1_5_f)))))] : va_W) ++ rows) sz) := by
  refine Met.ofW (cc := cX2_takeBackLatest) (maxL := 4) (ret := none) (by decide) rfl ?_
  intro p e s m args below meth c s₁ B hml hv
  obtain ⟨rfl, hsz, hP, hK, hD0, hE⟩ := hv
  have hx := B.exec
  have hb := B.bytes
  have hr := B.returns
  have hts0 := atoms_spec (ws := (.code yX2_takeBackLatest cX2_takeBackLatest 4 none :: TBL)) B.pre
  have hts := fun (w : Cond) (h : w ∈ TBL) => hts0 w (List.mem_cons_of_mem _ h)
  have hown : s.vm.findClass RX2 = some m.cls := findClass_of_methodNamed B.named
  have hlocks := B.notSynchronized
  have hN := hE.1
  subst hsz
  have hD := hD0.self (sz := s.heap.size)
  generalize hAe : va_A (([(a0, .inr (1, [.ref a0_0, .ref a0_1, .ref a0_2, .int a0_3])), (a0_0, .inl (a0_0_c, 12, .inl a0_0_f)), (a0_1, .inl (a0_1_c, 12, .inl a0_1_f)), (a0_2, .inl (a0_2_c, 12, .inl a0_2_f)), (a1, .inr (2, [.ref a1_0, .ref a1_1, .ref a1_2, .ref a1_3, .ref a1_4, .ref a1_5])), (a1_0, .inl (a1_0_c, 24, .inl a1_0_f)), (a1_1, .inl (a1_1_c, 8, .inl a1_1_f)), (a1_2, .inl (a1_2_c, 12, .inl a1_2_f)), (a1_3, .inl (a1_3_c, 12, .inl a1_3_f)), (a1_4, .inl (a1_4_c, 12, .inr (.inr (.inr (.inr a1_4_f))))), (a1_5, .inl (a1_5_c, 12, .inr (.inr (.inr (.inr a1_5_f)))))] : va_W) ++ rows) s.heap.size = A at hD hE ⊢
  have hA : ∀ q : Nat, s.heap.size ≤ q → A q := fun q h => by rw [← hAe]; exact Or.inr h
  have hS : va_S A s.heap s.heap [] := va_S.rf
  replace hP : va_P (dC, dI) vwCl (([(a0, .inr (1, [.ref a0_0, .ref a0_1, .ref a0_2, .int a0_3])), (a0_0, .inl (a0_0_c, 12, .inl a0_0_f)), (a0_1, .inl (a0_1_c, 12, .inl a0_1_f)), (a0_2, .inl (a0_2_c, 12, .inl a0_2_f)), (a1, .inr (2, [.ref a1_0, .ref a1_1, .ref a1_2, .ref a1_3, .ref a1_4, .ref a1_5])), (a1_0, .inl (a1_0_c, 24, .inl a1_0_f)), (a1_1, .inl (a1_1_c, 8, .inl a1_1_f)), (a1_2, .inl (a1_2_c, 12, .inl a1_2_f)), (a1_3, .inl (a1_3_c, 12, .inl a1_3_f)), (a1_4, .inl (a1_4_c, 12, .inr (.inr (.inr (.inr a1_4_f))))), (a1_5, .inl (a1_5_c, 12, .inr (.inr (.inr (.inr a1_5_f)))))] : va_W) ++ rows) s.heap := hP
  have hl := lv_entry ([.ref a0, .ref a1]) (n := 4) (Nat.le_of_ble_eq_true rfl)
  rw [lg_entry_eq]
  generalize (lg_sl ([.ref a0, .ref a1]) ++ List.replicate (4 - (lg_sl ([.ref a0, .ref a1])).length) Slot.unset).toArray = ls at hl ⊢
  have hl : lv_has ls 4 [(0, .ref a0), (1, .ref a1)] := hl
  have hK := cyK hK (hts (.arrayClass .int) qw_54) hE.2.2.2.2.2.2.2.2.2.2.2.2.1
  replace hK : va_K (dC, dI) vwCl [(a0_0_c, .int), (a0_1_c, .int), (a0_2_c, .int), (a1_0_c, .int), (a1_1_c, .int), (a1_2_c, .int), (a1_3_c, .int), (a1_4_c, .array .int), (a1_5_c, .array .int), (g.2.2.2.2.1, .int)] s := hK
  have hRS : RS g.2.2.2.2.1 rows rows := RS.rf
  refine lv_aload_n hx hb dX2_takeBackLatest_0 rfl (lv_at hl 0 rfl) ?_
  refine va_get (D := (dC, dI)) (ci := 1) (v := .int a0_3) (C := RX2) (T := TX2) (N := 4) hx hb hts inlX2 hown hK hP 0 rgL11_b27e9f1 rfl 3 (by decide) (hts (.fieldLink RX2 21 "ClosedUntil$Journal" "size" "I") qw_33) (fun _ h9 => h9) rfl dX2_takeBackLatest_1 ?_
  refine lv_if_ne (tgt := 8) hx hb dX2_takeBackLatest_4 (by decide) (fun c4_1 => ?_) (fun c4_1 => ?_)
  · have c4_1 : ¬ (a0_3.toInt = 0) := mt (cv_eq rfl (by decide)).mpr c4_1
    refine lv_aload_n hx hb dX2_takeBackLatest_8 rfl (lv_at hl 0 rfl) ?_
    refine lv_dup hx hb dX2_takeBackLatest_9 rfl ?_
    refine va_get (D := (dC, dI)) (ci := 1) (v := .int a0_3) (C := RX2) (T := TX2) (N := 4) hx hb hts inlX2 hown hK hP 0 rgL11_b27e9f1 rfl 3 (by decide) (hts (.fieldLink RX2 21 "ClosedUntil$Journal" "size" "I") qw_33) (fun _ h9 => h9) rfl dX2_takeBackLatest_10 ?_
    refine lv_iconst (v := 1) hx hb dX2_takeBackLatest_13 (by decide) ?_
    refine lv_isub hx hb dX2_takeBackLatest_14 ?_
    refine lv_topi (fun x2 e_x2 => ?_)
    try have e_x2 := ti_sub e_x2 rfl (show (1 : Int32).toInt = 1 by decide) (by omega)
    refine va_put (D := (dC, dI)) (ci := 1) (v := .int x2) (ty := .int) (C := RX2) (T := TX2) (N := 4) hx hb hts inlX2 tyX2 tyX2_ok nmX2 hown hK hP hD hS 0 rgL11_b27e9f1 rfl 3 (by decide) (hts (.fieldLink RX2 21 "ClosedUntil$Journal" "size" "I") qw_33) (fun _ h9 => h9) rfl (by decide +kernel) rfl rfl (Nat.le_of_ble_eq_true rfl) dX2_takeBackLatest_15 (fun H locs hP9 hD9 hS9 => ?_)
    clear hP hD hS
    obtain ⟨hP, hD⟩ := rgS11_4660afc (e := (a0, .inr (1, [.ref a0_0, .ref a0_1, .ref a0_2, .int x2]))) hP9 hD9 rfl
    have hS := hS9; clear hP9 hD9 hS9
    refine lv_aload_n hx hb dX2_takeBackLatest_18 rfl (lv_at hl 0 rfl) ?_
    refine va_get (D := (dC, dI)) (ci := 1) (v := .ref a0_1) (C := RX2) (T := TX2) (N := 4) hx hb hts inlX2 hown hK hP 0 rgL11_b27e9f1 rfl 1 (by decide) (hts (.fieldLink RX2 15 "ClosedUntil$Journal" "whose" "[I") qw_35) (fun _ h9 => h9) rfl dX2_takeBackLatest_19 ?_
    refine lv_aload_n hx hb dX2_takeBackLatest_22 rfl (lv_at hl 0 rfl) ?_
    refine va_get (D := (dC, dI)) (ci := 1) (v := .int x2) (C := RX2) (T := TX2) (N := 4) hx hb hts inlX2 hown hK hP 0 rgL11_b27e9f1 rfl 3 (by decide) (hts (.fieldLink RX2 21 "ClosedUntil$Journal" "size" "I") qw_33) (fun _ h9 => h9) rfl dX2_takeBackLatest_23 ?_
    refine va_iald hx hb hK hP 2 1 rgL11_df359c0 rgT10_bad6806 (vinI (by omega) (by omega)) dX2_takeBackLatest_26 ?_
    refine lv_topi (fun x3 e_x3 => ?_)
    have b_x3 := i32b x3
    refine lv_istore_n (lv' := [(2, .int x3), (0, .ref a0), (1, .ref a1)]) hx hb dX2_takeBackLatest_27 rfl hl (by decide) rfl (fun ls hl => ?_)
    refine lv_aload_n hx hb dX2_takeBackLatest_28 rfl (lv_at hl 1 rfl) ?_
    refine va_get (D := (dC, dI)) (ci := 1) (v := .ref a0_2) (C := RX2) (T := TX2) (N := 4) hx hb hts inlX2 hown hK hP 0 rgL11_b27e9f1 rfl 2 (by decide) (hts (.fieldLink RX2 18 "ClosedUntil$Journal" "before" "[I") qw_36) (fun _ h9 => h9) rfl dX2_takeBackLatest_29 ?_
    refine lv_aload_n hx hb dX2_takeBackLatest_32 rfl (lv_at hl 1 rfl) ?_
    refine va_get (D := (dC, dI)) (ci := 1) (v := .int x2) (C := RX2) (T := TX2) (N := 4) hx hb hts inlX2 hown hK hP 0 rgL11_b27e9f1 rfl 3 (by decide) (hts (.fieldLink RX2 21 "ClosedUntil$Journal" "size" "I") qw_33) (fun _ h9 => h9) rfl dX2_takeBackLatest_33 ?_
    refine va_iald hx hb hK hP 3 2 rgL11_7e76fd9 rgT10_261d576 (vinI (by omega) (by omega)) dX2_takeBackLatest_36 ?_
    refine lv_topi (fun x4 e_x4 => ?_)
    have b_x4 := i32b x4
    refine lv_istore_n (lv' := [(3, .int x4), (2, .int x3), (0, .ref a0), (1, .ref a1)]) hx hb dX2_takeBackLatest_37 rfl hl (by decide) rfl (fun ls hl => ?_)
    refine lv_aload_n hx hb dX2_takeBackLatest_38 rfl (lv_at hl 2 rfl) ?_
    refine va_get (D := (dC, dI)) (ci := 1) (v := .ref a0_0) (C := RX2) (T := TX2) (N := 4) hx hb hts inlX2 hown hK hP 0 rgL11_b27e9f1 rfl 0 (by decide) (hts (.fieldLink RX2 9 "ClosedUntil$Journal" "acts" "[I") qw_34) (fun _ h9 => h9) rfl dX2_takeBackLatest_39 ?_
    refine lv_aload_n hx hb dX2_takeBackLatest_42 rfl (lv_at hl 2 rfl) ?_
    refine va_get (D := (dC, dI)) (ci := 1) (v := .int x2) (C := RX2) (T := TX2) (N := 4) hx hb hts inlX2 hown hK hP 0 rgL11_b27e9f1 rfl 3 (by decide) (hts (.fieldLink RX2 21 "ClosedUntil$Journal" "size" "I") qw_33) (fun _ h9 => h9) rfl dX2_takeBackLatest_43 ?_
    refine va_iald hx hb hK hP 1 0 rgL11_7ad3314 rgT10_b796b64 (vinI (by omega) (by omega)) dX2_takeBackLatest_46 ?_
    refine lv_topi (fun x5 e_x5 => ?_)
    have b_x5 := i32b x5
    have hje := JE.use hja (c := x2) (by omega) (by omega) e_x5 e_x3 e_x4
    rcases (show x5.toInt = 0 ∨ x5.toInt = 1 ∨ x5.toInt = 2 ∨ (x5.toInt < 0 ∨ 2 < x5.toInt) by omega) with hq6 | hq6 | hq6 | hq6
    · refine lv_tableIn (off := 25) (tgt := 72) hx hb dX2_takeBackLatest_47 (by omega) (by omega) (by rw [hq6]; rfl) (by decide) ?_
      have hone := JC.one hjc (k := x2) (by omega) (by omega) e_x5 e_x3 (by assumption) (by omega)
      refine lv_aload_n hx hb dX2_takeBackLatest_72 rfl (lv_at hl 3 rfl) ?_
      refine lv_iload_n hx hb dX2_takeBackLatest_73 rfl (lv_at hl 1 rfl) ?_
      refine lv_iload_n hx hb dX2_takeBackLatest_74 rfl (lv_at hl 0 rfl) ?_
      have hPc := (rgP11_a287b04 hP)
      have hKc := (rgK10_30e454f hK)
      have hDc := (rgD11_d6ef455 hD)
      have hFc := freeW hDc hS hA
      refine va_callv (va_runVN (As := [.int x3, .int x4]) (rest := []) ⟨hx, hb, hml, hown, hts⟩ (k_X3_dropReview l dC dI g H.size (a1) (x3) (x4) (a1_0) (a1_1) (a1_2) (a1_3) (a1_4) (a1_5) (a1_3_c) (a1_3_f) (a1_4_c) (a1_4_f) (a1_5_c) (a1_5_f) (rows) h_a1_3_f (RS.gr hRS h_a1_4_f) (RS.gr hRS h_a1_5_f) (by omega) (by omega) (by first | assumption | omega)) ⟨va_cnB 2 hts (gwC qw_56) rfl rfl rfl (nm_46 hN) (hts (.initialized RX3) qw_57) (by decide +kernel) ⟨Nat.le_of_ble_eq_true rfl, Nat.le_of_ble_eq_true rfl⟩, (hts (.instanceMethod yX3_dropReview) qw_58), (hts (.selects RX3 yX3_dropReview yX3_dropReview) qw_59)⟩ ⟨fun a U g9 mk q => ⟨q.1, q.2.1, q.2.2.1, va_K.moved (u := U) (U := U.calling g9 mk a) (Vm.Alike.refl U.vm) q.2.2.2.1, q.2.2.2.2.1, Ev.bl q.2.2.2.2.2⟩, va_recv hK hP (ci := 2) (q0 := 4) rfl rgL11_be39076, fun U hU hW => ⟨rfl, by rw [hU], atB hU hPc, va_K.moved hW.alike hKc, hDc.weaken (fun _ _ _ _ => trivial), hE.go hS hFc hU hW⟩⟩ rfl rfl hl.1 rfl (lv_room (Nat.le_of_ble_eq_true rfl)) dX2_takeBackLatest_75 ⟨Nat.le_of_ble_eq_true rfl, Nat.le_of_ble_eq_true rfl⟩) hS (fun q _ h => hFc q h) hFc (fun u7 t H1 locs ht hvm h_u7 hB hz1 hk1 hS => ?_)
      obtain ⟨za0_3_f_9, zrows_10, hF11, hF12, hF13, hP1, hK1, hD1⟩ := hB
      have hK1 := va_K.moved hvm.symm hK1
      have hJ9 := rgJ11_f558afe hP hD hk1 hFc (atH ht hP1) hD1
      clear hP hD hPc hKc hDc hFc hP1 hD1 hk1 hz1
      obtain ⟨hP, hD⟩ := hJ9
      clear hK1
      generalize H1 = H at hP hS ⊢
      refine W.widen (k := 0) (n := 0) (Nat.le_of_ble_eq_true rfl) (Nat.le_of_ble_eq_true rfl) ?_
      have hRS := RS.tr hRS hF12
      refine lv_goto (tgt := 108) hx hb dX2_takeBackLatest_78 (by decide) ?_
      refine W.widen (k := 0) (n := 0) (Nat.le_of_ble_eq_true rfl) (Nat.le_of_ble_eq_true rfl) ?_
      have hP9 := hP
      have hD9 := hD
      have hK9 := (rgK10_59b8e2b hK)
      have hf9_0 : (0 ≤ x2.toInt ∧ x2.toInt ≤ 12) := by omega
      have hf9_1 : vr 0 5 za0_3_f_9 := hF11
      have hf9_2 : RS g.2.2.2.2.1 rows zrows_10 := hRS
      have hf9_3 : (JA a0_0_f a0_1_f a0_2_f x2) := JA.less hja (by omega)
      have hf9_4 : (JC a0_0_f a0_1_f x2 za0_3_f_9) := JC.drop hjc (k := x2) (by omega) (by omega) e_x5 e_x3 (by assumption) (by omega) hF13
      exact W.vret hx hb hr (fun t ht hW => ⟨⟨(), rfl, trivial, x2, a1_0_f, a1_1_f, a1_2_f, za0_3_f_9, zrows_10, hf9_0, hf9_1, hf9_2, hf9_3, hf9_4, atB ht hP9, va_K.moved hW.alike hK9, hD9⟩, hS.F ht⟩) hS.2.2 dX2_takeBackLatest_108
    · refine lv_tableIn (off := 34) (tgt := 81) hx hb dX2_takeBackLatest_47 (by omega) (by omega) (by rw [hq6]; rfl) (by decide) ?_
      refine lv_aload_n hx hb dX2_takeBackLatest_81 rfl (lv_at hl 3 rfl) ?_
      refine va_getN (D := (dC, dI)) (ci := 2) (v := .ref a1_2) (C := RX3) (T := TX3) (N := 6) hx hb hts inlX3 hown hK hP 4 rgL11_be39076 rfl 2 (by decide) (va_Nw.use rfl (nf_20 hN)) (fun _ h9 => h9) rfl dX2_takeBackLatest_82 ?_
      refine lv_iload_n hx hb dX2_takeBackLatest_85 rfl (lv_at hl 1 rfl) ?_
      refine lv_iload_n hx hb dX2_takeBackLatest_86 rfl (lv_at hl 0 rfl) ?_
      refine va_iast hx hb hK hP hD hS 7 5 rgL11_db97465 rgT10_21c7d47 (vinI (by omega) (by omega)) dX2_takeBackLatest_87 (fun H locs hP9 hD9 hS9 => ?_)
      obtain ⟨y14, e_y14⟩ : ∃ y, (upd a1_2_f x3.toNatClampNeg x4) = y := ⟨_, rfl⟩
      clear hP hD hS
      obtain ⟨hP, hD⟩ := rgS11_f64cc55 (e := (a1_2, .inl (a1_2_c, 12, .inl y14))) hP9 hD9 (congrArg (fun z9 => (((a1_2, .inl (a1_2_c, 12, .inl z9)) : Nat × va_E))) e_y14)
      have hS := hS9; clear hP9 hD9 hS9
      refine lv_goto (tgt := 108) hx hb dX2_takeBackLatest_88 (by decide) ?_
      refine W.widen (k := 0) (n := 0) (Nat.le_of_ble_eq_true rfl) (Nat.le_of_ble_eq_true rfl) ?_
      have hP9 := hP
      have hD9 := hD
      have hK9 := (rgK10_59b8e2b hK)
      have hf9_0 : (0 ≤ x2.toInt ∧ x2.toInt ≤ 12) := by omega
      have hf9_1 : vr 0 5 a1_3_f := h_a1_3_f
      have hf9_2 : RS g.2.2.2.2.1 rows rows := hRS
      have hf9_3 : (JA a0_0_f a0_1_f a0_2_f x2) := JA.less hja (by omega)
      have hf9_4 : (JC a0_0_f a0_1_f x2 a1_3_f) := JC.undo hjc (by omega) (by omega)
      exact W.vret hx hb hr (fun t ht hW => ⟨⟨(), rfl, trivial, x2, a1_0_f, a1_1_f, y14, a1_3_f, rows, hf9_0, hf9_1, hf9_2, hf9_3, hf9_4, atB ht hP9, va_K.moved hW.alike hK9, hD9⟩, hS.F ht⟩) hS.2.2 dX2_takeBackLatest_108
    · refine lv_tableIn (off := 44) (tgt := 91) hx hb dX2_takeBackLatest_47 (by omega) (by omega) (by rw [hq6]; rfl) (by decide) ?_
      refine lv_aload_n hx hb dX2_takeBackLatest_91 rfl (lv_at hl 3 rfl) ?_
      refine va_getN (D := (dC, dI)) (ci := 2) (v := .ref a1_1) (C := RX3) (T := TX3) (N := 6) hx hb hts inlX3 hown hK hP 4 rgL11_be39076 rfl 1 (by decide) (va_Nw.use rfl (nf_16 hN)) (fun _ h9 => h9) rfl dX2_takeBackLatest_92 ?_
      refine lv_iload_n hx hb dX2_takeBackLatest_95 rfl (lv_at hl 1 rfl) ?_
      refine lv_iload_n hx hb dX2_takeBackLatest_96 rfl (lv_at hl 0 rfl) ?_
      refine va_iast hx hb hK hP hD hS 6 4 rgL11_af8e928 rgT10_054400c (vinI (by omega) (by omega)) dX2_takeBackLatest_97 (fun H locs hP9 hD9 hS9 => ?_)
      obtain ⟨y15, e_y15⟩ : ∃ y, (upd a1_1_f x3.toNatClampNeg x4) = y := ⟨_, rfl⟩
      clear hP hD hS
      obtain ⟨hP, hD⟩ := rgS11_551c18d (e := (a1_1, .inl (a1_1_c, 8, .inl y15))) hP9 hD9 (congrArg (fun z9 => (((a1_1, .inl (a1_1_c, 8, .inl z9)) : Nat × va_E))) e_y15)
      have hS := hS9; clear hP9 hD9 hS9
      refine lv_goto (tgt := 108) hx hb dX2_takeBackLatest_98 (by decide) ?_
      refine W.widen (k := 0) (n := 0) (Nat.le_of_ble_eq_true rfl) (Nat.le_of_ble_eq_true rfl) ?_
      have hP9 := hP
      have hD9 := hD
      have hK9 := (rgK10_59b8e2b hK)
      have hf9_0 : (0 ≤ x2.toInt ∧ x2.toInt ≤ 12) := by omega
      have hf9_1 : vr 0 5 a1_3_f := h_a1_3_f
      have hf9_2 : RS g.2.2.2.2.1 rows rows := hRS
      have hf9_3 : (JA a0_0_f a0_1_f a0_2_f x2) := JA.less hja (by omega)
      have hf9_4 : (JC a0_0_f a0_1_f x2 a1_3_f) := JC.undo hjc (by omega) (by omega)
      exact W.vret hx hb hr (fun t ht hW => ⟨⟨(), rfl, trivial, x2, a1_0_f, y15, a1_2_f, a1_3_f, rows, hf9_0, hf9_1, hf9_2, hf9_3, hf9_4, atB ht hP9, va_K.moved hW.alike hK9, hD9⟩, hS.F ht⟩) hS.2.2 dX2_takeBackLatest_108
    · refine lv_tableOut (tgt := 101) hx hb dX2_takeBackLatest_47 hq6 (by decide) ?_
      refine lv_aload_n hx hb dX2_takeBackLatest_101 rfl (lv_at hl 3 rfl) ?_
      refine va_getN (D := (dC, dI)) (ci := 2) (v := .ref a1_0) (C := RX3) (T := TX3) (N := 6) hx hb hts inlX3 hown hK hP 4 rgL11_be39076 rfl 0 (by decide) (va_Nw.use rfl (nf_13 hN)) (fun _ h9 => h9) rfl dX2_takeBackLatest_102 ?_
      refine lv_iload_n hx hb dX2_takeBackLatest_105 rfl (lv_at hl 1 rfl) ?_
      refine lv_iload_n hx hb dX2_takeBackLatest_106 rfl (lv_at hl 0 rfl) ?_
      refine va_iast hx hb hK hP hD hS 5 3 rgL11_f259af2 rgT10_9dd1bcb (vinI (by omega) (by omega)) dX2_takeBackLatest_107 (fun H locs hP9 hD9 hS9 => ?_)
      obtain ⟨y16, e_y16⟩ : ∃ y, (upd a1_0_f x3.toNatClampNeg x4) = y := ⟨_, rfl⟩
      clear hP hD hS
      obtain ⟨hP, hD⟩ := rgS11_0052bbd (e := (a1_0, .inl (a1_0_c, 24, .inl y16))) hP9 hD9 (congrArg (fun z9 => (((a1_0, .inl (a1_0_c, 24, .inl z9)) : Nat × va_E))) e_y16)
      have hS := hS9; clear hP9 hD9 hS9
      refine W.widen (k := 0) (n := 0) (Nat.le_of_ble_eq_true rfl) (Nat.le_of_ble_eq_true rfl) ?_
      have hP9 := hP
      have hD9 := hD
      have hK9 := (rgK10_59b8e2b hK)
      have hf9_0 : (0 ≤ x2.toInt ∧ x2.toInt ≤ 12) := by omega
      have hf9_1 : vr 0 5 a1_3_f := h_a1_3_f
      have hf9_2 : RS g.2.2.2.2.1 rows rows := hRS
      have hf9_3 : (JA a0_0_f a0_1_f a0_2_f x2) := JA.less hja (by omega)
      have hf9_4 : (JC a0_0_f a0_1_f x2 a1_3_f) := JC.undo hjc (by omega) (by omega)
      exact W.vret hx hb hr (fun t ht hW => ⟨⟨(), rfl, trivial, x2, y16, a1_1_f, a1_2_f, a1_3_f, rows, hf9_0, hf9_1, hf9_2, hf9_3, hf9_4, atB ht hP9, va_K.moved hW.alike hK9, hD9⟩, hS.F ht⟩) hS.2.2 dX2_takeBackLatest_108
  · have c4_1 : a0_3.toInt = 0 := (cv_eq rfl (by decide)).mp c4_1
    refine W.widen (k := 0) (n := 0) (Nat.le_of_ble_eq_true rfl) (Nat.le_of_ble_eq_true rfl) ?_
    have hP9 := hP
    have hD9 := hD
    have hK9 := (rgK10_59b8e2b hK)
    have hf9_0 : (0 ≤ a0_3.toInt ∧ a0_3.toInt ≤ 12) := by omega
    have hf9_1 : vr 0 5 a1_3_f := h_a1_3_f
    have hf9_2 : RS g.2.2.2.2.1 rows rows := hRS
    have hf9_3 : (JA a0_0_f a0_1_f a0_2_f a0_3) := hja
    have hf9_4 : (JC a0_0_f a0_1_f a0_3 a1_3_f) := hjc
    exact W.vret hx hb hr (fun t ht hW => ⟨⟨(), rfl, trivial, a0_3, a1_0_f, a1_1_f, a1_2_f, a1_3_f, rows, hf9_0, hf9_1, hf9_2, hf9_3, hf9_4, atB ht hP9, va_K.moved hW.alike hK9, hD9⟩, hS.F ht⟩) hS.2.2 dX2_takeBackLatest_7
