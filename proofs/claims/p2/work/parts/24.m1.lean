theorem dX9_isLeap_0 : decode cX9_isLeap 0 = .ok (.iload_n 0, 1) := by decide +kernel
theorem dX9_isLeap_1 : decode cX9_isLeap 1 = .ok (.iconst 4, 1) := by decide +kernel
theorem dX9_isLeap_2 : decode cX9_isLeap 2 = .ok (.irem, 1) := by decide +kernel
theorem dX9_isLeap_3 : decode cX9_isLeap 3 = .ok (.ifCond .ne 22, 3) := by decide +kernel
theorem dX9_isLeap_6 : decode cX9_isLeap 6 = .ok (.iload_n 0, 1) := by decide +kernel
theorem dX9_isLeap_7 : decode cX9_isLeap 7 = .ok (.bipush 100, 2) := by decide +kernel
theorem dX9_isLeap_9 : decode cX9_isLeap 9 = .ok (.irem, 1) := by decide +kernel
theorem dX9_isLeap_10 : decode cX9_isLeap 10 = .ok (.ifCond .ne 11, 3) := by decide +kernel
theorem dX9_isLeap_13 : decode cX9_isLeap 13 = .ok (.iload_n 0, 1) := by decide +kernel
theorem dX9_isLeap_14 : decode cX9_isLeap 14 = .ok (.sipush 400, 3) := by decide +kernel
theorem dX9_isLeap_17 : decode cX9_isLeap 17 = .ok (.irem, 1) := by decide +kernel
theorem dX9_isLeap_18 : decode cX9_isLeap 18 = .ok (.ifCond .ne 7, 3) := by decide +kernel
theorem dX9_isLeap_21 : decode cX9_isLeap 21 = .ok (.iconst 1, 1) := by decide +kernel
theorem dX9_isLeap_22 : decode cX9_isLeap 22 = .ok (.goto 4, 3) := by decide +kernel
theorem dX9_isLeap_25 : decode cX9_isLeap 25 = .ok (.iconst 0, 1) := by decide +kernel
theorem dX9_isLeap_26 : decode cX9_isLeap 26 = .ok (.ireturn, 1) := by decide +kernel
theorem dX9_daysIn_0 : decode cX9_daysIn 0 = .ok (.iload_n 1, 1) := by decide +kernel
theorem dX9_daysIn_1 : decode cX9_daysIn 1 = .ok (.iconst 2, 1) := by decide +kernel
theorem dX9_daysIn_2 : decode cX9_daysIn 2 = .ok (.if_icmp .ne 20, 3) := by decide +kernel
theorem dX9_daysIn_5 : decode cX9_daysIn 5 = .ok (.iload_n 0, 1) := by decide +kernel
theorem dX9_daysIn_6 : decode cX9_daysIn 6 = .ok (.invokestatic 89, 3) := by decide +kernel
theorem dX9_daysIn_9 : decode cX9_daysIn 9 = .ok (.ifCond .eq 8, 3) := by decide +kernel
theorem dX9_daysIn_12 : decode cX9_daysIn 12 = .ok (.bipush 29, 2) := by decide +kernel
theorem dX9_daysIn_14 : decode cX9_daysIn 14 = .ok (.goto 38, 3) := by decide +kernel
theorem dX9_daysIn_17 : decode cX9_daysIn 17 = .ok (.bipush 28, 2) := by decide +kernel
theorem dX9_daysIn_19 : decode cX9_daysIn 19 = .ok (.goto 33, 3) := by decide +kernel
theorem dX9_daysIn_22 : decode cX9_daysIn 22 = .ok (.iload_n 1, 1) := by decide +kernel
theorem dX9_daysIn_23 : decode cX9_daysIn 23 = .ok (.iconst 4, 1) := by decide +kernel
theorem dX9_daysIn_24 : decode cX9_daysIn 24 = .ok (.if_icmp .eq 21, 3) := by decide +kernel
theorem dX9_daysIn_27 : decode cX9_daysIn 27 = .ok (.iload_n 1, 1) := by decide +kernel
theorem dX9_daysIn_28 : decode cX9_daysIn 28 = .ok (.bipush 6, 2) := by decide +kernel
theorem dX9_daysIn_30 : decode cX9_daysIn 30 = .ok (.if_icmp .eq 15, 3) := by decide +kernel
theorem dX9_daysIn_33 : decode cX9_daysIn 33 = .ok (.iload_n 1, 1) := by decide +kernel
theorem dX9_daysIn_34 : decode cX9_daysIn 34 = .ok (.bipush 9, 2) := by decide +kernel
theorem dX9_daysIn_36 : decode cX9_daysIn 36 = .ok (.if_icmp .eq 9, 3) := by decide +kernel
theorem dX9_daysIn_39 : decode cX9_daysIn 39 = .ok (.iload_n 1, 1) := by decide +kernel
theorem dX9_daysIn_40 : decode cX9_daysIn 40 = .ok (.bipush 11, 2) := by decide +kernel
theorem dX9_daysIn_42 : decode cX9_daysIn 42 = .ok (.if_icmp .ne 8, 3) := by decide +kernel
theorem dX9_daysIn_45 : decode cX9_daysIn 45 = .ok (.bipush 30, 2) := by decide +kernel
theorem dX9_daysIn_47 : decode cX9_daysIn 47 = .ok (.goto 5, 3) := by decide +kernel
theorem dX9_daysIn_50 : decode cX9_daysIn 50 = .ok (.bipush 31, 2) := by decide +kernel
theorem dX9_daysIn_52 : decode cX9_daysIn 52 = .ok (.ireturn, 1) := by decide +kernel
theorem dX9_firstOf_0 : decode cX9_firstOf 0 = .ok (.iconst 0, 1) := by decide +kernel
theorem dX9_firstOf_1 : decode cX9_firstOf 1 = .ok (.istore_n 1, 1) := by decide +kernel
theorem dX9_firstOf_2 : decode cX9_firstOf 2 = .ok (.sipush 1700, 3) := by decide +kernel
theorem dX9_firstOf_5 : decode cX9_firstOf 5 = .ok (.istore_n 2, 1) := by decide +kernel
theorem dX9_firstOf_6 : decode cX9_firstOf 6 = .ok (.iload_n 2, 1) := by decide +kernel
theorem dX9_firstOf_7 : decode cX9_firstOf 7 = .ok (.iload_n 0, 1) := by decide +kernel
theorem dX9_firstOf_8 : decode cX9_firstOf 8 = .ok (.if_icmp .ge 28, 3) := by decide +kernel
theorem dX9_firstOf_11 : decode cX9_firstOf 11 = .ok (.iload_n 1, 1) := by decide +kernel
theorem dX9_firstOf_12 : decode cX9_firstOf 12 = .ok (.iload_n 2, 1) := by decide +kernel
theorem dX9_firstOf_13 : decode cX9_firstOf 13 = .ok (.invokestatic 89, 3) := by decide +kernel
theorem dX9_firstOf_16 : decode cX9_firstOf 16 = .ok (.ifCond .eq 9, 3) := by decide +kernel
theorem dX9_firstOf_19 : decode cX9_firstOf 19 = .ok (.sipush 366, 3) := by decide +kernel
theorem dX9_firstOf_22 : decode cX9_firstOf 22 = .ok (.goto 6, 3) := by decide +kernel
theorem dX9_firstOf_25 : decode cX9_firstOf 25 = .ok (.sipush 365, 3) := by decide +kernel
theorem dX9_firstOf_28 : decode cX9_firstOf 28 = .ok (.iadd, 1) := by decide +kernel
theorem dX9_firstOf_29 : decode cX9_firstOf 29 = .ok (.istore_n 1, 1) := by decide +kernel
theorem dX9_firstOf_30 : decode cX9_firstOf 30 = .ok (.iinc 2 1, 3) := by decide +kernel
theorem dX9_firstOf_33 : decode cX9_firstOf 33 = .ok (.goto (-27), 3) := by decide +kernel
theorem dX9_firstOf_36 : decode cX9_firstOf 36 = .ok (.iload_n 1, 1) := by decide +kernel
theorem dX9_firstOf_37 : decode cX9_firstOf 37 = .ok (.ireturn, 1) := by decide +kernel
theorem dX9_dayOf_0 : decode cX9_dayOf 0 = .ok (.iload_n 0, 1) := by decide +kernel
theorem dX9_dayOf_1 : decode cX9_dayOf 1 = .ok (.invokestatic 93, 3) := by decide +kernel
theorem dX9_dayOf_4 : decode cX9_dayOf 4 = .ok (.iload_n 2, 1) := by decide +kernel
theorem dX9_dayOf_5 : decode cX9_dayOf 5 = .ok (.iadd, 1) := by decide +kernel
theorem dX9_dayOf_6 : decode cX9_dayOf 6 = .ok (.iconst 1, 1) := by decide +kernel
theorem dX9_dayOf_7 : decode cX9_dayOf 7 = .ok (.isub, 1) := by decide +kernel
theorem dX9_dayOf_8 : decode cX9_dayOf 8 = .ok (.istore_n 3, 1) := by decide +kernel
theorem dX9_dayOf_9 : decode cX9_dayOf 9 = .ok (.iconst 1, 1) := by decide +kernel
theorem dX9_dayOf_10 : decode cX9_dayOf 10 = .ok (.istore 4, 2) := by decide +kernel
theorem dX9_dayOf_12 : decode cX9_dayOf 12 = .ok (.iload 4, 2) := by decide +kernel
theorem dX9_dayOf_14 : decode cX9_dayOf 14 = .ok (.iload_n 1, 1) := by decide +kernel
theorem dX9_dayOf_15 : decode cX9_dayOf 15 = .ok (.if_icmp .ge 18, 3) := by decide +kernel
theorem dX9_dayOf_18 : decode cX9_dayOf 18 = .ok (.iload_n 3, 1) := by decide +kernel
theorem dX9_dayOf_19 : decode cX9_dayOf 19 = .ok (.iload_n 0, 1) := by decide +kernel
theorem dX9_dayOf_20 : decode cX9_dayOf 20 = .ok (.iload 4, 2) := by decide +kernel
theorem dX9_dayOf_22 : decode cX9_dayOf 22 = .ok (.invokestatic 97, 3) := by decide +kernel
theorem dX9_dayOf_25 : decode cX9_dayOf 25 = .ok (.iadd, 1) := by decide +kernel
theorem dX9_dayOf_26 : decode cX9_dayOf 26 = .ok (.istore_n 3, 1) := by decide +kernel
theorem dX9_dayOf_27 : decode cX9_dayOf 27 = .ok (.iinc 4 1, 3) := by decide +kernel
theorem dX9_dayOf_30 : decode cX9_dayOf 30 = .ok (.goto (-18), 3) := by decide +kernel
theorem dX9_dayOf_33 : decode cX9_dayOf 33 = .ok (.iload_n 3, 1) := by decide +kernel
theorem dX9_dayOf_34 : decode cX9_dayOf 34 = .ok (.ireturn, 1) := by decide +kernel
theorem dX9_tellsApart_0 : decode cX9_tellsApart 0 = .ok (.iload_n 1, 1) := by decide +kernel
theorem dX9_tellsApart_1 : decode cX9_tellsApart 1 = .ok (.istore_n 2, 1) := by decide +kernel
theorem dX9_tellsApart_2 : decode cX9_tellsApart 2 = .ok (.aload_n 0, 1) := by decide +kernel
theorem dX9_tellsApart_3 : decode cX9_tellsApart 3 = .ok (.sipush 1700, 3) := by decide +kernel
theorem dX9_tellsApart_6 : decode cX9_tellsApart 6 = .ok (.putfield 101, 3) := by decide +kernel
theorem dX9_tellsApart_9 : decode cX9_tellsApart 9 = .ok (.iload_n 2, 1) := by decide +kernel
theorem dX9_tellsApart_10 : decode cX9_tellsApart 10 = .ok (.aload_n 0, 1) := by decide +kernel
theorem dX9_tellsApart_11 : decode cX9_tellsApart 11 = .ok (.getfield 101, 3) := by decide +kernel
theorem dX9_tellsApart_14 : decode cX9_tellsApart 14 = .ok (.invokestatic 89, 3) := by decide +kernel
theorem dX9_tellsApart_17 : decode cX9_tellsApart 17 = .ok (.ifCond .eq 9, 3) := by decide +kernel
theorem dX9_tellsApart_20 : decode cX9_tellsApart 20 = .ok (.sipush 366, 3) := by decide +kernel
theorem dX9_tellsApart_23 : decode cX9_tellsApart 23 = .ok (.goto 6, 3) := by decide +kernel
theorem dX9_tellsApart_26 : decode cX9_tellsApart 26 = .ok (.sipush 365, 3) := by decide +kernel
theorem dX9_tellsApart_29 : decode cX9_tellsApart 29 = .ok (.if_icmp .lt 38, 3) := by decide +kernel
theorem dX9_tellsApart_32 : decode cX9_tellsApart 32 = .ok (.iload_n 2, 1) := by decide +kernel
theorem dX9_tellsApart_33 : decode cX9_tellsApart 33 = .ok (.aload_n 0, 1) := by decide +kernel
theorem dX9_tellsApart_34 : decode cX9_tellsApart 34 = .ok (.getfield 101, 3) := by decide +kernel
theorem dX9_tellsApart_37 : decode cX9_tellsApart 37 = .ok (.invokestatic 89, 3) := by decide +kernel
theorem dX9_tellsApart_40 : decode cX9_tellsApart 40 = .ok (.ifCond .eq 9, 3) := by decide +kernel
theorem dX9_tellsApart_43 : decode cX9_tellsApart 43 = .ok (.sipush 366, 3) := by decide +kernel
theorem dX9_tellsApart_46 : decode cX9_tellsApart 46 = .ok (.goto 6, 3) := by decide +kernel
theorem dX9_tellsApart_49 : decode cX9_tellsApart 49 = .ok (.sipush 365, 3) := by decide +kernel
theorem dX9_tellsApart_52 : decode cX9_tellsApart 52 = .ok (.isub, 1) := by decide +kernel
theorem dX9_tellsApart_53 : decode cX9_tellsApart 53 = .ok (.istore_n 2, 1) := by decide +kernel
theorem dX9_tellsApart_54 : decode cX9_tellsApart 54 = .ok (.aload_n 0, 1) := by decide +kernel
theorem dX9_tellsApart_55 : decode cX9_tellsApart 55 = .ok (.dup, 1) := by decide +kernel
theorem dX9_tellsApart_56 : decode cX9_tellsApart 56 = .ok (.getfield 101, 3) := by decide +kernel
theorem dX9_tellsApart_59 : decode cX9_tellsApart 59 = .ok (.iconst 1, 1) := by decide +kernel
theorem dX9_tellsApart_60 : decode cX9_tellsApart 60 = .ok (.iadd, 1) := by decide +kernel
theorem dX9_tellsApart_61 : decode cX9_tellsApart 61 = .ok (.putfield 101, 3) := by decide +kernel
theorem dX9_tellsApart_64 : decode cX9_tellsApart 64 = .ok (.goto (-55), 3) := by decide +kernel
theorem dX9_tellsApart_67 : decode cX9_tellsApart 67 = .ok (.aload_n 0, 1) := by decide +kernel
theorem dX9_tellsApart_68 : decode cX9_tellsApart 68 = .ok (.iconst 1, 1) := by decide +kernel
theorem dX9_tellsApart_69 : decode cX9_tellsApart 69 = .ok (.putfield 104, 3) := by decide +kernel
theorem dX9_tellsApart_72 : decode cX9_tellsApart 72 = .ok (.iload_n 2, 1) := by decide +kernel
theorem dX9_tellsApart_73 : decode cX9_tellsApart 73 = .ok (.aload_n 0, 1) := by decide +kernel
theorem dX9_tellsApart_74 : decode cX9_tellsApart 74 = .ok (.getfield 101, 3) := by decide +kernel
theorem dX9_tellsApart_77 : decode cX9_tellsApart 77 = .ok (.aload_n 0, 1) := by decide +kernel
theorem dX9_tellsApart_78 : decode cX9_tellsApart 78 = .ok (.getfield 104, 3) := by decide +kernel
theorem dX9_tellsApart_81 : decode cX9_tellsApart 81 = .ok (.invokestatic 97, 3) := by decide +kernel
theorem dX9_tellsApart_84 : decode cX9_tellsApart 84 = .ok (.if_icmp .lt 30, 3) := by decide +kernel
theorem dX9_tellsApart_87 : decode cX9_tellsApart 87 = .ok (.iload_n 2, 1) := by decide +kernel
theorem dX9_tellsApart_88 : decode cX9_tellsApart 88 = .ok (.aload_n 0, 1) := by decide +kernel
theorem dX9_tellsApart_89 : decode cX9_tellsApart 89 = .ok (.getfield 101, 3) := by decide +kernel
theorem dX9_tellsApart_92 : decode cX9_tellsApart 92 = .ok (.aload_n 0, 1) := by decide +kernel
theorem dX9_tellsApart_93 : decode cX9_tellsApart 93 = .ok (.getfield 104, 3) := by decide +kernel
theorem dX9_tellsApart_96 : decode cX9_tellsApart 96 = .ok (.invokestatic 97, 3) := by decide +kernel
theorem dX9_tellsApart_99 : decode cX9_tellsApart 99 = .ok (.isub, 1) := by decide +kernel
theorem dX9_tellsApart_100 : decode cX9_tellsApart 100 = .ok (.istore_n 2, 1) := by decide +kernel
theorem dX9_tellsApart_101 : decode cX9_tellsApart 101 = .ok (.aload_n 0, 1) := by decide +kernel
theorem dX9_tellsApart_102 : decode cX9_tellsApart 102 = .ok (.dup, 1) := by decide +kernel
theorem dX9_tellsApart_103 : decode cX9_tellsApart 103 = .ok (.getfield 104, 3) := by decide +kernel
theorem dX9_tellsApart_106 : decode cX9_tellsApart 106 = .ok (.iconst 1, 1) := by decide +kernel
theorem dX9_tellsApart_107 : decode cX9_tellsApart 107 = .ok (.iadd, 1) := by decide +kernel
theorem dX9_tellsApart_108 : decode cX9_tellsApart 108 = .ok (.putfield 104, 3) := by decide +kernel
theorem dX9_tellsApart_111 : decode cX9_tellsApart 111 = .ok (.goto (-39), 3) := by decide +kernel
theorem dX9_tellsApart_114 : decode cX9_tellsApart 114 = .ok (.aload_n 0, 1) := by decide +kernel
theorem dX9_tellsApart_115 : decode cX9_tellsApart 115 = .ok (.iload_n 2, 1) := by decide +kernel
theorem dX9_tellsApart_116 : decode cX9_tellsApart 116 = .ok (.iconst 1, 1) := by decide +kernel
theorem dX9_tellsApart_117 : decode cX9_tellsApart 117 = .ok (.iadd, 1) := by decide +kernel
theorem dX9_tellsApart_118 : decode cX9_tellsApart 118 = .ok (.putfield 107, 3) := by decide +kernel
theorem dX9_tellsApart_121 : decode cX9_tellsApart 121 = .ok (.return_, 1) := by decide +kernel
theorem dX9_plusYears_0 : decode cX9_plusYears 0 = .ok (.iload_n 1, 1) := by decide +kernel
theorem dX9_plusYears_1 : decode cX9_plusYears 1 = .ok (.ldc 110, 2) := by decide +kernel
theorem dX9_plusYears_3 : decode cX9_plusYears 3 = .ok (.if_icmp .ne 6, 3) := by decide +kernel
theorem dX9_plusYears_6 : decode cX9_plusYears 6 = .ok (.ldc 110, 2) := by decide +kernel
theorem dX9_plusYears_8 : decode cX9_plusYears 8 = .ok (.ireturn, 1) := by decide +kernel
theorem dX9_plusYears_9 : decode cX9_plusYears 9 = .ok (.aload_n 0, 1) := by decide +kernel
theorem dX9_plusYears_10 : decode cX9_plusYears 10 = .ok (.iload_n 1, 1) := by decide +kernel
theorem dX9_plusYears_11 : decode cX9_plusYears 11 = .ok (.invokevirtual 111, 3) := by decide +kernel
theorem dX9_plusYears_14 : decode cX9_plusYears 14 = .ok (.aload_n 0, 1) := by decide +kernel
theorem dX9_plusYears_15 : decode cX9_plusYears 15 = .ok (.getfield 101, 3) := by decide +kernel
theorem dX9_plusYears_18 : decode cX9_plusYears 18 = .ok (.iload_n 2, 1) := by decide +kernel
theorem dX9_plusYears_19 : decode cX9_plusYears 19 = .ok (.iadd, 1) := by decide +kernel
theorem dX9_plusYears_20 : decode cX9_plusYears 20 = .ok (.istore_n 3, 1) := by decide +kernel
theorem dX9_plusYears_21 : decode cX9_plusYears 21 = .ok (.iload_n 3, 1) := by decide +kernel
theorem dX9_plusYears_22 : decode cX9_plusYears 22 = .ok (.sipush 2299, 3) := by decide +kernel
theorem dX9_plusYears_25 : decode cX9_plusYears 25 = .ok (.if_icmp .le 6, 3) := by decide +kernel
theorem dX9_plusYears_28 : decode cX9_plusYears 28 = .ok (.ldc 110, 2) := by decide +kernel
theorem dX9_plusYears_30 : decode cX9_plusYears 30 = .ok (.ireturn, 1) := by decide +kernel
theorem dX9_plusYears_31 : decode cX9_plusYears 31 = .ok (.iload_n 3, 1) := by decide +kernel
theorem dX9_plusYears_32 : decode cX9_plusYears 32 = .ok (.sipush 1700, 3) := by decide +kernel
theorem dX9_plusYears_35 : decode cX9_plusYears 35 = .ok (.if_icmp .ge 5, 3) := by decide +kernel
theorem dX9_plusYears_38 : decode cX9_plusYears 38 = .ok (.iconst 0, 1) := by decide +kernel
theorem dX9_plusYears_39 : decode cX9_plusYears 39 = .ok (.ireturn, 1) := by decide +kernel
theorem dX9_plusYears_40 : decode cX9_plusYears 40 = .ok (.iload_n 3, 1) := by decide +kernel
theorem dX9_plusYears_41 : decode cX9_plusYears 41 = .ok (.aload_n 0, 1) := by decide +kernel
theorem dX9_plusYears_42 : decode cX9_plusYears 42 = .ok (.getfield 104, 3) := by decide +kernel
theorem dX9_plusYears_45 : decode cX9_plusYears 45 = .ok (.invokestatic 97, 3) := by decide +kernel
theorem dX9_plusYears_48 : decode cX9_plusYears 48 = .ok (.istore 4, 2) := by decide +kernel
theorem dX9_plusYears_50 : decode cX9_plusYears 50 = .ok (.iload_n 3, 1) := by decide +kernel
theorem dX9_plusYears_51 : decode cX9_plusYears 51 = .ok (.aload_n 0, 1) := by decide +kernel
theorem dX9_plusYears_52 : decode cX9_plusYears 52 = .ok (.getfield 104, 3) := by decide +kernel
theorem dX9_plusYears_55 : decode cX9_plusYears 55 = .ok (.aload_n 0, 1) := by decide +kernel
theorem dX9_plusYears_56 : decode cX9_plusYears 56 = .ok (.getfield 107, 3) := by decide +kernel
theorem dX9_plusYears_59 : decode cX9_plusYears 59 = .ok (.iload 4, 2) := by decide +kernel
theorem dX9_plusYears_61 : decode cX9_plusYears 61 = .ok (.if_icmp .le 8, 3) := by decide +kernel
theorem dX9_plusYears_64 : decode cX9_plusYears 64 = .ok (.iload 4, 2) := by decide +kernel
theorem dX9_plusYears_66 : decode cX9_plusYears 66 = .ok (.goto 7, 3) := by decide +kernel
theorem dX9_plusYears_69 : decode cX9_plusYears 69 = .ok (.aload_n 0, 1) := by decide +kernel
theorem dX9_plusYears_70 : decode cX9_plusYears 70 = .ok (.getfield 107, 3) := by decide +kernel
theorem dX9_plusYears_73 : decode cX9_plusYears 73 = .ok (.invokestatic 115, 3) := by decide +kernel
theorem dX9_plusYears_76 : decode cX9_plusYears 76 = .ok (.ireturn, 1) := by decide +kernel
theorem dX9_yearBehind_0 : decode cX9_yearBehind 0 = .ok (.iload_n 1, 1) := by decide +kernel
theorem dX9_yearBehind_1 : decode cX9_yearBehind 1 = .ok (.ldc 110, 2) := by decide +kernel
theorem dX9_yearBehind_3 : decode cX9_yearBehind 3 = .ok (.if_icmp .ne 6, 3) := by decide +kernel
theorem dX9_yearBehind_6 : decode cX9_yearBehind 6 = .ok (.ldc 110, 2) := by decide +kernel
theorem dX9_yearBehind_8 : decode cX9_yearBehind 8 = .ok (.ireturn, 1) := by decide +kernel
theorem dX9_yearBehind_9 : decode cX9_yearBehind 9 = .ok (.aload_n 0, 1) := by decide +kernel
theorem dX9_yearBehind_10 : decode cX9_yearBehind 10 = .ok (.iload_n 1, 1) := by decide +kernel
theorem dX9_yearBehind_11 : decode cX9_yearBehind 11 = .ok (.invokevirtual 111, 3) := by decide +kernel
theorem dX9_yearBehind_14 : decode cX9_yearBehind 14 = .ok (.aload_n 0, 1) := by decide +kernel
theorem dX9_yearBehind_15 : decode cX9_yearBehind 15 = .ok (.getfield 101, 3) := by decide +kernel
theorem dX9_yearBehind_18 : decode cX9_yearBehind 18 = .ok (.sipush 2299, 3) := by decide +kernel
theorem dX9_yearBehind_21 : decode cX9_yearBehind 21 = .ok (.if_icmp .ne 8, 3) := by decide +kernel
theorem dX9_yearBehind_24 : decode cX9_yearBehind 24 = .ok (.ldc 110, 2) := by decide +kernel
theorem dX9_yearBehind_26 : decode cX9_yearBehind 26 = .ok (.goto 12, 3) := by decide +kernel
theorem dX9_yearBehind_29 : decode cX9_yearBehind 29 = .ok (.aload_n 0, 1) := by decide +kernel
theorem dX9_yearBehind_30 : decode cX9_yearBehind 30 = .ok (.getfield 101, 3) := by decide +kernel
theorem dX9_yearBehind_33 : decode cX9_yearBehind 33 = .ok (.iconst 1, 1) := by decide +kernel
theorem dX9_yearBehind_34 : decode cX9_yearBehind 34 = .ok (.iadd, 1) := by decide +kernel
theorem dX9_yearBehind_35 : decode cX9_yearBehind 35 = .ok (.invokestatic 93, 3) := by decide +kernel
theorem dX9_yearBehind_38 : decode cX9_yearBehind 38 = .ok (.ireturn, 1) := by decide +kernel
theorem dX9_puts_0 : decode cX9_puts 0 = .ok (.bipush 24, 2) := by decide +kernel
theorem dX9_puts_2 : decode cX9_puts 2 = .ok (.istore_n 2, 1) := by decide +kernel
theorem dX9_puts_3 : decode cX9_puts 3 = .ok (.iload_n 2, 1) := by decide +kernel
theorem dX9_puts_4 : decode cX9_puts 4 = .ok (.ifCond .lt 32, 3) := by decide +kernel
theorem dX9_puts_7 : decode cX9_puts 7 = .ok (.aload_n 0, 1) := by decide +kernel
theorem dX9_puts_8 : decode cX9_puts 8 = .ok (.getfield 7, 3) := by decide +kernel
theorem dX9_puts_11 : decode cX9_puts 11 = .ok (.aload_n 0, 1) := by decide +kernel
theorem dX9_puts_12 : decode cX9_puts 12 = .ok (.getfield 142, 3) := by decide +kernel
theorem dX9_puts_15 : decode cX9_puts 15 = .ok (.iload_n 1, 1) := by decide +kernel
theorem dX9_puts_16 : decode cX9_puts 16 = .ok (.iload_n 2, 1) := by decide +kernel
theorem dX9_puts_17 : decode cX9_puts 17 = .ok (.ishr, 1) := by decide +kernel
theorem dX9_puts_18 : decode cX9_puts 18 = .ok (.i2b, 1) := by decide +kernel
theorem dX9_puts_19 : decode cX9_puts 19 = .ok (.bastore, 1) := by decide +kernel
theorem dX9_puts_20 : decode cX9_puts 20 = .ok (.aload_n 0, 1) := by decide +kernel
theorem dX9_puts_21 : decode cX9_puts 21 = .ok (.dup, 1) := by decide +kernel
theorem dX9_puts_22 : decode cX9_puts 22 = .ok (.getfield 142, 3) := by decide +kernel
theorem dX9_puts_25 : decode cX9_puts 25 = .ok (.iconst 1, 1) := by decide +kernel
theorem dX9_puts_26 : decode cX9_puts 26 = .ok (.iadd, 1) := by decide +kernel
theorem dX9_puts_27 : decode cX9_puts 27 = .ok (.putfield 142, 3) := by decide +kernel
theorem dX9_puts_30 : decode cX9_puts 30 = .ok (.iinc 2 (-8), 3) := by decide +kernel
theorem dX9_puts_33 : decode cX9_puts 33 = .ok (.goto (-30), 3) := by decide +kernel
theorem dX9_puts_36 : decode cX9_puts 36 = .ok (.return_, 1) := by decide +kernel
theorem dX9_feed_0 : decode cX9_feed 0 = .ok (.aload_n 0, 1) := by decide +kernel
theorem dX9_feed_1 : decode cX9_feed 1 = .ok (.iconst 0, 1) := by decide +kernel
theorem dX9_feed_2 : decode cX9_feed 2 = .ok (.putfield 85, 3) := by decide +kernel
theorem dX9_feed_5 : decode cX9_feed 5 = .ok (.aload_n 0, 1) := by decide +kernel
theorem dX9_feed_6 : decode cX9_feed 6 = .ok (.getfield 142, 3) := by decide +kernel
theorem dX9_feed_9 : decode cX9_feed 9 = .ok (.bipush 20, 2) := by decide +kernel
theorem dX9_feed_11 : decode cX9_feed 11 = .ok (.iadd, 1) := by decide +kernel
theorem dX9_feed_12 : decode cX9_feed 12 = .ok (.sipush 1000, 3) := by decide +kernel
theorem dX9_feed_15 : decode cX9_feed 15 = .ok (.if_icmp .le 5, 3) := by decide +kernel
theorem dX9_feed_18 : decode cX9_feed 18 = .ok (.iconst (-1), 1) := by decide +kernel
theorem dX9_feed_19 : decode cX9_feed 19 = .ok (.ireturn, 1) := by decide +kernel
theorem dX9_feed_20 : decode cX9_feed 20 = .ok (.aload_n 0, 1) := by decide +kernel
theorem dX9_feed_21 : decode cX9_feed 21 = .ok (.iload_n 1, 1) := by decide +kernel
theorem dX9_feed_22 : decode cX9_feed 22 = .ok (.invokevirtual 145, 3) := by decide +kernel
theorem dX9_feed_25 : decode cX9_feed 25 = .ok (.aload_n 0, 1) := by decide +kernel
theorem dX9_feed_26 : decode cX9_feed 26 = .ok (.iload_n 2, 1) := by decide +kernel
theorem dX9_feed_27 : decode cX9_feed 27 = .ok (.invokevirtual 145, 3) := by decide +kernel
theorem dX9_feed_30 : decode cX9_feed 30 = .ok (.aload_n 0, 1) := by decide +kernel
theorem dX9_feed_31 : decode cX9_feed 31 = .ok (.iload_n 3, 1) := by decide +kernel
theorem dX9_feed_32 : decode cX9_feed 32 = .ok (.invokevirtual 145, 3) := by decide +kernel
theorem dX9_feed_35 : decode cX9_feed 35 = .ok (.aload_n 0, 1) := by decide +kernel
theorem dX9_feed_36 : decode cX9_feed 36 = .ok (.iload 4, 2) := by decide +kernel
theorem dX9_feed_38 : decode cX9_feed 38 = .ok (.invokevirtual 145, 3) := by decide +kernel
theorem dX9_feed_41 : decode cX9_feed 41 = .ok (.aload_n 0, 1) := by decide +kernel
theorem dX9_feed_42 : decode cX9_feed 42 = .ok (.iload 5, 2) := by decide +kernel
theorem dX9_feed_44 : decode cX9_feed 44 = .ok (.invokevirtual 145, 3) := by decide +kernel
theorem dX9_feed_47 : decode cX9_feed 47 = .ok (.aload_n 0, 1) := by decide +kernel
theorem dX9_feed_48 : decode cX9_feed 48 = .ok (.getfield 142, 3) := by decide +kernel
theorem dX9_feed_51 : decode cX9_feed 51 = .ok (.ireturn, 1) := by decide +kernel
theorem dX9_see_0 : decode cX9_see 0 = .ok (.iload_n 1, 1) := by decide +kernel
theorem dX9_see_1 : decode cX9_see 1 = .ok (.aload_n 0, 1) := by decide +kernel
theorem dX9_see_2 : decode cX9_see 2 = .ok (.getfield 148, 3) := by decide +kernel
theorem dX9_see_5 : decode cX9_see 5 = .ok (.if_icmp .ge 16, 3) := by decide +kernel
theorem dX9_see_8 : decode cX9_see 8 = .ok (.aload_n 0, 1) := by decide +kernel
theorem dX9_see_9 : decode cX9_see 9 = .ok (.getfield 7, 3) := by decide +kernel
theorem dX9_see_12 : decode cX9_see 12 = .ok (.iload_n 1, 1) := by decide +kernel
theorem dX9_see_13 : decode cX9_see 13 = .ok (.baload, 1) := by decide +kernel
theorem dX9_see_14 : decode cX9_see 14 = .ok (.sipush 255, 3) := by decide +kernel
theorem dX9_see_17 : decode cX9_see 17 = .ok (.iand, 1) := by decide +kernel
theorem dX9_see_18 : decode cX9_see 18 = .ok (.goto 4, 3) := by decide +kernel
theorem dX9_see_21 : decode cX9_see 21 = .ok (.iconst (-1), 1) := by decide +kernel
theorem dX9_see_22 : decode cX9_see 22 = .ok (.ireturn, 1) := by decide +kernel
theorem dX9_mustAt_0 : decode cX9_mustAt 0 = .ok (.aload_n 0, 1) := by decide +kernel
theorem dX9_mustAt_1 : decode cX9_mustAt 1 = .ok (.getfield 181, 3) := by decide +kernel
theorem dX9_mustAt_4 : decode cX9_mustAt 4 = .ok (.ifCond .ne 17, 3) := by decide +kernel
theorem dX9_mustAt_7 : decode cX9_mustAt 7 = .ok (.iload_n 1, 1) := by decide +kernel
theorem dX9_mustAt_8 : decode cX9_mustAt 8 = .ok (.ifCond .ne 13, 3) := by decide +kernel
theorem dX9_mustAt_11 : decode cX9_mustAt 11 = .ok (.aload_n 0, 1) := by decide +kernel
theorem dX9_mustAt_12 : decode cX9_mustAt 12 = .ok (.iload_n 2, 1) := by decide +kernel
theorem dX9_mustAt_13 : decode cX9_mustAt 13 = .ok (.putfield 181, 3) := by decide +kernel
theorem dX9_mustAt_16 : decode cX9_mustAt 16 = .ok (.aload_n 0, 1) := by decide +kernel
theorem dX9_mustAt_17 : decode cX9_mustAt 17 = .ok (.iload_n 3, 1) := by decide +kernel
theorem dX9_mustAt_18 : decode cX9_mustAt 18 = .ok (.putfield 184, 3) := by decide +kernel
theorem dX9_mustAt_21 : decode cX9_mustAt 21 = .ok (.aload_n 0, 1) := by decide +kernel
theorem dX9_mustAt_22 : decode cX9_mustAt 22 = .ok (.getfield 181, 3) := by decide +kernel
theorem dX9_mustAt_25 : decode cX9_mustAt 25 = .ok (.ifCond .ne 7, 3) := by decide +kernel
theorem dX9_mustAt_28 : decode cX9_mustAt 28 = .ok (.iconst 1, 1) := by decide +kernel
theorem dX9_mustAt_29 : decode cX9_mustAt 29 = .ok (.goto 4, 3) := by decide +kernel
theorem dX9_mustAt_32 : decode cX9_mustAt 32 = .ok (.iconst 0, 1) := by decide +kernel
theorem dX9_mustAt_33 : decode cX9_mustAt 33 = .ok (.ireturn, 1) := by decide +kernel
theorem dX9_must_0 : decode cX9_must 0 = .ok (.aload_n 0, 1) := by decide +kernel
theorem dX9_must_1 : decode cX9_must 1 = .ok (.iload_n 1, 1) := by decide +kernel
theorem dX9_must_2 : decode cX9_must 2 = .ok (.iload_n 2, 1) := by decide +kernel
theorem dX9_must_3 : decode cX9_must 3 = .ok (.aload_n 0, 1) := by decide +kernel
theorem dX9_must_4 : decode cX9_must 4 = .ok (.getfield 154, 3) := by decide +kernel
theorem dX9_must_7 : decode cX9_must 7 = .ok (.invokevirtual 187, 3) := by decide +kernel
theorem dX9_must_10 : decode cX9_must 10 = .ok (.ireturn, 1) := by decide +kernel
theorem dX9_is_0 : decode cX9_is 0 = .ok (.aload_n 0, 1) := by decide +kernel
theorem dX9_is_1 : decode cX9_is 1 = .ok (.getfield 160, 3) := by decide +kernel
theorem dX9_is_4 : decode cX9_is 4 = .ok (.iconst 1, 1) := by decide +kernel
theorem dX9_is_5 : decode cX9_is 5 = .ok (.if_icmp .ne 19, 3) := by decide +kernel
theorem dX9_is_8 : decode cX9_is 8 = .ok (.aload_n 0, 1) := by decide +kernel
theorem dX9_is_9 : decode cX9_is 9 = .ok (.getfield 166, 3) := by decide +kernel
theorem dX9_is_12 : decode cX9_is 12 = .ok (.aload_n 1, 1) := by decide +kernel
theorem dX9_is_13 : decode cX9_is 13 = .ok (.invokestatic 201, 3) := by decide +kernel
theorem dX9_is_16 : decode cX9_is 16 = .ok (.lcmp, 1) := by decide +kernel
theorem dX9_is_17 : decode cX9_is 17 = .ok (.ifCond .ne 7, 3) := by decide +kernel
theorem dX9_is_20 : decode cX9_is 20 = .ok (.iconst 1, 1) := by decide +kernel
theorem dX9_is_21 : decode cX9_is 21 = .ok (.goto 4, 3) := by decide +kernel
theorem dX9_is_24 : decode cX9_is 24 = .ok (.iconst 0, 1) := by decide +kernel
theorem dX9_is_25 : decode cX9_is 25 = .ok (.ireturn, 1) := by decide +kernel
theorem dX9_isOwn_0 : decode cX9_isOwn 0 = .ok (.aload_n 0, 1) := by decide +kernel
theorem dX9_isOwn_1 : decode cX9_isOwn 1 = .ok (.ldc 205, 2) := by decide +kernel
theorem dX9_isOwn_3 : decode cX9_isOwn 3 = .ok (.invokevirtual 207, 3) := by decide +kernel
theorem dX9_isOwn_6 : decode cX9_isOwn 6 = .ok (.ifCond .ne 102, 3) := by decide +kernel
theorem dX9_isOwn_9 : decode cX9_isOwn 9 = .ok (.aload_n 0, 1) := by decide +kernel
theorem dX9_isOwn_10 : decode cX9_isOwn 10 = .ok (.ldc 211, 2) := by decide +kernel
theorem dX9_isOwn_12 : decode cX9_isOwn 12 = .ok (.invokevirtual 207, 3) := by decide +kernel
theorem dX9_isOwn_15 : decode cX9_isOwn 15 = .ok (.ifCond .ne 93, 3) := by decide +kernel
theorem dX9_isOwn_18 : decode cX9_isOwn 18 = .ok (.aload_n 0, 1) := by decide +kernel
theorem dX9_isOwn_19 : decode cX9_isOwn 19 = .ok (.ldc 213, 2) := by decide +kernel
theorem dX9_isOwn_21 : decode cX9_isOwn 21 = .ok (.invokevirtual 207, 3) := by decide +kernel
theorem dX9_isOwn_24 : decode cX9_isOwn 24 = .ok (.ifCond .ne 84, 3) := by decide +kernel
theorem dX9_isOwn_27 : decode cX9_isOwn 27 = .ok (.aload_n 0, 1) := by decide +kernel
theorem dX9_isOwn_28 : decode cX9_isOwn 28 = .ok (.ldc 215, 2) := by decide +kernel
theorem dX9_isOwn_30 : decode cX9_isOwn 30 = .ok (.invokevirtual 207, 3) := by decide +kernel
theorem dX9_isOwn_33 : decode cX9_isOwn 33 = .ok (.ifCond .ne 75, 3) := by decide +kernel
theorem dX9_isOwn_36 : decode cX9_isOwn 36 = .ok (.aload_n 0, 1) := by decide +kernel
theorem dX9_isOwn_37 : decode cX9_isOwn 37 = .ok (.ldc 217, 2) := by decide +kernel
theorem dX9_isOwn_39 : decode cX9_isOwn 39 = .ok (.invokevirtual 207, 3) := by decide +kernel
theorem dX9_isOwn_42 : decode cX9_isOwn 42 = .ok (.ifCond .ne 66, 3) := by decide +kernel
theorem dX9_isOwn_45 : decode cX9_isOwn 45 = .ok (.aload_n 0, 1) := by decide +kernel
theorem dX9_isOwn_46 : decode cX9_isOwn 46 = .ok (.ldc 219, 2) := by decide +kernel
theorem dX9_isOwn_48 : decode cX9_isOwn 48 = .ok (.invokevirtual 207, 3) := by decide +kernel
theorem dX9_isOwn_51 : decode cX9_isOwn 51 = .ok (.ifCond .ne 57, 3) := by decide +kernel
theorem dX9_isOwn_54 : decode cX9_isOwn 54 = .ok (.aload_n 0, 1) := by decide +kernel
theorem dX9_isOwn_55 : decode cX9_isOwn 55 = .ok (.ldc 221, 2) := by decide +kernel
theorem dX9_isOwn_57 : decode cX9_isOwn 57 = .ok (.invokevirtual 207, 3) := by decide +kernel
theorem dX9_isOwn_60 : decode cX9_isOwn 60 = .ok (.ifCond .ne 48, 3) := by decide +kernel
theorem dX9_isOwn_63 : decode cX9_isOwn 63 = .ok (.aload_n 0, 1) := by decide +kernel
theorem dX9_isOwn_64 : decode cX9_isOwn 64 = .ok (.ldc 223, 2) := by decide +kernel
theorem dX9_isOwn_66 : decode cX9_isOwn 66 = .ok (.invokevirtual 207, 3) := by decide +kernel
theorem dX9_isOwn_69 : decode cX9_isOwn 69 = .ok (.ifCond .ne 39, 3) := by decide +kernel
theorem dX9_isOwn_72 : decode cX9_isOwn 72 = .ok (.aload_n 0, 1) := by decide +kernel
theorem dX9_isOwn_73 : decode cX9_isOwn 73 = .ok (.ldc 224, 2) := by decide +kernel
theorem dX9_isOwn_75 : decode cX9_isOwn 75 = .ok (.invokevirtual 207, 3) := by decide +kernel
theorem dX9_isOwn_78 : decode cX9_isOwn 78 = .ok (.ifCond .ne 30, 3) := by decide +kernel
theorem dX9_isOwn_81 : decode cX9_isOwn 81 = .ok (.aload_n 0, 1) := by decide +kernel
theorem dX9_isOwn_82 : decode cX9_isOwn 82 = .ok (.ldc 226, 2) := by decide +kernel
theorem dX9_isOwn_84 : decode cX9_isOwn 84 = .ok (.invokevirtual 207, 3) := by decide +kernel
theorem dX9_isOwn_87 : decode cX9_isOwn 87 = .ok (.ifCond .ne 21, 3) := by decide +kernel
theorem dX9_isOwn_90 : decode cX9_isOwn 90 = .ok (.aload_n 0, 1) := by decide +kernel
theorem dX9_isOwn_91 : decode cX9_isOwn 91 = .ok (.ldc 228, 2) := by decide +kernel
theorem dX9_isOwn_93 : decode cX9_isOwn 93 = .ok (.invokevirtual 207, 3) := by decide +kernel
theorem dX9_isOwn_96 : decode cX9_isOwn 96 = .ok (.ifCond .ne 12, 3) := by decide +kernel
theorem dX9_isOwn_99 : decode cX9_isOwn 99 = .ok (.aload_n 0, 1) := by decide +kernel
theorem dX9_isOwn_100 : decode cX9_isOwn 100 = .ok (.ldc 230, 2) := by decide +kernel
theorem dX9_isOwn_102 : decode cX9_isOwn 102 = .ok (.invokevirtual 207, 3) := by decide +kernel
theorem dX9_isOwn_105 : decode cX9_isOwn 105 = .ok (.ifCond .eq 7, 3) := by decide +kernel
theorem dX9_isOwn_108 : decode cX9_isOwn 108 = .ok (.iconst 1, 1) := by decide +kernel
theorem dX9_isOwn_109 : decode cX9_isOwn 109 = .ok (.goto 4, 3) := by decide +kernel
theorem dX9_isOwn_112 : decode cX9_isOwn 112 = .ok (.iconst 0, 1) := by decide +kernel
theorem dX9_isOwn_113 : decode cX9_isOwn 113 = .ok (.ireturn, 1) := by decide +kernel
theorem dX9_isName_0 : decode cX9_isName 0 = .ok (.aload_n 0, 1) := by decide +kernel
theorem dX9_isName_1 : decode cX9_isName 1 = .ok (.getfield 160, 3) := by decide +kernel
theorem dX9_isName_4 : decode cX9_isName 4 = .ok (.iconst 1, 1) := by decide +kernel
theorem dX9_isName_5 : decode cX9_isName 5 = .ok (.if_icmp .ne 14, 3) := by decide +kernel
theorem dX9_isName_8 : decode cX9_isName 8 = .ok (.aload_n 0, 1) := by decide +kernel
theorem dX9_isName_9 : decode cX9_isName 9 = .ok (.invokevirtual 232, 3) := by decide +kernel
theorem dX9_isName_12 : decode cX9_isName 12 = .ok (.ifCond .ne 7, 3) := by decide +kernel
theorem dX9_isName_15 : decode cX9_isName 15 = .ok (.iconst 1, 1) := by decide +kernel
theorem dX9_isName_16 : decode cX9_isName 16 = .ok (.goto 4, 3) := by decide +kernel
theorem dX9_isName_19 : decode cX9_isName 19 = .ok (.iconst 0, 1) := by decide +kernel
theorem dX9_isName_20 : decode cX9_isName 20 = .ok (.ireturn, 1) := by decide +kernel
theorem dX9_personNamed_0 : decode cX9_personNamed 0 = .ok (.iconst 0, 1) := by decide +kernel
theorem dX9_personNamed_1 : decode cX9_personNamed 1 = .ok (.istore_n 1, 1) := by decide +kernel
theorem dX9_personNamed_2 : decode cX9_personNamed 2 = .ok (.iload_n 1, 1) := by decide +kernel
theorem dX9_personNamed_3 : decode cX9_personNamed 3 = .ok (.aload_n 0, 1) := by decide +kernel
theorem dX9_personNamed_4 : decode cX9_personNamed 4 = .ok (.getfield 13, 3) := by decide +kernel
theorem dX9_personNamed_7 : decode cX9_personNamed 7 = .ok (.aload_n 0, 1) := by decide +kernel
theorem dX9_personNamed_8 : decode cX9_personNamed 8 = .ok (.getfield 256, 3) := by decide +kernel
theorem dX9_personNamed_11 : decode cX9_personNamed 11 = .ok (.iaload, 1) := by decide +kernel
theorem dX9_personNamed_12 : decode cX9_personNamed 12 = .ok (.if_icmp .ge 33, 3) := by decide +kernel
theorem dX9_personNamed_15 : decode cX9_personNamed 15 = .ok (.aload_n 0, 1) := by decide +kernel
theorem dX9_personNamed_16 : decode cX9_personNamed 16 = .ok (.getfield 26, 3) := by decide +kernel
theorem dX9_personNamed_19 : decode cX9_personNamed 19 = .ok (.bipush 8, 2) := by decide +kernel
theorem dX9_personNamed_21 : decode cX9_personNamed 21 = .ok (.aload_n 0, 1) := by decide +kernel
theorem dX9_personNamed_22 : decode cX9_personNamed 22 = .ok (.getfield 256, 3) := by decide +kernel
theorem dX9_personNamed_25 : decode cX9_personNamed 25 = .ok (.imul, 1) := by decide +kernel
theorem dX9_personNamed_26 : decode cX9_personNamed 26 = .ok (.iload_n 1, 1) := by decide +kernel
theorem dX9_personNamed_27 : decode cX9_personNamed 27 = .ok (.iadd, 1) := by decide +kernel
theorem dX9_personNamed_28 : decode cX9_personNamed 28 = .ok (.laload, 1) := by decide +kernel
theorem dX9_personNamed_29 : decode cX9_personNamed 29 = .ok (.aload_n 0, 1) := by decide +kernel
theorem dX9_personNamed_30 : decode cX9_personNamed 30 = .ok (.getfield 166, 3) := by decide +kernel
theorem dX9_personNamed_33 : decode cX9_personNamed 33 = .ok (.lcmp, 1) := by decide +kernel
theorem dX9_personNamed_34 : decode cX9_personNamed 34 = .ok (.ifCond .ne 5, 3) := by decide +kernel
theorem dX9_personNamed_37 : decode cX9_personNamed 37 = .ok (.iload_n 1, 1) := by decide +kernel
theorem dX9_personNamed_38 : decode cX9_personNamed 38 = .ok (.ireturn, 1) := by decide +kernel
theorem dX9_personNamed_39 : decode cX9_personNamed 39 = .ok (.iinc 1 1, 3) := by decide +kernel
theorem dX9_personNamed_42 : decode cX9_personNamed 42 = .ok (.goto (-40), 3) := by decide +kernel
theorem dX9_personNamed_45 : decode cX9_personNamed 45 = .ok (.iconst (-1), 1) := by decide +kernel
theorem dX9_personNamed_46 : decode cX9_personNamed 46 = .ok (.ireturn, 1) := by decide +kernel
theorem dX9_depositNamed_0 : decode cX9_depositNamed 0 = .ok (.iconst 0, 1) := by decide +kernel
theorem dX9_depositNamed_1 : decode cX9_depositNamed 1 = .ok (.istore_n 1, 1) := by decide +kernel
theorem dX9_depositNamed_2 : decode cX9_depositNamed 2 = .ok (.iload_n 1, 1) := by decide +kernel
theorem dX9_depositNamed_3 : decode cX9_depositNamed 3 = .ok (.aload_n 0, 1) := by decide +kernel
theorem dX9_depositNamed_4 : decode cX9_depositNamed 4 = .ok (.getfield 17, 3) := by decide +kernel
theorem dX9_depositNamed_7 : decode cX9_depositNamed 7 = .ok (.aload_n 0, 1) := by decide +kernel
theorem dX9_depositNamed_8 : decode cX9_depositNamed 8 = .ok (.getfield 256, 3) := by decide +kernel
theorem dX9_depositNamed_11 : decode cX9_depositNamed 11 = .ok (.iaload, 1) := by decide +kernel
theorem dX9_depositNamed_12 : decode cX9_depositNamed 12 = .ok (.if_icmp .ge 32, 3) := by decide +kernel
theorem dX9_depositNamed_15 : decode cX9_depositNamed 15 = .ok (.aload_n 0, 1) := by decide +kernel
theorem dX9_depositNamed_16 : decode cX9_depositNamed 16 = .ok (.getfield 36, 3) := by decide +kernel
theorem dX9_depositNamed_19 : decode cX9_depositNamed 19 = .ok (.iconst 4, 1) := by decide +kernel
theorem dX9_depositNamed_20 : decode cX9_depositNamed 20 = .ok (.aload_n 0, 1) := by decide +kernel
theorem dX9_depositNamed_21 : decode cX9_depositNamed 21 = .ok (.getfield 256, 3) := by decide +kernel
theorem dX9_depositNamed_24 : decode cX9_depositNamed 24 = .ok (.imul, 1) := by decide +kernel
theorem dX9_depositNamed_25 : decode cX9_depositNamed 25 = .ok (.iload_n 1, 1) := by decide +kernel
theorem dX9_depositNamed_26 : decode cX9_depositNamed 26 = .ok (.iadd, 1) := by decide +kernel
theorem dX9_depositNamed_27 : decode cX9_depositNamed 27 = .ok (.laload, 1) := by decide +kernel
theorem dX9_depositNamed_28 : decode cX9_depositNamed 28 = .ok (.aload_n 0, 1) := by decide +kernel
theorem dX9_depositNamed_29 : decode cX9_depositNamed 29 = .ok (.getfield 166, 3) := by decide +kernel
theorem dX9_depositNamed_32 : decode cX9_depositNamed 32 = .ok (.lcmp, 1) := by decide +kernel
theorem dX9_depositNamed_33 : decode cX9_depositNamed 33 = .ok (.ifCond .ne 5, 3) := by decide +kernel
theorem dX9_depositNamed_36 : decode cX9_depositNamed 36 = .ok (.iload_n 1, 1) := by decide +kernel
theorem dX9_depositNamed_37 : decode cX9_depositNamed 37 = .ok (.ireturn, 1) := by decide +kernel
theorem dX9_depositNamed_38 : decode cX9_depositNamed 38 = .ok (.iinc 1 1, 3) := by decide +kernel
theorem dX9_depositNamed_41 : decode cX9_depositNamed 41 = .ok (.goto (-39), 3) := by decide +kernel
theorem dX9_depositNamed_44 : decode cX9_depositNamed 44 = .ok (.iconst (-1), 1) := by decide +kernel
theorem dX9_depositNamed_45 : decode cX9_depositNamed 45 = .ok (.ireturn, 1) := by decide +kernel
theorem dX9_pieceNamed_0 : decode cX9_pieceNamed 0 = .ok (.iconst 0, 1) := by decide +kernel
theorem dX9_pieceNamed_1 : decode cX9_pieceNamed 1 = .ok (.istore_n 1, 1) := by decide +kernel
theorem dX9_pieceNamed_2 : decode cX9_pieceNamed 2 = .ok (.iload_n 1, 1) := by decide +kernel
theorem dX9_pieceNamed_3 : decode cX9_pieceNamed 3 = .ok (.aload_n 0, 1) := by decide +kernel
theorem dX9_pieceNamed_4 : decode cX9_pieceNamed 4 = .ok (.getfield 20, 3) := by decide +kernel
theorem dX9_pieceNamed_7 : decode cX9_pieceNamed 7 = .ok (.aload_n 0, 1) := by decide +kernel
theorem dX9_pieceNamed_8 : decode cX9_pieceNamed 8 = .ok (.getfield 256, 3) := by decide +kernel
theorem dX9_pieceNamed_11 : decode cX9_pieceNamed 11 = .ok (.iaload, 1) := by decide +kernel
theorem dX9_pieceNamed_12 : decode cX9_pieceNamed 12 = .ok (.if_icmp .ge 33, 3) := by decide +kernel
theorem dX9_pieceNamed_15 : decode cX9_pieceNamed 15 = .ok (.aload_n 0, 1) := by decide +kernel
theorem dX9_pieceNamed_16 : decode cX9_pieceNamed 16 = .ok (.getfield 42, 3) := by decide +kernel
theorem dX9_pieceNamed_19 : decode cX9_pieceNamed 19 = .ok (.bipush 24, 2) := by decide +kernel
theorem dX9_pieceNamed_21 : decode cX9_pieceNamed 21 = .ok (.aload_n 0, 1) := by decide +kernel
theorem dX9_pieceNamed_22 : decode cX9_pieceNamed 22 = .ok (.getfield 256, 3) := by decide +kernel
theorem dX9_pieceNamed_25 : decode cX9_pieceNamed 25 = .ok (.imul, 1) := by decide +kernel
theorem dX9_pieceNamed_26 : decode cX9_pieceNamed 26 = .ok (.iload_n 1, 1) := by decide +kernel
theorem dX9_pieceNamed_27 : decode cX9_pieceNamed 27 = .ok (.iadd, 1) := by decide +kernel
theorem dX9_pieceNamed_28 : decode cX9_pieceNamed 28 = .ok (.laload, 1) := by decide +kernel
theorem dX9_pieceNamed_29 : decode cX9_pieceNamed 29 = .ok (.aload_n 0, 1) := by decide +kernel
theorem dX9_pieceNamed_30 : decode cX9_pieceNamed 30 = .ok (.getfield 166, 3) := by decide +kernel
theorem dX9_pieceNamed_33 : decode cX9_pieceNamed 33 = .ok (.lcmp, 1) := by decide +kernel
theorem dX9_pieceNamed_34 : decode cX9_pieceNamed 34 = .ok (.ifCond .ne 5, 3) := by decide +kernel
theorem dX9_pieceNamed_37 : decode cX9_pieceNamed 37 = .ok (.iload_n 1, 1) := by decide +kernel
theorem dX9_pieceNamed_38 : decode cX9_pieceNamed 38 = .ok (.ireturn, 1) := by decide +kernel
theorem dX9_pieceNamed_39 : decode cX9_pieceNamed 39 = .ok (.iinc 1 1, 3) := by decide +kernel
theorem dX9_pieceNamed_42 : decode cX9_pieceNamed 42 = .ok (.goto (-40), 3) := by decide +kernel
theorem dX9_pieceNamed_45 : decode cX9_pieceNamed 45 = .ok (.iconst (-1), 1) := by decide +kernel
theorem dX9_pieceNamed_46 : decode cX9_pieceNamed 46 = .ok (.ireturn, 1) := by decide +kernel
theorem qw_385 : (Cond.code yX9_isLeap cX9_isLeap 1 (some .boolean) : Cond) ∈ TBL := List.mem_of_getElem? (i := 447) (by decide +kernel)
theorem qw_386 : (Cond.initialized RX9 : Cond) ∈ TBL := List.mem_of_getElem? (i := 5) (by decide +kernel)
theorem qw_387 : (Cond.methodLink RX9 89 yX9_isLeap : Cond) ∈ TBL := List.mem_of_getElem? (i := 445) (by decide +kernel)
theorem qw_388 : (Cond.static yX9_isLeap : Cond) ∈ TBL := List.mem_of_getElem? (i := 446) (by decide +kernel)
theorem qw_389 : (Cond.code yX9_firstOf cX9_firstOf 3 (some .int) : Cond) ∈ TBL := List.mem_of_getElem? (i := 453) (by decide +kernel)
theorem qw_390 : (Cond.methodLink RX9 93 yX9_firstOf : Cond) ∈ TBL := List.mem_of_getElem? (i := 451) (by decide +kernel)
theorem qw_391 : (Cond.static yX9_firstOf : Cond) ∈ TBL := List.mem_of_getElem? (i := 452) (by decide +kernel)
theorem qw_392 : (Cond.code yX9_daysIn cX9_daysIn 2 (some .int) : Cond) ∈ TBL := List.mem_of_getElem? (i := 444) (by decide +kernel)
theorem qw_393 : (Cond.methodLink RX9 97 yX9_daysIn : Cond) ∈ TBL := List.mem_of_getElem? (i := 442) (by decide +kernel)
theorem qw_394 : (Cond.static yX9_daysIn : Cond) ∈ TBL := List.mem_of_getElem? (i := 443) (by decide +kernel)
theorem qw_395 : (Cond.fieldLink RX9 101 "ClosedUntilModel" "year" "I" : Cond) ∈ TBL := List.mem_of_getElem? (i := 515) (by decide +kernel)
theorem qw_396 : (Cond.fieldLink RX9 104 "ClosedUntilModel" "month" "I" : Cond) ∈ TBL := List.mem_of_getElem? (i := 516) (by decide +kernel)
theorem qw_397 : (Cond.fieldLink RX9 107 "ClosedUntilModel" "dayIn" "I" : Cond) ∈ TBL := List.mem_of_getElem? (i := 517) (by decide +kernel)
theorem qw_398 : (Cond.constant RX9 110 (219145) : Cond) ∈ TBL := List.mem_of_getElem? (i := 545) (by decide +kernel)
theorem qw_399 : (Cond.code yX9_tellsApart cX9_tellsApart 3 none : Cond) ∈ TBL := List.mem_of_getElem? (i := 521) (by decide +kernel)
theorem qw_400 : (Cond.methodLink RX9 111 yX9_tellsApart : Cond) ∈ TBL := List.mem_of_getElem? (i := 518) (by decide +kernel)
theorem qw_401 : (Cond.instanceMethod yX9_tellsApart : Cond) ∈ TBL := List.mem_of_getElem? (i := 519) (by decide +kernel)
theorem qw_402 : (Cond.selects RX9 yX9_tellsApart yX9_tellsApart : Cond) ∈ TBL := List.mem_of_getElem? (i := 520) (by decide +kernel)
theorem qw_403 : (Cond.code yX9_dayOf cX9_dayOf 5 (some .int) : Cond) ∈ TBL := List.mem_of_getElem? (i := 450) (by decide +kernel)
theorem qw_404 : (Cond.methodLink RX9 115 yX9_dayOf : Cond) ∈ TBL := List.mem_of_getElem? (i := 448) (by decide +kernel)
theorem qw_405 : (Cond.static yX9_dayOf : Cond) ∈ TBL := List.mem_of_getElem? (i := 449) (by decide +kernel)
theorem qw_406 : (Cond.fieldLink RX9 7 "ClosedUntilModel" "tape" "[B" : Cond) ∈ TBL := List.mem_of_getElem? (i := 166) (by decide +kernel)
theorem qw_407 : (Cond.fieldLink RX9 142 "ClosedUntilModel" "taped" "I" : Cond) ∈ TBL := List.mem_of_getElem? (i := 206) (by decide +kernel)
theorem qw_408 : (Cond.fieldLink RX9 85 "ClosedUntilModel" "thrown" "I" : Cond) ∈ TBL := List.mem_of_getElem? (i := 205) (by decide +kernel)
theorem qw_409 : (Cond.code yX9_puts cX9_puts 3 none : Cond) ∈ TBL := List.mem_of_getElem? (i := 210) (by decide +kernel)
theorem qw_410 : (Cond.methodLink RX9 145 yX9_puts : Cond) ∈ TBL := List.mem_of_getElem? (i := 207) (by decide +kernel)
theorem qw_411 : (Cond.instanceMethod yX9_puts : Cond) ∈ TBL := List.mem_of_getElem? (i := 208) (by decide +kernel)
theorem qw_412 : (Cond.selects RX9 yX9_puts yX9_puts : Cond) ∈ TBL := List.mem_of_getElem? (i := 209) (by decide +kernel)
theorem qw_413 : (Cond.fieldLink RX9 148 "ClosedUntilModel" "size" "I" : Cond) ∈ TBL := List.mem_of_getElem? (i := 350) (by decide +kernel)
theorem qw_414 : (Cond.fieldLink RX9 181 "ClosedUntilModel" "fault" "I" : Cond) ∈ TBL := List.mem_of_getElem? (i := 352) (by decide +kernel)
theorem qw_415 : (Cond.fieldLink RX9 184 "ClosedUntilModel" "faultPlace" "I" : Cond) ∈ TBL := List.mem_of_getElem? (i := 355) (by decide +kernel)
theorem qw_416 : (Cond.fieldLink RX9 154 "ClosedUntilModel" "from" "I" : Cond) ∈ TBL := List.mem_of_getElem? (i := 364) (by decide +kernel)
theorem qw_417 : (Cond.code yX9_mustAt cX9_mustAt 4 (some .boolean) : Cond) ∈ TBL := List.mem_of_getElem? (i := 397) (by decide +kernel)
theorem qw_418 : (Cond.methodLink RX9 187 yX9_mustAt : Cond) ∈ TBL := List.mem_of_getElem? (i := 394) (by decide +kernel)
theorem qw_419 : (Cond.instanceMethod yX9_mustAt : Cond) ∈ TBL := List.mem_of_getElem? (i := 395) (by decide +kernel)
theorem qw_420 : (Cond.selects RX9 yX9_mustAt yX9_mustAt : Cond) ∈ TBL := List.mem_of_getElem? (i := 396) (by decide +kernel)
theorem qw_421 : (Cond.fieldLink RX9 160 "ClosedUntilModel" "token" "I" : Cond) ∈ TBL := List.mem_of_getElem? (i := 354) (by decide +kernel)
theorem qw_422 : (Cond.fieldLink RX9 166 "ClosedUntilModel" "word" "J" : Cond) ∈ TBL := List.mem_of_getElem? (i := 366) (by decide +kernel)
theorem qw_423 : (Cond.code yX9_spelled cX9_spelled 4 (some .long) : Cond) ∈ TBL := List.mem_of_getElem? (i := 387) (by decide +kernel)
theorem qw_424 : (Cond.methodLink RX9 201 yX9_spelled : Cond) ∈ TBL := List.mem_of_getElem? (i := 385) (by decide +kernel)
theorem qw_425 : (Cond.static yX9_spelled : Cond) ∈ TBL := List.mem_of_getElem? (i := 386) (by decide +kernel)
theorem qw_426 : (Cond.code yX9_is cX9_is 2 (some .boolean) : Cond) ∈ TBL := List.mem_of_getElem? (i := 384) (by decide +kernel)
theorem qw_427 : (Cond.methodLink RX9 207 yX9_is : Cond) ∈ TBL := List.mem_of_getElem? (i := 381) (by decide +kernel)
theorem qw_428 : (Cond.instanceMethod yX9_is : Cond) ∈ TBL := List.mem_of_getElem? (i := 382) (by decide +kernel)
theorem qw_429 : (Cond.selects RX9 yX9_is yX9_is : Cond) ∈ TBL := List.mem_of_getElem? (i := 383) (by decide +kernel)
theorem qw_430 : (Cond.code yX9_isOwn cX9_isOwn 1 (some .boolean) : Cond) ∈ TBL := List.mem_of_getElem? (i := 416) (by decide +kernel)
theorem qw_431 : (Cond.methodLink RX9 232 yX9_isOwn : Cond) ∈ TBL := List.mem_of_getElem? (i := 413) (by decide +kernel)
theorem qw_432 : (Cond.instanceMethod yX9_isOwn : Cond) ∈ TBL := List.mem_of_getElem? (i := 414) (by decide +kernel)
theorem qw_433 : (Cond.selects RX9 yX9_isOwn yX9_isOwn : Cond) ∈ TBL := List.mem_of_getElem? (i := 415) (by decide +kernel)
theorem qw_434 : (Cond.fieldLink RX9 13 "ClosedUntilModel" "people" "[I" : Cond) ∈ TBL := List.mem_of_getElem? (i := 167) (by decide +kernel)
theorem qw_435 : (Cond.fieldLink RX9 256 "ClosedUntilModel" "bench" "I" : Cond) ∈ TBL := List.mem_of_getElem? (i := 353) (by decide +kernel)
theorem qw_436 : (Cond.fieldLink RX9 26 "ClosedUntilModel" "personName" "[J" : Cond) ∈ TBL := List.mem_of_getElem? (i := 171) (by decide +kernel)
theorem qw_437 : (Cond.fieldLink RX9 17 "ClosedUntilModel" "deposits" "[I" : Cond) ∈ TBL := List.mem_of_getElem? (i := 168) (by decide +kernel)
theorem qw_438 : (Cond.fieldLink RX9 36 "ClosedUntilModel" "depositName" "[J" : Cond) ∈ TBL := List.mem_of_getElem? (i := 174) (by decide +kernel)
theorem qw_439 : (Cond.fieldLink RX9 20 "ClosedUntilModel" "pieces" "[I" : Cond) ∈ TBL := List.mem_of_getElem? (i := 169) (by decide +kernel)
theorem qw_440 : (Cond.fieldLink RX9 42 "ClosedUntilModel" "pieceName" "[J" : Cond) ∈ TBL := List.mem_of_getElem? (i := 176) (by decide +kernel)
theorem rgP1_e1bfc9f {D : va_G} {cl : List vw_C} {H : Heap} {c0 : Nat × va_E} (h : va_P D cl ([c0]) H) : va_P D cl ([]) H := h.sub (ws' := []) [] rfl
theorem rgJ1_5dd387d {A0 : Nat → Prop} {D : va_G} {cl : List vw_C} {H H1 : Heap} {c0 : Nat × va_E} {d0 : Nat × va_E} (hP : va_P D cl ([c0]) H) (hD : va_D A0 ([c0])) (hk : ∀ q : Nat, q < H.size → ¬ va_A ([c0]) H.size q → H1[q]? = H[q]?) (hF : ∀ q, va_A ([c0]) H.size q → A0 q) (hP1 : va_P D cl ([d0]) H1) (hD1 : va_D (va_A ([c0]) H.size) ([d0])) : va_P D cl ([d0]) H1 ∧ va_D A0 ([d0]) := by
  obtain ⟨h1, h2⟩ := va_join (ws := [c0]) (wc := [c0]) (wr := []) (w1 := [d0]) hP hD [0] [] rfl rfl (by decide +kernel) (by decide +kernel) hk hF hP1 hD1
  exact ⟨va_P.sub (ws := [d0]) (ws' := [d0]) h1 [0] rfl, va_D.sub (ws := [d0]) (ws' := [d0]) h2 [0] (by decide +kernel) rfl⟩
theorem rgJ2_9775942 {A0 : Nat → Prop} {D : va_G} {cl : List vw_C} {H H1 : Heap} {c0 c1 : Nat × va_E} {d0 d1 : Nat × va_E} (hP : va_P D cl ([c0, c1]) H) (hD : va_D A0 ([c0, c1])) (hk : ∀ q : Nat, q < H.size → ¬ va_A ([c0, c1]) H.size q → H1[q]? = H[q]?) (hF : ∀ q, va_A ([c0, c1]) H.size q → A0 q) (hP1 : va_P D cl ([d0, d1]) H1) (hD1 : va_D (va_A ([c0, c1]) H.size) ([d0, d1])) : va_P D cl ([d0, d1]) H1 ∧ va_D A0 ([d0, d1]) := by
  obtain ⟨h1, h2⟩ := va_join (ws := [c0, c1]) (wc := [c0, c1]) (wr := []) (w1 := [d0, d1]) hP hD [0, 1] [] rfl rfl (by decide +kernel) (by decide +kernel) hk hF hP1 hD1
  exact ⟨va_P.sub (ws := [d0, d1]) (ws' := [d0, d1]) h1 [0, 1] rfl, va_D.sub (ws := [d0, d1]) (ws' := [d0, d1]) h2 [0, 1] (by decide +kernel) rfl⟩
set_option maxHeartbeats 4000000 in
set_option maxRecDepth 100000 in
theorem k_X9_isLeap (l : Launch) (dC : Nat → ClassId) (dI : Nat → Nat → Nat) (g : Gv) (a0 : Int32)  : Met l yX9_isLeap (.code yX9_isLeap cX9_isLeap 1 (some .boolean) :: TBL) ({ frames := 0, cells := 0, slots := 0, locals := 0 }) (va_Pc [.int a0] (fun U => va_P (dC, dI) vwCl [] U.heap ∧ va_K (dC, dI) vwCl [] U ∧ Ev g (fun _ => False) U)) (vp_Si (fun (r : Int32) => (r = 0 ∨ r = 1))) 0 0 (fun _ => False) := by
  refine Met.ofW (cc := cX9_isLeap) (maxL := 1) (ret := (some .boolean)) (by decide) rfl ?_
  intro p e s m args below meth c s₁ B hml hv
  obtain ⟨rfl, hP, hK, hE⟩ := hv
  have hx := B.exec
  have hb := B.bytes
  have hr := B.returns
  have hts0 := atoms_spec (ws := (.code yX9_isLeap cX9_isLeap 1 (some .boolean) :: TBL)) B.pre
  have hts := fun (w : Cond) (h : w ∈ TBL) => hts0 w (List.mem_cons_of_mem _ h)
  have hown : s.vm.findClass RX9 = some m.cls := findClass_of_methodNamed B.named
  have hlocks := B.notSynchronized
  have hN := hE.1
  have hS : va_S (fun _ => False) s.heap s.heap [] := va_S.rf
  replace hP : va_P (dC, dI) vwCl [] s.heap := hP
  have hl := lv_entry ([.int a0]) (n := 1) (Nat.le_of_ble_eq_true rfl)
  rw [lg_entry_eq]
  generalize (lg_sl ([.int a0]) ++ List.replicate (1 - (lg_sl ([.int a0])).length) Slot.unset).toArray = ls at hl ⊢
  have hl : lv_has ls 1 [(0, .int a0)] := hl
  have b_a0 := i32b a0
  refine lv_iload_n hx hb dX9_isLeap_0 rfl (lv_at hl 0 rfl) ?_
  refine lv_iconst (v := 4) hx hb dX9_isLeap_1 (by decide) ?_
  refine lv_irem hx hb dX9_isLeap_2 (by decide) ?_
  refine lv_topi (fun x1 e_x1 => ?_)
  refine lv_if_ne (tgt := 25) hx hb dX9_isLeap_3 (by decide) (fun c3_2 => ?_) (fun c3_2 => ?_)
  · have c3_2 : ¬ (x1.toInt = 0) := mt (cv_eq rfl (by decide)).mpr c3_2
    refine lv_iconst (v := 0) hx hb dX9_isLeap_25 (by decide) ?_
    exact W.zret (v := 0) hx hb hr rfl (fun t ht hW => ⟨0, rfl, (by decide), ht⟩) (fun _ h => absurd h List.not_mem_nil) dX9_isLeap_26
  · have c3_2 : x1.toInt = 0 := (cv_eq rfl (by decide)).mp c3_2
    refine lv_iload_n hx hb dX9_isLeap_6 rfl (lv_at hl 0 rfl) ?_
    refine lv_bipush (v := 100) hx hb dX9_isLeap_7 (by decide) ?_
    refine lv_irem hx hb dX9_isLeap_9 (by decide) ?_
    refine lv_topi (fun x3 e_x3 => ?_)
    refine lv_if_ne (tgt := 21) hx hb dX9_isLeap_10 (by decide) (fun c10_4 => ?_) (fun c10_4 => ?_)
    · have c10_4 : ¬ (x3.toInt = 0) := mt (cv_eq rfl (by decide)).mpr c10_4
      refine lv_iconst (v := 1) hx hb dX9_isLeap_21 (by decide) ?_
      refine lv_goto (tgt := 26) hx hb dX9_isLeap_22 (by decide) ?_
      exact W.zret (v := 1) hx hb hr rfl (fun t ht hW => ⟨1, rfl, (by decide), ht⟩) (fun _ h => absurd h List.not_mem_nil) dX9_isLeap_26
    · have c10_4 : x3.toInt = 0 := (cv_eq rfl (by decide)).mp c10_4
      refine lv_iload_n hx hb dX9_isLeap_13 rfl (lv_at hl 0 rfl) ?_
      refine lv_sipush (v := 400) hx hb dX9_isLeap_14 (by decide) ?_
      refine lv_irem hx hb dX9_isLeap_17 (by decide) ?_
      refine lv_topi (fun x5 e_x5 => ?_)
      refine lv_if_ne (tgt := 25) hx hb dX9_isLeap_18 (by decide) (fun c18_6 => ?_) (fun c18_6 => ?_)
      · have c18_6 : ¬ (x5.toInt = 0) := mt (cv_eq rfl (by decide)).mpr c18_6
        refine lv_iconst (v := 0) hx hb dX9_isLeap_25 (by decide) ?_
        exact W.zret (v := 0) hx hb hr rfl (fun t ht hW => ⟨0, rfl, (by decide), ht⟩) (fun _ h => absurd h List.not_mem_nil) dX9_isLeap_26
      · have c18_6 : x5.toInt = 0 := (cv_eq rfl (by decide)).mp c18_6
        refine lv_iconst (v := 1) hx hb dX9_isLeap_21 (by decide) ?_
        refine lv_goto (tgt := 26) hx hb dX9_isLeap_22 (by decide) ?_
        exact W.zret (v := 1) hx hb hr rfl (fun t ht hW => ⟨1, rfl, (by decide), ht⟩) (fun _ h => absurd h List.not_mem_nil) dX9_isLeap_26
set_option maxHeartbeats 4000000 in
set_option maxRecDepth 100000 in
theorem k_X9_daysIn (l : Launch) (dC : Nat → ClassId) (dI : Nat → Nat → Nat) (g : Gv) (a0 : Int32) (a1 : Int32)  : Met l yX9_daysIn (.code yX9_daysIn cX9_daysIn 2 (some .int) :: TBL) ({ frames := 1, cells := 0, slots := 0, locals := 20 }) (va_Pc [.int a0, .int a1] (fun U => va_P (dC, dI) vwCl [] U.heap ∧ va_K (dC, dI) vwCl [] U ∧ Ev g (fun _ => False) U)) (vp_Si (fun (r : Int32) => (28 ≤ r.toInt ∧ r.toInt ≤ 31))) 0 0 (fun _ => False) := by
  refine Met.ofW (cc := cX9_daysIn) (maxL := 2) (ret := (some .int)) (by decide) rfl ?_
  intro p e s m args below meth c s₁ B hml hv
  obtain ⟨rfl, hP, hK, hE⟩ := hv
  have hx := B.exec
  have hb := B.bytes
  have hr := B.returns
  have hts0 := atoms_spec (ws := (.code yX9_daysIn cX9_daysIn 2 (some .int) :: TBL)) B.pre
  have hts := fun (w : Cond) (h : w ∈ TBL) => hts0 w (List.mem_cons_of_mem _ h)
  have hown : s.vm.findClass RX9 = some m.cls := findClass_of_methodNamed B.named
  have hlocks := B.notSynchronized
  have hN := hE.1
  have hS : va_S (fun _ => False) s.heap s.heap [] := va_S.rf
  replace hP : va_P (dC, dI) vwCl [] s.heap := hP
  have hl := lv_entry ([.int a0, .int a1]) (n := 2) (Nat.le_of_ble_eq_true rfl)
  rw [lg_entry_eq]
  generalize (lg_sl ([.int a0, .int a1]) ++ List.replicate (2 - (lg_sl ([.int a0, .int a1])).length) Slot.unset).toArray = ls at hl ⊢
  have hl : lv_has ls 2 [(0, .int a0), (1, .int a1)] := hl
  have b_a0 := i32b a0
  have b_a1 := i32b a1
  refine lv_iload_n hx hb dX9_daysIn_0 rfl (lv_at hl 1 rfl) ?_
  refine lv_iconst (v := 2) hx hb dX9_daysIn_1 (by decide) ?_
  refine lv_icmp_ne (tgt := 22) hx hb dX9_daysIn_2 (by decide) (fun c2_1 => ?_) (fun c2_1 => ?_)
  · have c2_1 : ¬ (a1.toInt = 2) := mt (cv_eq rfl (by decide)).mpr c2_1
    refine lv_iload_n hx hb dX9_daysIn_22 rfl (lv_at hl 1 rfl) ?_
    refine lv_iconst (v := 4) hx hb dX9_daysIn_23 (by decide) ?_
    refine lv_icmp_eq (tgt := 45) hx hb dX9_daysIn_24 (by decide) (fun c24_2 => ?_) (fun c24_2 => ?_)
    · have c24_2 : a1.toInt = 4 := (cv_eq rfl (by decide)).mp c24_2
      refine lv_bipush (v := 30) hx hb dX9_daysIn_45 (by decide) ?_
      refine lv_goto (tgt := 52) hx hb dX9_daysIn_47 (by decide) ?_
      exact W.iret (v := 30) hx hb hr (fun t ht hW => ⟨30, rfl, (by decide), ht⟩) (fun _ h => absurd h List.not_mem_nil) dX9_daysIn_52
    · have c24_2 : ¬ (a1.toInt = 4) := mt (cv_eq rfl (by decide)).mpr c24_2
      refine lv_iload_n hx hb dX9_daysIn_27 rfl (lv_at hl 1 rfl) ?_
      refine lv_bipush (v := 6) hx hb dX9_daysIn_28 (by decide) ?_
      refine lv_icmp_eq (tgt := 45) hx hb dX9_daysIn_30 (by decide) (fun c30_3 => ?_) (fun c30_3 => ?_)
      · have c30_3 : a1.toInt = 6 := (cv_eq rfl (by decide)).mp c30_3
        refine lv_bipush (v := 30) hx hb dX9_daysIn_45 (by decide) ?_
        refine lv_goto (tgt := 52) hx hb dX9_daysIn_47 (by decide) ?_
        exact W.iret (v := 30) hx hb hr (fun t ht hW => ⟨30, rfl, (by decide), ht⟩) (fun _ h => absurd h List.not_mem_nil) dX9_daysIn_52
      · have c30_3 : ¬ (a1.toInt = 6) := mt (cv_eq rfl (by decide)).mpr c30_3
        refine lv_iload_n hx hb dX9_daysIn_33 rfl (lv_at hl 1 rfl) ?_
        refine lv_bipush (v := 9) hx hb dX9_daysIn_34 (by decide) ?_
        refine lv_icmp_eq (tgt := 45) hx hb dX9_daysIn_36 (by decide) (fun c36_4 => ?_) (fun c36_4 => ?_)
        · have c36_4 : a1.toInt = 9 := (cv_eq rfl (by decide)).mp c36_4
          refine lv_bipush (v := 30) hx hb dX9_daysIn_45 (by decide) ?_
          refine lv_goto (tgt := 52) hx hb dX9_daysIn_47 (by decide) ?_
          exact W.iret (v := 30) hx hb hr (fun t ht hW => ⟨30, rfl, (by decide), ht⟩) (fun _ h => absurd h List.not_mem_nil) dX9_daysIn_52
        · have c36_4 : ¬ (a1.toInt = 9) := mt (cv_eq rfl (by decide)).mpr c36_4
          refine lv_iload_n hx hb dX9_daysIn_39 rfl (lv_at hl 1 rfl) ?_
          refine lv_bipush (v := 11) hx hb dX9_daysIn_40 (by decide) ?_
          refine lv_icmp_ne (tgt := 50) hx hb dX9_daysIn_42 (by decide) (fun c42_5 => ?_) (fun c42_5 => ?_)
          · have c42_5 : ¬ (a1.toInt = 11) := mt (cv_eq rfl (by decide)).mpr c42_5
            refine lv_bipush (v := 31) hx hb dX9_daysIn_50 (by decide) ?_
            exact W.iret (v := 31) hx hb hr (fun t ht hW => ⟨31, rfl, (by decide), ht⟩) (fun _ h => absurd h List.not_mem_nil) dX9_daysIn_52
          · have c42_5 : a1.toInt = 11 := (cv_eq rfl (by decide)).mp c42_5
            refine lv_bipush (v := 30) hx hb dX9_daysIn_45 (by decide) ?_
            refine lv_goto (tgt := 52) hx hb dX9_daysIn_47 (by decide) ?_
            exact W.iret (v := 30) hx hb hr (fun t ht hW => ⟨30, rfl, (by decide), ht⟩) (fun _ h => absurd h List.not_mem_nil) dX9_daysIn_52
  · have c2_1 : a1.toInt = 2 := (cv_eq rfl (by decide)).mp c2_1
    refine lv_iload_n hx hb dX9_daysIn_5 rfl (lv_at hl 0 rfl) ?_
    have hPc := hP
    have hKc := hK
    refine vp_callSi ((va_runS (As := [.int a0]) (rest := []) ⟨hx, hb, hml, hown, hts⟩ (k_X9_isLeap l dC dI g (a0) ) (va_cwS 1 hts (gwS qw_387 qw_388 qw_386 qw_385) rfl rfl rfl (by decide +kernel) ⟨Nat.le_of_ble_eq_true rfl, Nat.le_of_ble_eq_true rfl⟩) ⟨fun a U g9 mk q => ⟨q.1, q.2.1, va_K.moved (u := U) (U := U.calling g9 mk a) (Vm.Alike.refl U.vm) q.2.2.1, Ev.bl q.2.2.2⟩, fun U hU hW => ⟨rfl, atB hU hPc, va_K.moved hW.alike hKc, hE.go hS (fun _ h => h.elim) hU hW⟩⟩ rfl rfl hl.1 rfl (lv_room (Nat.le_of_ble_eq_true rfl)) dX9_daysIn_6 ⟨Nat.le_of_ble_eq_true rfl, Nat.le_of_ble_eq_true rfl⟩)).run (fun r6 h_r6 => ?_)
    have h_r6 : (r6 = 0 ∨ r6 = 1) := h_r6
    have b_r6 := z01 (show r6 = 0 ∨ r6 = 1 from h_r6)
    refine lv_if_eq (tgt := 17) hx hb dX9_daysIn_9 (by decide) (fun c9_7 => ?_) (fun c9_7 => ?_)
    · have c9_7 : r6.toInt = 0 := (cv_eq rfl (by decide)).mp c9_7
      refine lv_bipush (v := 28) hx hb dX9_daysIn_17 (by decide) ?_
      refine lv_goto (tgt := 52) hx hb dX9_daysIn_19 (by decide) ?_
      exact W.iret (v := 28) hx hb hr (fun t ht hW => ⟨28, rfl, (by decide), ht⟩) (fun _ h => absurd h List.not_mem_nil) dX9_daysIn_52
    · have c9_7 : ¬ (r6.toInt = 0) := mt (cv_eq rfl (by decide)).mpr c9_7
      refine lv_bipush (v := 29) hx hb dX9_daysIn_12 (by decide) ?_
      refine lv_goto (tgt := 52) hx hb dX9_daysIn_14 (by decide) ?_
      exact W.iret (v := 29) hx hb hr (fun t ht hW => ⟨29, rfl, (by decide), ht⟩) (fun _ h => absurd h List.not_mem_nil) dX9_daysIn_52
set_option maxHeartbeats 4000000 in
set_option maxRecDepth 100000 in
theorem k_X9_firstOf (l : Launch) (dC : Nat → ClassId) (dI : Nat → Nat → Nat) (g : Gv) (a0 : Int32)  : Met l yX9_firstOf (.code yX9_firstOf cX9_firstOf 3 (some .int) :: TBL) ({ frames := 1, cells := 0, slots := 0, locals := 20 }) (va_Pc [.int a0] (fun U => va_P (dC, dI) vwCl [] U.heap ∧ va_K (dC, dI) vwCl [] U ∧ Ev g (fun _ => False) U)) (vp_Si (fun (r : Int32) => True)) 0 0 (fun _ => False) := by
  refine Met.ofW (cc := cX9_firstOf) (maxL := 3) (ret := (some .int)) (by decide) rfl ?_
  intro p e s m args below meth c s₁ B hml hv
  obtain ⟨rfl, hP, hK, hE⟩ := hv
  have hx := B.exec
  have hb := B.bytes
  have hr := B.returns
  have hts0 := atoms_spec (ws := (.code yX9_firstOf cX9_firstOf 3 (some .int) :: TBL)) B.pre
  have hts := fun (w : Cond) (h : w ∈ TBL) => hts0 w (List.mem_cons_of_mem _ h)
  have hown : s.vm.findClass RX9 = some m.cls := findClass_of_methodNamed B.named
  have hlocks := B.notSynchronized
  have hN := hE.1
  have hS : va_S (fun _ => False) s.heap s.heap [] := va_S.rf
  replace hP : va_P (dC, dI) vwCl [] s.heap := hP
  have hl := lv_entry ([.int a0]) (n := 3) (Nat.le_of_ble_eq_true rfl)
  rw [lg_entry_eq]
  generalize (lg_sl ([.int a0]) ++ List.replicate (3 - (lg_sl ([.int a0])).length) Slot.unset).toArray = ls at hl ⊢
  have hl : lv_has ls 3 [(0, .int a0)] := hl
  have b_a0 := i32b a0
  refine lv_iconst (v := 0) hx hb dX9_firstOf_0 (by decide) ?_
  refine lv_istore_n (lv' := [(1, .int 0), (0, .int a0)]) hx hb dX9_firstOf_1 rfl hl (by decide) rfl (fun ls hl => ?_)
  refine lv_sipush (v := 1700) hx hb dX9_firstOf_2 (by decide) ?_
  refine lv_istore_n (lv' := [(2, .int 1700), (1, .int 0), (0, .int a0)]) hx hb dX9_firstOf_5 rfl hl (by decide) rfl (fun ls hl => ?_)
  have qc0 : (0 : Int32).toInt = 0 := by decide
  have qc1700 : (1700 : Int32).toInt = 1700 := by decide
  refine wloop (fun n H locs ls => ∃ (l6_2 : Int32) (l6_1 : Int32), n = (2147483647 - l6_2.toInt).toNat ∧ (1700 ≤ l6_2.toInt) ∧ lv_has ls 3 [(2, .int l6_2), (1, .int l6_1), (0, .int a0)] ∧ H = s.heap ∧ locs = []) ?_ ((2147483647 - (1700 : Int32).toInt).toNat) _ _ _ ⟨1700, 0, rfl, (by omega), lv_sub hl [0, 1, 2] rfl, rfl, rfl⟩
  intro n6 H locs ls hI ih6
  obtain ⟨l6_2, l6_1, hn6, g_l6_2, hl, rfl, rfl⟩ := hI
  have b_l6_2 := i32b l6_2
  have b_l6_1 := i32b l6_1
  refine lv_iload_n hx hb dX9_firstOf_6 rfl (lv_at hl 0 rfl) ?_
  refine lv_iload_n hx hb dX9_firstOf_7 rfl (lv_at hl 2 rfl) ?_
  refine lv_icmp_ge (tgt := 36) hx hb dX9_firstOf_8 (by decide) (fun c8_1 => ?_) (fun c8_1 => ?_)
  · have c8_1 : a0.toInt ≤ l6_2.toInt := (cv_le rfl rfl).mp c8_1
    refine lv_iload_n hx hb dX9_firstOf_36 rfl (lv_at hl 1 rfl) ?_
    exact W.iret (v := l6_1) hx hb hr (fun t ht hW => ⟨l6_1, rfl, trivial, ht⟩) (fun _ h => absurd h List.not_mem_nil) dX9_firstOf_37
  · have c8_1 : ¬ (a0.toInt ≤ l6_2.toInt) := mt (cv_le rfl rfl).mpr c8_1
    refine lv_iload_n hx hb dX9_firstOf_11 rfl (lv_at hl 1 rfl) ?_
    refine lv_iload_n hx hb dX9_firstOf_12 rfl (lv_at hl 0 rfl) ?_
    have hPc := hP
    have hKc := hK
    refine vp_callSi ((va_runS (As := [.int l6_2]) (rest := [.int l6_1]) ⟨hx, hb, hml, hown, hts⟩ (k_X9_isLeap l dC dI g (l6_2) ) (va_cwS 1 hts (gwS qw_387 qw_388 qw_386 qw_385) rfl rfl rfl (by decide +kernel) ⟨Nat.le_of_ble_eq_true rfl, Nat.le_of_ble_eq_true rfl⟩) ⟨fun a U g9 mk q => ⟨q.1, q.2.1, va_K.moved (u := U) (U := U.calling g9 mk a) (Vm.Alike.refl U.vm) q.2.2.1, Ev.bl q.2.2.2⟩, fun U hU hW => ⟨rfl, atB hU hPc, va_K.moved hW.alike hKc, hE.go hS (fun _ h => h.elim) hU hW⟩⟩ rfl rfl hl.1 rfl (lv_room (Nat.le_of_ble_eq_true rfl)) dX9_firstOf_13 ⟨Nat.le_of_ble_eq_true rfl, Nat.le_of_ble_eq_true rfl⟩)).run (fun r2 h_r2 => ?_)
    have h_r2 : (r2 = 0 ∨ r2 = 1) := h_r2
    have b_r2 := z01 (show r2 = 0 ∨ r2 = 1 from h_r2)
    refine lv_if_eq (tgt := 25) hx hb dX9_firstOf_16 (by decide) (fun c16_3 => ?_) (fun c16_3 => ?_)
    · have c16_3 : r2.toInt = 0 := (cv_eq rfl (by decide)).mp c16_3
      refine lv_sipush (v := 365) hx hb dX9_firstOf_25 (by decide) ?_
      refine lv_iadd hx hb dX9_firstOf_28 ?_
      refine lv_topi (fun x4 e_x4 => ?_)
      refine lv_istore_n (lv' := [(1, .int x4), (2, .int l6_2), (0, .int a0)]) hx hb dX9_firstOf_29 rfl hl (by decide) rfl (fun ls hl => ?_)
      obtain ⟨x5, e_x5⟩ : ∃ y : Int32, y = l6_2 + 1 := ⟨_, rfl⟩
      refine lv_iinc (v := x5) (lv' := [(2, .int x5), (1, .int x4), (0, .int a0)]) hx hb dX9_firstOf_30 hl (k := 1) rfl (by rw [e_x5]; rfl) (by decide) rfl (fun ls hl => ?_)
      try have e_x5 := ti_add e_x5 rfl (show (1 : Int32).toInt = 1 by decide) (by omega)
      refine lv_goto (tgt := 6) hx hb dX9_firstOf_33 (by decide) ?_
      exact ih6 ((2147483647 - x5.toInt).toNat) _ _ _ (by omega) ⟨x5, x4, rfl, (by omega), lv_sub hl [0, 1, 2] rfl, rfl, rfl⟩
    · have c16_3 : ¬ (r2.toInt = 0) := mt (cv_eq rfl (by decide)).mpr c16_3
      refine lv_sipush (v := 366) hx hb dX9_firstOf_19 (by decide) ?_
      refine lv_goto (tgt := 28) hx hb dX9_firstOf_22 (by decide) ?_
      refine lv_iadd hx hb dX9_firstOf_28 ?_
      refine lv_topi (fun x6 e_x6 => ?_)
      refine lv_istore_n (lv' := [(1, .int x6), (2, .int l6_2), (0, .int a0)]) hx hb dX9_firstOf_29 rfl hl (by decide) rfl (fun ls hl => ?_)
      obtain ⟨x7, e_x7⟩ : ∃ y : Int32, y = l6_2 + 1 := ⟨_, rfl⟩
      refine lv_iinc (v := x7) (lv' := [(2, .int x7), (1, .int x6), (0, .int a0)]) hx hb dX9_firstOf_30 hl (k := 1) rfl (by rw [e_x7]; rfl) (by decide) rfl (fun ls hl => ?_)
      try have e_x7 := ti_add e_x7 rfl (show (1 : Int32).toInt = 1 by decide) (by omega)
      refine lv_goto (tgt := 6) hx hb dX9_firstOf_33 (by decide) ?_
      exact ih6 ((2147483647 - x7.toInt).toNat) _ _ _ (by omega) ⟨x7, x6, rfl, (by omega), lv_sub hl [0, 1, 2] rfl, rfl, rfl⟩
set_option maxHeartbeats 4000000 in
set_option maxRecDepth 100000 in
theorem k_X9_dayOf (l : Launch) (dC : Nat → ClassId) (dI : Nat → Nat → Nat) (g : Gv) (a0 : Int32) (a1 : Int32) (a2 : Int32)  : Met l yX9_dayOf (.code yX9_dayOf cX9_dayOf 5 (some .int) :: TBL) ({ frames := 2, cells := 0, slots := 0, locals := 42 }) (va_Pc [.int a0, .int a1, .int a2] (fun U => va_P (dC, dI) vwCl [] U.heap ∧ va_K (dC, dI) vwCl [] U ∧ Ev g (fun _ => False) U)) (vp_Si (fun (r : Int32) => True)) 0 0 (fun _ => False) := by
  refine Met.ofW (cc := cX9_dayOf) (maxL := 5) (ret := (some .int)) (by decide) rfl ?_
  intro p e s m args below meth c s₁ B hml hv
  obtain ⟨rfl, hP, hK, hE⟩ := hv
  have hx := B.exec
  have hb := B.bytes
  have hr := B.returns
  have hts0 := atoms_spec (ws := (.code yX9_dayOf cX9_dayOf 5 (some .int) :: TBL)) B.pre
  have hts := fun (w : Cond) (h : w ∈ TBL) => hts0 w (List.mem_cons_of_mem _ h)
  have hown : s.vm.findClass RX9 = some m.cls := findClass_of_methodNamed B.named
  have hlocks := B.notSynchronized
  have hN := hE.1
  have hS : va_S (fun _ => False) s.heap s.heap [] := va_S.rf
  replace hP : va_P (dC, dI) vwCl [] s.heap := hP
  have hl := lv_entry ([.int a0, .int a1, .int a2]) (n := 5) (Nat.le_of_ble_eq_true rfl)
  rw [lg_entry_eq]
  generalize (lg_sl ([.int a0, .int a1, .int a2]) ++ List.replicate (5 - (lg_sl ([.int a0, .int a1, .int a2])).length) Slot.unset).toArray = ls at hl ⊢
  have hl : lv_has ls 5 [(0, .int a0), (1, .int a1), (2, .int a2)] := hl
  have b_a0 := i32b a0
  have b_a1 := i32b a1
  have b_a2 := i32b a2
  refine lv_iload_n hx hb dX9_dayOf_0 rfl (lv_at hl 0 rfl) ?_
  have hPc := hP
  have hKc := hK
  refine vp_callSi ((va_runS (As := [.int a0]) (rest := []) ⟨hx, hb, hml, hown, hts⟩ (k_X9_firstOf l dC dI g (a0) ) (va_cwS 1 hts (gwS qw_390 qw_391 qw_386 qw_389) rfl rfl rfl (by decide +kernel) ⟨Nat.le_of_ble_eq_true rfl, Nat.le_of_ble_eq_true rfl⟩) ⟨fun a U g9 mk q => ⟨q.1, q.2.1, va_K.moved (u := U) (U := U.calling g9 mk a) (Vm.Alike.refl U.vm) q.2.2.1, Ev.bl q.2.2.2⟩, fun U hU hW => ⟨rfl, atB hU hPc, va_K.moved hW.alike hKc, hE.go hS (fun _ h => h.elim) hU hW⟩⟩ rfl rfl hl.1 rfl (lv_room (Nat.le_of_ble_eq_true rfl)) dX9_dayOf_1 ⟨Nat.le_of_ble_eq_true rfl, Nat.le_of_ble_eq_true rfl⟩)).run (fun r1 h_r1 => ?_)
  have b_r1 := i32b r1
  refine lv_iload_n hx hb dX9_dayOf_4 rfl (lv_at hl 2 rfl) ?_
  refine lv_iadd hx hb dX9_dayOf_5 ?_
  refine lv_topi (fun x2 e_x2 => ?_)
  refine lv_iconst (v := 1) hx hb dX9_dayOf_6 (by decide) ?_
  refine lv_isub hx hb dX9_dayOf_7 ?_
  refine lv_topi (fun x3 e_x3 => ?_)
  refine lv_istore_n (lv' := [(3, .int x3), (0, .int a0), (1, .int a1), (2, .int a2)]) hx hb dX9_dayOf_8 rfl hl (by decide) rfl (fun ls hl => ?_)
  refine lv_iconst (v := 1) hx hb dX9_dayOf_9 (by decide) ?_
  refine lv_istore (lv' := [(4, .int 1), (3, .int x3), (0, .int a0), (1, .int a1), (2, .int a2)]) hx hb dX9_dayOf_10 hl (by decide) rfl (fun ls hl => ?_)
  have qc1 : (1 : Int32).toInt = 1 := by decide
  refine wloop (fun n H locs ls => ∃ (l12_4 : Int32) (l12_3 : Int32), n = (2147483647 - l12_4.toInt).toNat ∧ (1 ≤ l12_4.toInt) ∧ lv_has ls 5 [(4, .int l12_4), (3, .int l12_3), (0, .int a0), (1, .int a1), (2, .int a2)] ∧ H = s.heap ∧ locs = []) ?_ ((2147483647 - (1 : Int32).toInt).toNat) _ _ _ ⟨1, x3, rfl, (by omega), lv_sub hl [0, 1, 2, 3, 4] rfl, rfl, rfl⟩
  intro n12 H locs ls hI ih12
  obtain ⟨l12_4, l12_3, hn12, g_l12_4, hl, rfl, rfl⟩ := hI
  have b_l12_4 := i32b l12_4
  have b_l12_3 := i32b l12_3
  refine lv_iload hx hb dX9_dayOf_12 (lv_at hl 0 rfl) ?_
  refine lv_iload_n hx hb dX9_dayOf_14 rfl (lv_at hl 3 rfl) ?_
  refine lv_icmp_ge (tgt := 33) hx hb dX9_dayOf_15 (by decide) (fun c15_4 => ?_) (fun c15_4 => ?_)
  · have c15_4 : a1.toInt ≤ l12_4.toInt := (cv_le rfl rfl).mp c15_4
    refine lv_iload_n hx hb dX9_dayOf_33 rfl (lv_at hl 1 rfl) ?_
    exact W.iret (v := l12_3) hx hb hr (fun t ht hW => ⟨l12_3, rfl, trivial, ht⟩) (fun _ h => absurd h List.not_mem_nil) dX9_dayOf_34
  · have c15_4 : ¬ (a1.toInt ≤ l12_4.toInt) := mt (cv_le rfl rfl).mpr c15_4
    refine lv_iload_n hx hb dX9_dayOf_18 rfl (lv_at hl 1 rfl) ?_
    refine lv_iload_n hx hb dX9_dayOf_19 rfl (lv_at hl 2 rfl) ?_
    refine lv_iload hx hb dX9_dayOf_20 (lv_at hl 0 rfl) ?_
    have hPc := hP
    have hKc := hK
    refine vp_callSi ((va_runS (As := [.int a0, .int l12_4]) (rest := [.int l12_3]) ⟨hx, hb, hml, hown, hts⟩ (k_X9_daysIn l dC dI g (a0) (l12_4) ) (va_cwS 2 hts (gwS qw_393 qw_394 qw_386 qw_392) rfl rfl rfl (by decide +kernel) ⟨Nat.le_of_ble_eq_true rfl, Nat.le_of_ble_eq_true rfl⟩) ⟨fun a U g9 mk q => ⟨q.1, q.2.1, va_K.moved (u := U) (U := U.calling g9 mk a) (Vm.Alike.refl U.vm) q.2.2.1, Ev.bl q.2.2.2⟩, fun U hU hW => ⟨rfl, atB hU hPc, va_K.moved hW.alike hKc, hE.go hS (fun _ h => h.elim) hU hW⟩⟩ rfl rfl hl.1 rfl (lv_room (Nat.le_of_ble_eq_true rfl)) dX9_dayOf_22 ⟨Nat.le_of_ble_eq_true rfl, Nat.le_of_ble_eq_true rfl⟩)).run (fun r5 h_r5 => ?_)
    have h_r5 : (28 ≤ r5.toInt ∧ r5.toInt ≤ 31) := h_r5
    refine lv_iadd hx hb dX9_dayOf_25 ?_
    refine lv_topi (fun x6 e_x6 => ?_)
    refine lv_istore_n (lv' := [(3, .int x6), (4, .int l12_4), (0, .int a0), (1, .int a1), (2, .int a2)]) hx hb dX9_dayOf_26 rfl hl (by decide) rfl (fun ls hl => ?_)
    obtain ⟨x7, e_x7⟩ : ∃ y : Int32, y = l12_4 + 1 := ⟨_, rfl⟩
    refine lv_iinc (v := x7) (lv' := [(4, .int x7), (3, .int x6), (0, .int a0), (1, .int a1), (2, .int a2)]) hx hb dX9_dayOf_27 hl (k := 1) rfl (by rw [e_x7]; rfl) (by decide) rfl (fun ls hl => ?_)
    try have e_x7 := ti_add e_x7 rfl (show (1 : Int32).toInt = 1 by decide) (by omega)
    refine lv_goto (tgt := 12) hx hb dX9_dayOf_30 (by decide) ?_
    exact ih12 ((2147483647 - x7.toInt).toNat) _ _ _ (by omega) ⟨x7, x6, rfl, (by omega), lv_sub hl [0, 1, 2, 3, 4] rfl, rfl, rfl⟩
set_option maxHeartbeats 4000000 in
set_option maxRecDepth 100000 in
theorem k_X9_tellsApart (l : Launch) (dC : Nat → ClassId) (dI : Nat → Nat → Nat) (g : Gv) (sz : Nat) (a0 : Nat) (a1 : Int32) (a0_0 : Int32) (a0_1 : Int32) (a0_2 : Int32) (a0_3 : Int32) (a0_4 : Nat) (a0_5 : Int32) (a0_6 : Int32) (a0_7 : Int32) (a0_8 : Int32) (a0_9 : Int32) (a0_10 : Int32) (a0_11 : Int64) (a0_12 : Int32) (a0_13 : Int32) (a0_14 : Int32) (a0_15 : Int32) (a0_16 : Int32) (a0_17 : Int32) (a0_18 : Nat) (a0_19 : Nat) (a0_20 : Nat) (a0_21 : Nat) (a0_22 : Nat) (a0_23 : Nat) (a0_24 : Nat) (a0_25 : Nat) (a0_26 : Nat) (a0_27 : Nat) (a0_28 : Nat) (a0_29 : Nat) (a0_30 : Nat) (a0_31 : Nat) (a0_32 : Nat) (a0_33 : Nat) (a0_34 : Nat) (a0_35 : Nat) (a0_36 : Int64) (a0_37 : Int32) (a0_38 : Nat) (a0_39 : Nat) (a0_40 : Int32) (a0_41 : Nat) (a0_42 : Nat) (a0_43 : Nat) (h_a0_5 : 0 ≤ a0_5.toInt ∧ a0_5.toInt ≤ 1000) (h_a0_6 : 0 ≤ a0_6.toInt ∧ a0_6.toInt ≤ 1000) (h_a0_7 : 0 ≤ a0_7.toInt ∧ a0_7.toInt ≤ 1000) (h_a0_8 : 0 ≤ a0_8.toInt ∧ a0_8.toInt ≤ 1000) (h_a0_17 : 0 ≤ a0_17.toInt ∧ a0_17.toInt ≤ 1) (h_a0_37 : (-1) ≤ a0_37.toInt ∧ a0_37.toInt ≤ 23) (h_a0_40 : 0 ≤ a0_40.toInt ∧ a0_40.toInt ≤ 12) : Met l yX9_tellsApart (.code yX9_tellsApart cX9_tellsApart 3 none :: TBL) ({ frames := 2, cells := 0, slots := 0, locals := 41 }) (va_Pc [.ref a0, .int a1] (fun U => U.heap.size = sz ∧ va_P (dC, dI) vwCl [(a0, .inr (8, [.int a0_0, .int a0_1, .int a0_2, .int a0_3, .ref a0_4, .int a0_5, .int a0_6, .int a0_7, .int a0_8, .int a0_9, .int a0_10, .long a0_11, .int a0_12, .int a0_13, .int a0_14, .int a0_15, .int a0_16, .int a0_17, .ref a0_18, .ref a0_19, .ref a0_20, .ref a0_21, .ref a0_22, .ref a0_23, .ref a0_24, .ref a0_25, .ref a0_26, .ref a0_27, .ref a0_28, .ref a0_29, .ref a0_30, .ref a0_31, .ref a0_32, .ref a0_33, .ref a0_34, .ref a0_35, .long a0_36, .int a0_37, .ref a0_38, .ref a0_39, .int a0_40, .ref a0_41, .ref a0_42, .ref a0_43]))] U.heap ∧ va_K (dC, dI) vwCl [] U ∧ va_D (fun _ => True) [(a0, .inr (8, [.int a0_0, .int a0_1, .int a0_2, .int a0_3, .ref a0_4, .int a0_5, .int a0_6, .int a0_7, .int a0_8, .int a0_9, .int a0_10, .long a0_11, .int a0_12, .int a0_13, .int a0_14, .int a0_15, .int a0_16, .int a0_17, .ref a0_18, .ref a0_19, .ref a0_20, .ref a0_21, .ref a0_22, .ref a0_23, .ref a0_24, .ref a0_25, .ref a0_26, .ref a0_27, .ref a0_28, .ref a0_29, .ref a0_30, .ref a0_31, .ref a0_32, .ref a0_33, .ref a0_34, .ref a0_35, .long a0_36, .int a0_37, .ref a0_38, .ref a0_39, .int a0_40, .ref a0_41, .ref a0_42, .ref a0_43]))] ∧ Ev g (va_A [(a0, .inr (8, [.int a0_0, .int a0_1, .int a0_2, .int a0_3, .ref a0_4, .int a0_5, .int a0_6, .int a0_7, .int a0_8, .int a0_9, .int a0_10, .long a0_11, .int a0_12, .int a0_13, .int a0_14, .int a0_15, .int a0_16, .int a0_17, .ref a0_18, .ref a0_19, .ref a0_20, .ref a0_21, .ref a0_22, .ref a0_23, .ref a0_24, .ref a0_25, .ref a0_26, .ref a0_27, .ref a0_28, .ref a0_29, .ref a0_30, .ref a0_31, .ref a0_32, .ref a0_33, .ref a0_34, .ref a0_35, .long a0_36, .int a0_37, .ref a0_38, .ref a0_39, .int a0_40, .ref a0_41, .ref a0_42, .ref a0_43]))] sz) U)) (va_Qv (fun (_ : Unit) => True) (fun (_ : Unit) (t : State) => ∃ (za0_1 : Int32) (za0_2 : Int32) (za0_3 : Int32), va_P (dC, dI) vwCl [(a0, .inr (8, [.int a0_0, .int za0_1, .int za0_2, .int za0_3, .ref a0_4, .int a0_5, .int a0_6, .int a0_7, .int a0_8, .int a0_9, .int a0_10, .long a0_11, .int a0_12, .int a0_13, .int a0_14, .int a0_15, .int a0_16, .int a0_17, .ref a0_18, .ref a0_19, .ref a0_20, .ref a0_21, .ref a0_22, .ref a0_23, .ref a0_24, .ref a0_25, .ref a0_26, .ref a0_27, .ref a0_28, .ref a0_29, .ref a0_30, .ref a0_31, .ref a0_32, .ref a0_33, .ref a0_34, .ref a0_35, .long a0_36, .int a0_37, .ref a0_38, .ref a0_39, .int a0_40, .ref a0_41, .ref a0_42, .ref a0_43]))] t.heap ∧ va_K (dC, dI) vwCl [] t ∧ va_D (va_A [(a0, .inr (8, [.int a0_0, .int a0_1, .int a0_2, .int a0_3, .ref a0_4, .int a0_5, .int a0_6, .int a0_7, .int a0_8, .int a0_9, .int a0_10, .long a0_11, .int a0_12, .int a0_13, .int a0_14, .int a0_15, .int a0_16, .int a0_17, .ref a0_18, .ref a0_19, .ref a0_20, .ref a0_21, .ref a0_22, .ref a0_23, .ref a0_24, .ref a0_25, .ref a0_26, .ref a0_27, .ref a0_28, .ref a0_29, .ref a0_30, .ref a0_31, .ref a0_32, .ref a0_33, .ref a0_34, .ref a0_35, .long a0_36, .int a0_37, .ref a0_38, .ref a0_39, .int a0_40, .ref a0_41, .ref a0_42, .ref a0_43]))] sz) [(a0, .inr (8, [.int a0_0, .int za0_1, .int za0_2, .int za0_3, .ref a0_4, .int a0_5, .int a0_6, .int a0_7, .int a0_8, .int a0_9, .int a0_10, .long a0_11, .int a0_12, .int a0_13, .int a0_14, .int a0_15, .int a0_16, .int a0_17, .ref a0_18, .ref a0_19, .ref a0_20, .ref a0_21, .ref a0_22, .ref a0_23, .ref a0_24, .ref a0_25, .ref a0_26, .ref a0_27, .ref a0_28, .ref a0_29, .ref a0_30, .ref a0_31, .ref a0_32, .ref a0_33, .ref a0_34, .ref a0_35, .long a0_36, .int a0_37, .ref a0_38, .ref a0_39, .int a0_40, .ref a0_41, .ref a0_42, .ref a0_43]))]) (va_A [(a0, .inr (8, [.int a0_0, .int a0_1, .int a0_2, .int a0_3, .ref a0_4, .int a0_5, .int a0_6, .int a0_7, .int a0_8, .int a0_9, .int a0_10, .long a0_11, .int a0_12, .int a0_13, .int a0_14, .int a0_15, .int a0_16, .int a0_17, .ref a0_18, .ref a0_19, .ref a0_20, .ref a0_21, .ref a0_22, .ref a0_23, .ref a0_24, .ref a0_25, .ref a0_26, .ref a0_27, .ref a0_28, .ref a0_29, .ref a0_30, .ref a0_31, .ref a0_32, .ref a0_33, .ref a0_34, .ref a0_35, .long a0_36, .int a0_37, .ref a0_38, .ref a0_39, .int a0_40, .ref a0_41, .ref a0_42, .ref a0_43]))] sz)) 0 0 (va_A [(a0, .inr (8, [.int a0_0, .int a0_1, .int a0_2, .int a0_3, .ref a0_4, .int a0_5, .int a0_6, .int a0_7, .int a0_8, .int a0_9, .int a0_10, .long a0_11, .int a0_12, .int a0_13, .int a0_14, .int a0_15, .int a0_16, .int a0_17, .ref a0_18, .ref a0_19, .ref a0_20, .ref a0_21, .ref a0_22, .ref a0_23, .ref a0_24, .ref a0_25, .ref a0_26, .ref a0_27, .ref a0_28, .ref a0_29, .ref a0_30, .ref a0_31, .ref a0_32, .ref a0_33, .ref a0_34, .ref a0_35, .long a0_36, .int a0_37, .ref a0_38, .ref a0_39, .int a0_40, .ref a0_41, .ref a0_42, .ref a0_43]))] sz) := by
  refine Met.ofW (cc := cX9_tellsApart) (maxL := 3) (ret := none) (by decide) rfl ?_
  intro p e s m args below meth c s₁ B hml hv
  obtain ⟨rfl, hsz, hP, hK, hD0, hE⟩ := hv
  have hx := B.exec
  have hb := B.bytes
  have hr := B.returns
  have hts0 := atoms_spec (ws := (.code yX9_tellsApart cX9_tellsApart 3 none :: TBL)) B.pre
  have hts := fun (w : Cond) (h : w ∈ TBL) => hts0 w (List.mem_cons_of_mem _ h)
  have hown : s.vm.findClass RX9 = some m.cls := findClass_of_methodNamed B.named
  have hlocks := B.notSynchronized
  have hN := hE.1
  subst hsz
  have hD := hD0.self (sz := s.heap.size)
  generalize hAe : va_A [(a0, .inr (8, [.int a0_0, .int a0_1, .int a0_2, .int a0_3, .ref a0_4, .int a0_5, .int a0_6, .int a0_7, .int a0_8, .int a0_9, .int a0_10, .long a0_11, .int a0_12, .int a0_13, .int a0_14, .int a0_15, .int a0_16, .int a0_17, .ref a0_18, .ref a0_19, .ref a0_20, .ref a0_21, .ref a0_22, .ref a0_23, .ref a0_24, .ref a0_25, .ref a0_26, .ref a0_27, .ref a0_28, .ref a0_29, .ref a0_30, .ref a0_31, .ref a0_32, .ref a0_33, .ref a0_34, .ref a0_35, .long a0_36, .int a0_37, .ref a0_38, .ref a0_39, .int a0_40, .ref a0_41, .ref a0_42, .ref a0_43]))] s.heap.size = A at hD hE ⊢
  have hA : ∀ q : Nat, s.heap.size ≤ q → A q := fun q h => by rw [← hAe]; exact Or.inr h
  have hS : va_S A s.heap s.heap [] := va_S.rf
  replace hP : va_P (dC, dI) vwCl [(a0, .inr (8, [.int a0_0, .int a0_1, .int a0_2, .int a0_3, .ref a0_4, .int a0_5, .int a0_6, .int a0_7, .int a0_8, .int a0_9, .int a0_10, .long a0_11, .int a0_12, .int a0_13, .int a0_14, .int a0_15, .int a0_16, .int a0_17, .ref a0_18, .ref a0_19, .ref a0_20, .ref a0_21, .ref a0_22, .ref a0_23, .ref a0_24, .ref a0_25, .ref a0_26, .ref a0_27, .ref a0_28, .ref a0_29, .ref a0_30, .ref a0_31, .ref a0_32, .ref a0_33, .ref a0_34, .ref a0_35, .long a0_36, .int a0_37, .ref a0_38, .ref a0_39, .int a0_40, .ref a0_41, .ref a0_42, .ref a0_43]))] s.heap := hP
  have hl := lv_entry ([.ref a0, .int a1]) (n := 3) (Nat.le_of_ble_eq_true rfl)
  rw [lg_entry_eq]
  generalize (lg_sl ([.ref a0, .int a1]) ++ List.replicate (3 - (lg_sl ([.ref a0, .int a1])).length) Slot.unset).toArray = ls at hl ⊢
  have hl : lv_has ls 3 [(0, .ref a0), (1, .int a1)] := hl
  have b_a1 := i32b a1
  have b_a0_0 := i32b a0_0
  have b_a0_1 := i32b a0_1
  have b_a0_2 := i32b a0_2
  have b_a0_3 := i32b a0_3
  have b_a0_9 := i32b a0_9
  have b_a0_10 := i32b a0_10
  have b_a0_12 := i32b a0_12
  have b_a0_13 := i32b a0_13
  have b_a0_14 := i32b a0_14
  have b_a0_15 := i32b a0_15
  have b_a0_16 := i32b a0_16
  refine lv_iload_n hx hb dX9_tellsApart_0 rfl (lv_at hl 1 rfl) ?_
  refine lv_istore_n (lv' := [(2, .int a1), (0, .ref a0), (1, .int a1)]) hx hb dX9_tellsApart_1 rfl hl (by decide) rfl (fun ls hl => ?_)
  refine lv_aload_n hx hb dX9_tellsApart_2 rfl (lv_at hl 1 rfl) ?_
  refine lv_sipush (v := 1700) hx hb dX9_tellsApart_3 (by decide) ?_
  refine va_put (D := (dC, dI)) (ci := 8) (v := .int 1700) (ty := .int) (C := RX9) (T := TX9) (N := 44) hx hb hts inlX9 tyX9 tyX9_ok nmX9 hown hK hP hD hS 0 rgL1_f9e15c6 rfl 1 (by decide) (hts (.fieldLink RX9 101 "ClosedUntilModel" "year" "I") qw_395) (fun _ h9 => h9) rfl (by decide +kernel) rfl rfl (Nat.le_of_ble_eq_true rfl) dX9_tellsApart_6 (fun H locs hP9 hD9 hS9 => ?_)
  clear hP hD hS
  obtain ⟨hP, hD⟩ := rgS1_4a8b427 (e := (a0, .inr (8, [.int a0_0, .int 1700, .int a0_2, .int a0_3, .ref a0_4, .int a0_5, .int a0_6, .int a0_7, .int a0_8, .int a0_9, .int a0_10, .long a0_11, .int a0_12, .int a0_13, .int a0_14, .int a0_15, .int a0_16, .int a0_17, .ref a0_18, .ref a0_19, .ref a0_20, .ref a0_21, .ref a0_22, .ref a0_23, .ref a0_24, .ref a0_25, .ref a0_26, .ref a0_27, .ref a0_28, .ref a0_29, .ref a0_30, .ref a0_31, .ref a0_32, .ref a0_33, .ref a0_34, .ref a0_35, .long a0_36, .int a0_37, .ref a0_38, .ref a0_39, .int a0_40, .ref a0_41, .ref a0_42, .ref a0_43]))) hP9 hD9 rfl
  have hS := hS9; clear hP9 hD9 hS9
  have qc1700 : (1700 : Int32).toInt = 1700 := by decide
  refine wloop (fun n H locs ls => ∃ (l9_2 : Int32) (f9_0_1 : Int32), n = (l9_2.toInt).toNat ∧ lv_has ls 3 [(2, .int l9_2), (0, .ref a0), (1, .int a1)] ∧ va_P (dC, dI) vwCl [(a0, .inr (8, [.int a0_0, .int f9_0_1, .int a0_2, .int a0_3, .ref a0_4, .int a0_5, .int a0_6, .int a0_7, .int a0_8, .int a0_9, .int a0_10, .long a0_11, .int a0_12, .int a0_13, .int a0_14, .int a0_15, .int a0_16, .int a0_17, .ref a0_18, .ref a0_19, .ref a0_20, .ref a0_21, .ref a0_22, .ref a0_23, .ref a0_24, .ref a0_25, .ref a0_26, .ref a0_27, .ref a0_28, .ref a0_29, .ref a0_30, .ref a0_31, .ref a0_32, .ref a0_33, .ref a0_34, .ref a0_35, .long a0_36, .int a0_37, .ref a0_38, .ref a0_39, .int a0_40, .ref a0_41, .ref a0_42, .ref a0_43]))] H ∧ va_D A [(a0, .inr (8, [.int a0_0, .int f9_0_1, .int a0_2, .int a0_3, .ref a0_4, .int a0_5, .int a0_6, .int a0_7, .int a0_8, .int a0_9, .int a0_10, .long a0_11, .int a0_12, .int a0_13, .int a0_14, .int a0_15, .int a0_16, .int a0_17, .ref a0_18, .ref a0_19, .ref a0_20, .ref a0_21, .ref a0_22, .ref a0_23, .ref a0_24, .ref a0_25, .ref a0_26, .ref a0_27, .ref a0_28, .ref a0_29, .ref a0_30, .ref a0_31, .ref a0_32, .ref a0_33, .ref a0_34, .ref a0_35, .long a0_36, .int a0_37, .ref a0_38, .ref a0_39, .int a0_40, .ref a0_41, .ref a0_42, .ref a0_43]))] ∧ va_S A s.heap H locs) ?_ ((a1.toInt).toNat) _ _ _ ⟨a1, 1700, rfl, lv_sub hl [0, 1, 2] rfl, hP, hD, hS⟩
  intro n9 H locs ls hI ih9
  obtain ⟨l9_2, f9_0_1, hn9, hl, hP, hD, hS⟩ := hI
  have b_l9_2 := i32b l9_2
  have b_f9_0_1 := i32b f9_0_1
  refine lv_iload_n hx hb dX9_tellsApart_9 rfl (lv_at hl 0 rfl) ?_
  refine lv_aload_n hx hb dX9_tellsApart_10 rfl (lv_at hl 1 rfl) ?_
  refine va_get (D := (dC, dI)) (ci := 8) (v := .int f9_0_1) (C := RX9) (T := TX9) (N := 44) hx hb hts inlX9 hown hK hP 0 rgL1_f9e15c6 rfl 1 (by decide) (hts (.fieldLink RX9 101 "ClosedUntilModel" "year" "I") qw_395) (fun _ h9 => h9) rfl dX9_tellsApart_11 ?_
  have hPc := (rgP1_e1bfc9f hP)
  have hKc := hK
  refine vp_callSi ((va_runS (As := [.int f9_0_1]) (rest := [.int l9_2]) ⟨hx, hb, hml, hown, hts⟩ (k_X9_isLeap l dC dI g (f9_0_1) ) (va_cwS 1 hts (gwS qw_387 qw_388 qw_386 qw_385) rfl rfl rfl (by decide +kernel) ⟨Nat.le_of_ble_eq_true rfl, Nat.le_of_ble_eq_true rfl⟩) ⟨fun a U g9 mk q => ⟨q.1, q.2.1, va_K.moved (u := U) (U := U.calling g9 mk a) (Vm.Alike.refl U.vm) q.2.2.1, Ev.bl q.2.2.2⟩, fun U hU hW => ⟨rfl, atB hU hPc, va_K.moved hW.alike hKc, hE.go hS (fun _ h => h.elim) hU hW⟩⟩ rfl rfl hl.1 rfl (lv_room (Nat.le_of_ble_eq_true rfl)) dX9_tellsApart_14 ⟨Nat.le_of_ble_eq_true rfl, Nat.le_of_ble_eq_true rfl⟩)).run (fun r1 h_r1 => ?_)
  have h_r1 : (r1 = 0 ∨ r1 = 1) := h_r1
  have b_r1 := z01 (show r1 = 0 ∨ r1 = 1 from h_r1)
  refine lv_if_eq (tgt := 26) hx hb dX9_tellsApart_17 (by decide) (fun c17_2 => ?_) (fun c17_2 => ?_)
  · have c17_2 : r1.toInt = 0 := (cv_eq rfl (by decide)).mp c17_2
    refine lv_sipush (v := 365) hx hb dX9_tellsApart_26 (by decide) ?_
    refine lv_icmp_lt (tgt := 67) hx hb dX9_tellsApart_29 (by decide) (fun c29_3 => ?_) (fun c29_3 => ?_)
    · have c29_3 : l9_2.toInt < 365 := (cv_lt rfl (by decide)).mp c29_3
      refine lv_aload_n hx hb dX9_tellsApart_67 rfl (lv_at hl 1 rfl) ?_
      refine lv_iconst (v := 1) hx hb dX9_tellsApart_68 (by decide) ?_
      refine va_put (D := (dC, dI)) (ci := 8) (v := .int 1) (ty := .int) (C := RX9) (T := TX9) (N := 44) hx hb hts inlX9 tyX9 tyX9_ok nmX9 hown hK hP hD hS 0 rgL1_f9e15c6 rfl 2 (by decide) (hts (.fieldLink RX9 104 "ClosedUntilModel" "month" "I") qw_396) (fun _ h9 => h9) rfl (by decide +kernel) rfl rfl (Nat.le_of_ble_eq_true rfl) dX9_tellsApart_69 (fun H locs hP9 hD9 hS9 => ?_)
      clear hP hD hS
      obtain ⟨hP, hD⟩ := rgS1_4a8b427 (e := (a0, .inr (8, [.int a0_0, .int f9_0_1, .int 1, .int a0_3, .ref a0_4, .int a0_5, .int a0_6, .int a0_7, .int a0_8, .int a0_9, .int a0_10, .long a0_11, .int a0_12, .int a0_13, .int a0_14, .int a0_15, .int a0_16, .int a0_17, .ref a0_18, .ref a0_19, .ref a0_20, .ref a0_21, .ref a0_22, .ref a0_23, .ref a0_24, .ref a0_25, .ref a0_26, .ref a0_27, .ref a0_28, .ref a0_29, .ref a0_30, .ref a0_31, .ref a0_32, .ref a0_33, .ref a0_34, .ref a0_35, .long a0_36, .int a0_37, .ref a0_38, .ref a0_39, .int a0_40, .ref a0_41, .ref a0_42, .ref a0_43]))) hP9 hD9 rfl
      have hS := hS9; clear hP9 hD9 hS9
      have qc1 : (1 : Int32).toInt = 1 := by decide
      refine wloop (fun n H locs ls => ∃ (l72_2 : Int32) (f72_0_2 : Int32), n = (l72_2.toInt).toNat ∧ lv_has ls 3 [(2, .int l72_2), (0, .ref a0), (1, .int a1)] ∧ va_P (dC, dI) vwCl [(a0, .inr (8, [.int a0_0, .int f9_0_1, .int f72_0_2, .int a0_3, .ref a0_4, .int a0_5, .int a0_6, .int a0_7, .int a0_8, .int a0_9, .int a0_10, .long a0_11, .int a0_12, .int a0_13, .int a0_14, .int a0_15, .int a0_16, .int a0_17, .ref a0_18, .ref a0_19, .ref a0_20, .ref a0_21, .ref a0_22, .ref a0_23, .ref a0_24, .ref a0_25, .ref a0_26, .ref a0_27, .ref a0_28, .ref a0_29, .ref a0_30, .ref a0_31, .ref a0_32, .ref a0_33, .ref a0_34, .ref a0_35, .long a0_36, .int a0_37, .ref a0_38, .ref a0_39, .int a0_40, .ref a0_41, .ref a0_42, .ref a0_43]))] H ∧ va_D A [(a0, .inr (8, [.int a0_0, .int f9_0_1, .int f72_0_2, .int a0_3, .ref a0_4, .int a0_5, .int a0_6, .int a0_7, .int a0_8, .int a0_9, .int a0_10, .long a0_11, .int a0_12, .int a0_13, .int a0_14, .int a0_15, .int a0_16, .int a0_17, .ref a0_18, .ref a0_19, .ref a0_20, .ref a0_21, .ref a0_22, .ref a0_23, .ref a0_24, .ref a0_25, .ref a0_26, .ref a0_27, .ref a0_28, .ref a0_29, .ref a0_30, .ref a0_31, .ref a0_32, .ref a0_33, .ref a0_34, .ref a0_35, .long a0_36, .int a0_37, .ref a0_38, .ref a0_39, .int a0_40, .ref a0_41, .ref a0_42, .ref a0_43]))] ∧ va_S A s.heap H locs) ?_ ((l9_2.toInt).toNat) _ _ _ ⟨l9_2, 1, rfl, lv_sub hl [0, 1, 2] rfl, hP, hD, hS⟩
      intro n72 H locs ls hI ih72
      obtain ⟨l72_2, f72_0_2, hn72, hl, hP, hD, hS⟩ := hI
      have b_l72_2 := i32b l72_2
      have b_f72_0_2 := i32b f72_0_2
      refine lv_iload_n hx hb dX9_tellsApart_72 rfl (lv_at hl 0 rfl) ?_
      refine lv_aload_n hx hb dX9_tellsApart_73 rfl (lv_at hl 1 rfl) ?_
      refine va_get (D := (dC, dI)) (ci := 8) (v := .int f9_0_1) (C := RX9) (T := TX9) (N := 44) hx hb hts inlX9 hown hK hP 0 rgL1_f9e15c6 rfl 1 (by decide) (hts (.fieldLink RX9 101 "ClosedUntilModel" "year" "I") qw_395) (fun _ h9 => h9) rfl dX9_tellsApart_74 ?_
      refine lv_aload_n hx hb dX9_tellsApart_77 rfl (lv_at hl 1 rfl) ?_
      refine va_get (D := (dC, dI)) (ci := 8) (v := .int f72_0_2) (C := RX9) (T := TX9) (N := 44) hx hb hts inlX9 hown hK hP 0 rgL1_f9e15c6 rfl 2 (by decide) (hts (.fieldLink RX9 104 "ClosedUntilModel" "month" "I") qw_396) (fun _ h9 => h9) rfl dX9_tellsApart_78 ?_
      have hPc := (rgP1_e1bfc9f hP)
      have hKc := hK
      refine vp_callSi ((va_runS (As := [.int f9_0_1, .int f72_0_2]) (rest := [.int l72_2]) ⟨hx, hb, hml, hown, hts⟩ (k_X9_daysIn l dC dI g (f9_0_1) (f72_0_2) ) (va_cwS 2 hts (gwS qw_393 qw_394 qw_386 qw_392) rfl rfl rfl (by decide +kernel) ⟨Nat.le_of_ble_eq_true rfl, Nat.le_of_ble_eq_true rfl⟩) ⟨fun a U g9 mk q => ⟨q.1, q.2.1, va_K.moved (u := U) (U := U.calling g9 mk a) (Vm.Alike.refl U.vm) q.2.2.1, Ev.bl q.2.2.2⟩, fun U hU hW => ⟨rfl, atB hU hPc, va_K.moved hW.alike hKc, hE.go hS (fun _ h => h.elim) hU hW⟩⟩ rfl rfl hl.1 rfl (lv_room (Nat.le_of_ble_eq_true rfl)) dX9_tellsApart_81 ⟨Nat.le_of_ble_eq_true rfl, Nat.le_of_ble_eq_true rfl⟩)).run (fun r4 h_r4 => ?_)
      have h_r4 : (28 ≤ r4.toInt ∧ r4.toInt ≤ 31) := h_r4
      refine lv_icmp_lt (tgt := 114) hx hb dX9_tellsApart_84 (by decide) (fun c84_5 => ?_) (fun c84_5 => ?_)
      · have c84_5 : l72_2.toInt < r4.toInt := (cv_lt rfl rfl).mp c84_5
        refine lv_aload_n hx hb dX9_tellsApart_114 rfl (lv_at hl 1 rfl) ?_
        refine lv_iload_n hx hb dX9_tellsApart_115 rfl (lv_at hl 0 rfl) ?_
        refine lv_iconst (v := 1) hx hb dX9_tellsApart_116 (by decide) ?_
        refine lv_iadd hx hb dX9_tellsApart_117 ?_
        refine lv_topi (fun x6 e_x6 => ?_)
        refine va_put (D := (dC, dI)) (ci := 8) (v := .int x6) (ty := .int) (C := RX9) (T := TX9) (N := 44) hx hb hts inlX9 tyX9 tyX9_ok nmX9 hown hK hP hD hS 0 rgL1_f9e15c6 rfl 3 (by decide) (hts (.fieldLink RX9 107 "ClosedUntilModel" "dayIn" "I") qw_397) (fun _ h9 => h9) rfl (by decide +kernel) rfl rfl (Nat.le_of_ble_eq_true rfl) dX9_tellsApart_118 (fun H locs hP9 hD9 hS9 => ?_)
        clear hP hD hS
        obtain ⟨hP, hD⟩ := rgS1_4a8b427 (e := (a0, .inr (8, [.int a0_0, .int f9_0_1, .int f72_0_2, .int x6, .ref a0_4, .int a0_5, .int a0_6, .int a0_7, .int a0_8, .int a0_9, .int a0_10, .long a0_11, .int a0_12, .int a0_13, .int a0_14, .int a0_15, .int a0_16, .int a0_17, .ref a0_18, .ref a0_19, .ref a0_20, .ref a0_21, .ref a0_22, .ref a0_23, .ref a0_24, .ref a0_25, .ref a0_26, .ref a0_27, .ref a0_28, .ref a0_29, .ref a0_30, .ref a0_31, .ref a0_32, .ref a0_33, .ref a0_34, .ref a0_35, .long a0_36, .int a0_37, .ref a0_38, .ref a0_39, .int a0_40, .ref a0_41, .ref a0_42, .ref a0_43]))) hP9 hD9 rfl
        have hS := hS9; clear hP9 hD9 hS9
        refine W.widen (k := 0) (n := 0) (Nat.le_of_ble_eq_true rfl) (Nat.le_of_ble_eq_true rfl) ?_
        have hP9 := hP
        have hD9 := hD
        have hK9 := hK
        exact W.vret hx hb hr (fun t ht hW => ⟨⟨(), rfl, trivial, f9_0_1, f72_0_2, x6, atB ht hP9, va_K.moved hW.alike hK9, hD9⟩, hS.F ht⟩) hS.2.2 dX9_tellsApart_121
      · have c84_5 : ¬ (l72_2.toInt < r4.toInt) := mt (cv_lt rfl rfl).mpr c84_5
        refine lv_iload_n hx hb dX9_tellsApart_87 rfl (lv_at hl 0 rfl) ?_
        refine lv_aload_n hx hb dX9_tellsApart_88 rfl (lv_at hl 1 rfl) ?_
        refine va_get (D := (dC, dI)) (ci := 8) (v := .int f9_0_1) (C := RX9) (T := TX9) (N := 44) hx hb hts inlX9 hown hK hP 0 rgL1_f9e15c6 rfl 1 (by decide) (hts (.fieldLink RX9 101 "ClosedUntilModel" "year" "I") qw_395) (fun _ h9 => h9) rfl dX9_tellsApart_89 ?_
        refine lv_aload_n hx hb dX9_tellsApart_92 rfl (lv_at hl 1 rfl) ?_
        refine va_get (D := (dC, dI)) (ci := 8) (v := .int f72_0_2) (C := RX9) (T := TX9) (N := 44) hx hb hts inlX9 hown hK hP 0 rgL1_f9e15c6 rfl 2 (by decide) (hts (.fieldLink RX9 104 "ClosedUntilModel" "month" "I") qw_396) (fun _ h9 => h9) rfl dX9_tellsApart_93 ?_
        have hPc := (rgP1_e1bfc9f hP)
        have hKc := hK
        refine vp_callSi ((va_runS (As := [.int f9_0_1, .int f72_0_2]) (rest := [.int l72_2]) ⟨hx, hb, hml, hown, hts⟩ (k_X9_daysIn l dC dI g (f9_0_1) (f72_0_2) ) (va_cwS 2 hts (gwS qw_393 qw_394 qw_386 qw_392) rfl rfl rfl (by decide +kernel) ⟨Nat.le_of_ble_eq_true rfl, Nat.le_of_ble_eq_true rfl⟩) ⟨fun a U g9 mk q => ⟨q.1, q.2.1, va_K.moved (u := U) (U := U.calling g9 mk a) (Vm.Alike.refl U.vm) q.2.2.1, Ev.bl q.2.2.2⟩, fun U hU hW => ⟨rfl, atB hU hPc, va_K.moved hW.alike hKc, hE.go hS (fun _ h => h.elim) hU hW⟩⟩ rfl rfl hl.1 rfl (lv_room (Nat.le_of_ble_eq_true rfl)) dX9_tellsApart_96 ⟨Nat.le_of_ble_eq_true rfl, Nat.le_of_ble_eq_true rfl⟩)).run (fun r7 h_r7 => ?_)
        have h_r7 : (28 ≤ r7.toInt ∧ r7.toInt ≤ 31) := h_r7
        refine lv_isub hx hb dX9_tellsApart_99 ?_
        refine lv_topi (fun x8 e_x8 => ?_)
        try have e_x8 := ti_sub e_x8 rfl rfl (by omega)
        refine lv_istore_n (lv' := [(2, .int x8), (0, .ref a0), (1, .int a1)]) hx hb dX9_tellsApart_100 rfl hl (by decide) rfl (fun ls hl => ?_)
        refine lv_aload_n hx hb dX9_tellsApart_101 rfl (lv_at hl 1 rfl) ?_
        refine lv_dup hx hb dX9_tellsApart_102 rfl ?_
        refine va_get (D := (dC, dI)) (ci := 8) (v := .int f72_0_2) (C := RX9) (T := TX9) (N := 44) hx hb hts inlX9 hown hK hP 0 rgL1_f9e15c6 rfl 2 (by decide) (hts (.fieldLink RX9 104 "ClosedUntilModel" "month" "I") qw_396) (fun _ h9 => h9) rfl dX9_tellsApart_103 ?_
        refine lv_iconst (v := 1) hx hb dX9_tellsApart_106 (by decide) ?_
        refine lv_iadd hx hb dX9_tellsApart_107 ?_
        refine lv_topi (fun x9 e_x9 => ?_)
        refine va_put (D := (dC, dI)) (ci := 8) (v := .int x9) (ty := .int) (C := RX9) (T := TX9) (N := 44) hx hb hts inlX9 tyX9 tyX9_ok nmX9 hown hK hP hD hS 0 rgL1_f9e15c6 rfl 2 (by decide) (hts (.fieldLink RX9 104 "ClosedUntilModel" "month" "I") qw_396) (fun _ h9 => h9) rfl (by decide +kernel) rfl rfl (Nat.le_of_ble_eq_true rfl) dX9_tellsApart_108 (fun H locs hP9 hD9 hS9 => ?_)
        clear hP hD hS
        obtain ⟨hP, hD⟩ := rgS1_4a8b427 (e := (a0, .inr (8, [.int a0_0, .int f9_0_1, .int x9, .int a0_3, .ref a0_4, .int a0_5, .int a0_6, .int a0_7, .int a0_8, .int a0_9, .int a0_10, .long a0_11, .int a0_12, .int a0_13, .int a0_14, .int a0_15, .int a0_16, .int a0_17, .ref a0_18, .ref a0_19, .ref a0_20, .ref a0_21, .ref a0_22, .ref a0_23, .ref a0_24, .ref a0_25, .ref a0_26, .ref a0_27, .ref a0_28, .ref a0_29, .ref a0_30, .ref a0_31, .ref a0_32, .ref a0_33, .ref a0_34, .ref a0_35, .long a0_36, .int a0_37, .ref a0_38, .ref a0_39, .int a0_40, .ref a0_41, .ref a0_42, .ref a0_43]))) hP9 hD9 rfl
        have hS := hS9; clear hP9 hD9 hS9
        refine lv_goto (tgt := 72) hx hb dX9_tellsApart_111 (by decide) ?_
        exact ih72 ((x8.toInt).toNat) _ _ _ (by omega) ⟨x8, x9, rfl, lv_sub hl [0, 1, 2] rfl, hP, hD, hS⟩
    · have c29_3 : ¬ (l9_2.toInt < 365) := mt (cv_lt rfl (by decide)).mpr c29_3
      refine lv_iload_n hx hb dX9_tellsApart_32 rfl (lv_at hl 0 rfl) ?_
      refine lv_aload_n hx hb dX9_tellsApart_33 rfl (lv_at hl 1 rfl) ?_
      refine va_get (D := (dC, dI)) (ci := 8) (v := .int f9_0_1) (C := RX9) (T := TX9) (N := 44) hx hb hts inlX9 hown hK hP 0 rgL1_f9e15c6 rfl 1 (by decide) (hts (.fieldLink RX9 101 "ClosedUntilModel" "year" "I") qw_395) (fun _ h9 => h9) rfl dX9_tellsApart_34 ?_
      have hPc := (rgP1_e1bfc9f hP)
      have hKc := hK
      refine vp_callSi ((va_runS (As := [.int f9_0_1]) (rest := [.int l9_2]) ⟨hx, hb, hml, hown, hts⟩ (k_X9_isLeap l dC dI g (f9_0_1) ) (va_cwS 1 hts (gwS qw_387 qw_388 qw_386 qw_385) rfl rfl rfl (by decide +kernel) ⟨Nat.le_of_ble_eq_true rfl, Nat.le_of_ble_eq_true rfl⟩) ⟨fun a U g9 mk q => ⟨q.1, q.2.1, va_K.moved (u := U) (U := U.calling g9 mk a) (Vm.Alike.refl U.vm) q.2.2.1, Ev.bl q.2.2.2⟩, fun U hU hW => ⟨rfl, atB hU hPc, va_K.moved hW.alike hKc, hE.go hS (fun _ h => h.elim) hU hW⟩⟩ rfl rfl hl.1 rfl (lv_room (Nat.le_of_ble_eq_true rfl)) dX9_tellsApart_37 ⟨Nat.le_of_ble_eq_true rfl, Nat.le_of_ble_eq_true rfl⟩)).run (fun r10 h_r10 => ?_)
      have h_r10 : (r10 = 0 ∨ r10 = 1) := h_r10
      have b_r10 := z01 (show r10 = 0 ∨ r10 = 1 from h_r10)
      refine lv_if_eq (tgt := 49) hx hb dX9_tellsApart_40 (by decide) (fun c40_11 => ?_) (fun c40_11 => ?_)
      · have c40_11 : r10.toInt = 0 := (cv_eq rfl (by decide)).mp c40_11
        refine lv_sipush (v := 365) hx hb dX9_tellsApart_49 (by decide) ?_
        refine lv_isub hx hb dX9_tellsApart_52 ?_
        refine lv_topi (fun x12 e_x12 => ?_)
        try have e_x12 := ti_sub e_x12 rfl (show (365 : Int32).toInt = 365 by decide) (by omega)
        refine lv_istore_n (lv' := [(2, .int x12), (0, .ref a0), (1, .int a1)]) hx hb dX9_tellsApart_53 rfl hl (by decide) rfl (fun ls hl => ?_)
        refine lv_aload_n hx hb dX9_tellsApart_54 rfl (lv_at hl 1 rfl) ?_
        refine lv_dup hx hb dX9_tellsApart_55 rfl ?_
        refine va_get (D := (dC, dI)) (ci := 8) (v := .int f9_0_1) (C := RX9) (T := TX9) (N := 44) hx hb hts inlX9 hown hK hP 0 rgL1_f9e15c6 rfl 1 (by decide) (hts (.fieldLink RX9 101 "ClosedUntilModel" "year" "I") qw_395) (fun _ h9 => h9) rfl dX9_tellsApart_56 ?_
        refine lv_iconst (v := 1) hx hb dX9_tellsApart_59 (by decide) ?_
        refine lv_iadd hx hb dX9_tellsApart_60 ?_
        refine lv_topi (fun x13 e_x13 => ?_)
        refine va_put (D := (dC, dI)) (ci := 8) (v := .int x13) (ty := .int) (C := RX9) (T := TX9) (N := 44) hx hb hts inlX9 tyX9 tyX9_ok nmX9 hown hK hP hD hS 0 rgL1_f9e15c6 rfl 1 (by decide) (hts (.fieldLink RX9 101 "ClosedUntilModel" "year" "I") qw_395) (fun _ h9 => h9) rfl (by decide +kernel) rfl rfl (Nat.le_of_ble_eq_true rfl) dX9_tellsApart_61 (fun H locs hP9 hD9 hS9 => ?_)
        clear hP hD hS
        obtain ⟨hP, hD⟩ := rgS1_4a8b427 (e := (a0, .inr (8, [.int a0_0, .int x13, .int a0_2, .int a0_3, .ref a0_4, .int a0_5, .int a0_6, .int a0_7, .int a0_8, .int a0_9, .int a0_10, .long a0_11, .int a0_12, .int a0_13, .int a0_14, .int a0_15, .int a0_16, .int a0_17, .ref a0_18, .ref a0_19, .ref a0_20, .ref a0_21, .ref a0_22, .ref a0_23, .ref a0_24, .ref a0_25, .ref a0_26, .ref a0_27, .ref a0_28, .ref a0_29, .ref a0_30, .ref a0_31, .ref a0_32, .ref a0_33, .ref a0_34, .ref a0_35, .long a0_36, .int a0_37, .ref a0_38, .ref a0_39, .int a0_40, .ref a0_41, .ref a0_42, .ref a0_43]))) hP9 hD9 rfl
        have hS := hS9; clear hP9 hD9 hS9
        refine lv_goto (tgt := 9) hx hb dX9_tellsApart_64 (by decide) ?_
        exact ih9 ((x12.toInt).toNat) _ _ _ (by omega) ⟨x12, x13, rfl, lv_sub hl [0, 1, 2] rfl, hP, hD, hS⟩
      · have c40_11 : ¬ (r10.toInt = 0) := mt (cv_eq rfl (by decide)).mpr c40_11
        refine lv_sipush (v := 366) hx hb dX9_tellsApart_43 (by decide) ?_
        refine lv_goto (tgt := 52) hx hb dX9_tellsApart_46 (by decide) ?_
        refine lv_isub hx hb dX9_tellsApart_52 ?_
        refine lv_topi (fun x14 e_x14 => ?_)
        try have e_x14 := ti_sub e_x14 rfl (show (366 : Int32).toInt = 366 by decide) (by omega)
        refine lv_istore_n (lv' := [(2, .int x14), (0, .ref a0), (1, .int a1)]) hx hb dX9_tellsApart_53 rfl hl (by decide) rfl (fun ls hl => ?_)
        refine lv_aload_n hx hb dX9_tellsApart_54 rfl (lv_at hl 1 rfl) ?_
        refine lv_dup hx hb dX9_tellsApart_55 rfl ?_
        refine va_get (D := (dC, dI)) (ci := 8) (v := .int f9_0_1) (C := RX9) (T := TX9) (N := 44) hx hb hts inlX9 hown hK hP 0 rgL1_f9e15c6 rfl 1 (by decide) (hts (.fieldLink RX9 101 "ClosedUntilModel" "year" "I") qw_395) (fun _ h9 => h9) rfl dX9_tellsApart_56 ?_
        refine lv_iconst (v := 1) hx hb dX9_tellsApart_59 (by decide) ?_
        refine lv_iadd hx hb dX9_tellsApart_60 ?_
        refine lv_topi (fun x15 e_x15 => ?_)
        refine va_put (D := (dC, dI)) (ci := 8) (v := .int x15) (ty := .int) (C := RX9) (T := TX9) (N := 44) hx hb hts inlX9 tyX9 tyX9_ok nmX9 hown hK hP hD hS 0 rgL1_f9e15c6 rfl 1 (by decide) (hts (.fieldLink RX9 101 "ClosedUntilModel" "year" "I") qw_395) (fun _ h9 => h9) rfl (by decide +kernel) rfl rfl (Nat.le_of_ble_eq_true rfl) dX9_tellsApart_61 (fun H locs hP9 hD9 hS9 => ?_)
        clear hP hD hS
        obtain ⟨hP, hD⟩ := rgS1_4a8b427 (e := (a0, .inr (8, [.int a0_0, .int x15, .int a0_2, .int a0_3, .ref a0_4, .int a0_5, .int a0_6, .int a0_7, .int a0_8, .int a0_9, .int a0_10, .long a0_11, .int a0_12, .int a0_13, .int a0_14, .int a0_15, .int a0_16, .int a0_17, .ref a0_18, .ref a0_19, .ref a0_20, .ref a0_21, .ref a0_22, .ref a0_23, .ref a0_24, .ref a0_25, .ref a0_26, .ref a0_27, .ref a0_28, .ref a0_29, .ref a0_30, .ref a0_31, .ref a0_32, .ref a0_33, .ref a0_34, .ref a0_35, .long a0_36, .int a0_37, .ref a0_38, .ref a0_39, .int a0_40, .ref a0_41, .ref a0_42, .ref a0_43]))) hP9 hD9 rfl
        have hS := hS9; clear hP9 hD9 hS9
        refine lv_goto (tgt := 9) hx hb dX9_tellsApart_64 (by decide) ?_
        exact ih9 ((x14.toInt).toNat) _ _ _ (by omega) ⟨x14, x15, rfl, lv_sub hl [0, 1, 2] rfl, hP, hD, hS⟩
  · have c17_2 : ¬ (r1.toInt = 0) := mt (cv_eq rfl (by decide)).mpr c17_2
    refine lv_sipush (v := 366) hx hb dX9_tellsApart_20 (by decide) ?_
    refine lv_goto (tgt := 29) hx hb dX9_tellsApart_23 (by decide) ?_
    refine lv_icmp_lt (tgt := 67) hx hb dX9_tellsApart_29 (by decide) (fun c29_16 => ?_) (fun c29_16 => ?_)
    · have c29_16 : l9_2.toInt < 366 := (cv_lt rfl (by decide)).mp c29_16
      refine lv_aload_n hx hb dX9_tellsApart_67 rfl (lv_at hl 1 rfl) ?_
      refine lv_iconst (v := 1) hx hb dX9_tellsApart_68 (by decide) ?_
      refine va_put (D := (dC, dI)) (ci := 8) (v := .int 1) (ty := .int) (C := RX9) (T := TX9) (N := 44) hx hb hts inlX9 tyX9 tyX9_ok nmX9 hown hK hP hD hS 0 rgL1_f9e15c6 rfl 2 (by decide) (hts (.fieldLink RX9 104 "ClosedUntilModel" "month" "I") qw_396) (fun _ h9 => h9) rfl (by decide +kernel) rfl rfl (Nat.le_of_ble_eq_true rfl) dX9_tellsApart_69 (fun H locs hP9 hD9 hS9 => ?_)
      clear hP hD hS
      obtain ⟨hP, hD⟩ := rgS1_4a8b427 (e := (a0, .inr (8, [.int a0_0, .int f9_0_1, .int 1, .int a0_3, .ref a0_4, .int a0_5, .int a0_6, .int a0_7, .int a0_8, .int a0_9, .int a0_10, .long a0_11, .int a0_12, .int a0_13, .int a0_14, .int a0_15, .int a0_16, .int a0_17, .ref a0_18, .ref a0_19, .ref a0_20, .ref a0_21, .ref a0_22, .ref a0_23, .ref a0_24, .ref a0_25, .ref a0_26, .ref a0_27, .ref a0_28, .ref a0_29, .ref a0_30, .ref a0_31, .ref a0_32, .ref a0_33, .ref a0_34, .ref a0_35, .long a0_36, .int a0_37, .ref a0_38, .ref a0_39, .int a0_40, .ref a0_41, .ref a0_42, .ref a0_43]))) hP9 hD9 rfl
      have hS := hS9; clear hP9 hD9 hS9
      have qc1 : (1 : Int32).toInt = 1 := by decide
      refine wloop (fun n H locs ls => ∃ (l72_2 : Int32) (f72_0_2 : Int32), n = (l72_2.toInt).toNat ∧ lv_has ls 3 [(2, .int l72_2), (0, .ref a0), (1, .int a1)] ∧ va_P (dC, dI) vwCl [(a0, .inr (8, [.int a0_0, .int f9_0_1, .int f72_0_2, .int a0_3, .ref a0_4, .int a0_5, .int a0_6, .int a0_7, .int a0_8, .int a0_9, .int a0_10, .long a0_11, .int a0_12, .int a0_13, .int a0_14, .int a0_15, .int a0_16, .int a0_17, .ref a0_18, .ref a0_19, .ref a0_20, .ref a0_21, .ref a0_22, .ref a0_23, .ref a0_24, .ref a0_25, .ref a0_26, .ref a0_27, .ref a0_28, .ref a0_29, .ref a0_30, .ref a0_31, .ref a0_32, .ref a0_33, .ref a0_34, .ref a0_35, .long a0_36, .int a0_37, .ref a0_38, .ref a0_39, .int a0_40, .ref a0_41, .ref a0_42, .ref a0_43]))] H ∧ va_D A [(a0, .inr (8, [.int a0_0, .int f9_0_1, .int f72_0_2, .int a0_3, .ref a0_4, .int a0_5, .int a0_6, .int a0_7, .int a0_8, .int a0_9, .int a0_10, .long a0_11, .int a0_12, .int a0_13, .int a0_14, .int a0_15, .int a0_16, .int a0_17, .ref a0_18, .ref a0_19, .ref a0_20, .ref a0_21, .ref a0_22, .ref a0_23, .ref a0_24, .ref a0_25, .ref a0_26, .ref a0_27, .ref a0_28, .ref a0_29, .ref a0_30, .ref a0_31, .ref a0_32, .ref a0_33, .ref a0_34, .ref a0_35, .long a0_36, .int a0_37, .ref a0_38, .ref a0_39, .int a0_40, .ref a0_41, .ref a0_42, .ref a0_43]))] ∧ va_S A s.heap H locs) ?_ ((l9_2.toInt).toNat) _ _ _ ⟨l9_2, 1, rfl, lv_sub hl [0, 1, 2] rfl, hP, hD, hS⟩
      intro n72 H locs ls hI ih72
      obtain ⟨l72_2, f72_0_2, hn72, hl, hP, hD, hS⟩ := hI
      have b_l72_2 := i32b l72_2
      have b_f72_0_2 := i32b f72_0_2
      refine lv_iload_n hx hb dX9_tellsApart_72 rfl (lv_at hl 0 rfl) ?_
      refine lv_aload_n hx hb dX9_tellsApart_73 rfl (lv_at hl 1 rfl) ?_
      refine va_get (D := (dC, dI)) (ci := 8) (v := .int f9_0_1) (C := RX9) (T := TX9) (N := 44) hx hb hts inlX9 hown hK hP 0 rgL1_f9e15c6 rfl 1 (by decide) (hts (.fieldLink RX9 101 "ClosedUntilModel" "year" "I") qw_395) (fun _ h9 => h9) rfl dX9_tellsApart_74 ?_
      refine lv_aload_n hx hb dX9_tellsApart_77 rfl (lv_at hl 1 rfl) ?_
      refine va_get (D := (dC, dI)) (ci := 8) (v := .int f72_0_2) (C := RX9) (T := TX9) (N := 44) hx hb hts inlX9 hown hK hP 0 rgL1_f9e15c6 rfl 2 (by decide) (hts (.fieldLink RX9 104 "ClosedUntilModel" "month" "I") qw_396) (fun _ h9 => h9) rfl dX9_tellsApart_78 ?_
      have hPc := (rgP1_e1bfc9f hP)
      have hKc := hK
      refine vp_callSi ((va_runS (As := [.int f9_0_1, .int f72_0_2]) (rest := [.int l72_2]) ⟨hx, hb, hml, hown, hts⟩ (k_X9_daysIn l dC dI g (f9_0_1) (f72_0_2) ) (va_cwS 2 hts (gwS qw_393 qw_394 qw_386 qw_392) rfl rfl rfl (by decide +kernel) ⟨Nat.le_of_ble_eq_true rfl, Nat.le_of_ble_eq_true rfl⟩) ⟨fun a U g9 mk q => ⟨q.1, q.2.1, va_K.moved (u := U) (U := U.calling g9 mk a) (Vm.Alike.refl U.vm) q.2.2.1, Ev.bl q.2.2.2⟩, fun U hU hW => ⟨rfl, atB hU hPc, va_K.moved hW.alike hKc, hE.go hS (fun _ h => h.elim) hU hW⟩⟩ rfl rfl hl.1 rfl (lv_room (Nat.le_of_ble_eq_true rfl)) dX9_tellsApart_81 ⟨Nat.le_of_ble_eq_true rfl, Nat.le_of_ble_eq_true rfl⟩)).run (fun r17 h_r17 => ?_)
      have h_r17 : (28 ≤ r17.toInt ∧ r17.toInt ≤ 31) := h_r17
      refine lv_icmp_lt (tgt := 114) hx hb dX9_tellsApart_84 (by decide) (fun c84_18 => ?_) (fun c84_18 => ?_)
      · have c84_18 : l72_2.toInt < r17.toInt := (cv_lt rfl rfl).mp c84_18
        refine lv_aload_n hx hb dX9_tellsApart_114 rfl (lv_at hl 1 rfl) ?_
        refine lv_iload_n hx hb dX9_tellsApart_115 rfl (lv_at hl 0 rfl) ?_
        refine lv_iconst (v := 1) hx hb dX9_tellsApart_116 (by decide) ?_
        refine lv_iadd hx hb dX9_tellsApart_117 ?_
        refine lv_topi (fun x19 e_x19 => ?_)
        refine va_put (D := (dC, dI)) (ci := 8) (v := .int x19) (ty := .int) (C := RX9) (T := TX9) (N := 44) hx hb hts inlX9 tyX9 tyX9_ok nmX9 hown hK hP hD hS 0 rgL1_f9e15c6 rfl 3 (by decide) (hts (.fieldLink RX9 107 "ClosedUntilModel" "dayIn" "I") qw_397) (fun _ h9 => h9) rfl (by decide +kernel) rfl rfl (Nat.le_of_ble_eq_true rfl) dX9_tellsApart_118 (fun H locs hP9 hD9 hS9 => ?_)
        clear hP hD hS
        obtain ⟨hP, hD⟩ := rgS1_4a8b427 (e := (a0, .inr (8, [.int a0_0, .int f9_0_1, .int f72_0_2, .int x19, .ref a0_4, .int a0_5, .int a0_6, .int a0_7, .int a0_8, .int a0_9, .int a0_10, .long a0_11, .int a0_12, .int a0_13, .int a0_14, .int a0_15, .int a0_16, .int a0_17, .ref a0_18, .ref a0_19, .ref a0_20, .ref a0_21, .ref a0_22, .ref a0_23, .ref a0_24, .ref a0_25, .ref a0_26, .ref a0_27, .ref a0_28, .ref a0_29, .ref a0_30, .ref a0_31, .ref a0_32, .ref a0_33, .ref a0_34, .ref a0_35, .long a0_36, .int a0_37, .ref a0_38, .ref a0_39, .int a0_40, .ref a0_41, .ref a0_42, .ref a0_43]))) hP9 hD9 rfl
        have hS := hS9; clear hP9 hD9 hS9
        refine W.widen (k := 0) (n := 0) (Nat.le_of_ble_eq_true rfl) (Nat.le_of_ble_eq_true rfl) ?_
        have hP9 := hP
        have hD9 := hD
        have hK9 := hK
        exact W.vret hx hb hr (fun t ht hW => ⟨⟨(), rfl, trivial, f9_0_1, f72_0_2, x19, atB ht hP9, va_K.moved hW.alike hK9, hD9⟩, hS.F ht⟩) hS.2.2 dX9_tellsApart_121
      · have c84_18 : ¬ (l72_2.toInt < r17.toInt) := mt (cv_lt rfl rfl).mpr c84_18
        refine lv_iload_n hx hb dX9_tellsApart_87 rfl (lv_at hl 0 rfl) ?_
        refine lv_aload_n hx hb dX9_tellsApart_88 rfl (lv_at hl 1 rfl) ?_
        refine va_get (D := (dC, dI)) (ci := 8) (v := .int f9_0_1) (C := RX9) (T := TX9) (N := 44) hx hb hts inlX9 hown hK hP 0 rgL1_f9e15c6 rfl 1 (by decide) (hts (.fieldLink RX9 101 "ClosedUntilModel" "year" "I") qw_395) (fun _ h9 => h9) rfl dX9_tellsApart_89 ?_
        refine lv_aload_n hx hb dX9_tellsApart_92 rfl (lv_at hl 1 rfl) ?_
        refine va_get (D := (dC, dI)) (ci := 8) (v := .int f72_0_2) (C := RX9) (T := TX9) (N := 44) hx hb hts inlX9 hown hK hP 0 rgL1_f9e15c6 rfl 2 (by decide) (hts (.fieldLink RX9 104 "ClosedUntilModel" "month" "I") qw_396) (fun _ h9 => h9) rfl dX9_tellsApart_93 ?_
        have hPc := (rgP1_e1bfc9f hP)
        have hKc := hK
        refine vp_callSi ((va_runS (As := [.int f9_0_1, .int f72_0_2]) (rest := [.int l72_2]) ⟨hx, hb, hml, hown, hts⟩ (k_X9_daysIn l dC dI g (f9_0_1) (f72_0_2) ) (va_cwS 2 hts (gwS qw_393 qw_394 qw_386 qw_392) rfl rfl rfl (by decide +kernel) ⟨Nat.le_of_ble_eq_true rfl, Nat.le_of_ble_eq_true rfl⟩) ⟨fun a U g9 mk q => ⟨q.1, q.2.1, va_K.moved (u := U) (U := U.calling g9 mk a) (Vm.Alike.refl U.vm) q.2.2.1, Ev.bl q.2.2.2⟩, fun U hU hW => ⟨rfl, atB hU hPc, va_K.moved hW.alike hKc, hE.go hS (fun _ h => h.elim) hU hW⟩⟩ rfl rfl hl.1 rfl (lv_room (Nat.le_of_ble_eq_true rfl)) dX9_tellsApart_96 ⟨Nat.le_of_ble_eq_true rfl, Nat.le_of_ble_eq_true rfl⟩)).run (fun r20 h_r20 => ?_)
        have h_r20 : (28 ≤ r20.toInt ∧ r20.toInt ≤ 31) := h_r20
        refine lv_isub hx hb dX9_tellsApart_99 ?_
        refine lv_topi (fun x21 e_x21 => ?_)
        try have e_x21 := ti_sub e_x21 rfl rfl (by omega)
        refine lv_istore_n (lv' := [(2, .int x21), (0, .ref a0), (1, .int a1)]) hx hb dX9_tellsApart_100 rfl hl (by decide) rfl (fun ls hl => ?_)
        refine lv_aload_n hx hb dX9_tellsApart_101 rfl (lv_at hl 1 rfl) ?_
        refine lv_dup hx hb dX9_tellsApart_102 rfl ?_
        refine va_get (D := (dC, dI)) (ci := 8) (v := .int f72_0_2) (C := RX9) (T := TX9) (N := 44) hx hb hts inlX9 hown hK hP 0 rgL1_f9e15c6 rfl 2 (by decide) (hts (.fieldLink RX9 104 "ClosedUntilModel" "month" "I") qw_396) (fun _ h9 => h9) rfl dX9_tellsApart_103 ?_
        refine lv_iconst (v := 1) hx hb dX9_tellsApart_106 (by decide) ?_
        refine lv_iadd hx hb dX9_tellsApart_107 ?_
        refine lv_topi (fun x22 e_x22 => ?_)
        refine va_put (D := (dC, dI)) (ci := 8) (v := .int x22) (ty := .int) (C := RX9) (T := TX9) (N := 44) hx hb hts inlX9 tyX9 tyX9_ok nmX9 hown hK hP hD hS 0 rgL1_f9e15c6 rfl 2 (by decide) (hts (.fieldLink RX9 104 "ClosedUntilModel" "month" "I") qw_396) (fun _ h9 => h9) rfl (by decide +kernel) rfl rfl (Nat.le_of_ble_eq_true rfl) dX9_tellsApart_108 (fun H locs hP9 hD9 hS9 => ?_)
        clear hP hD hS
        obtain ⟨hP, hD⟩ := rgS1_4a8b427 (e := (a0, .inr (8, [.int a0_0, .int f9_0_1, .int x22, .int a0_3, .ref a0_4, .int a0_5, .int a0_6, .int a0_7, .int a0_8, .int a0_9, .int a0_10, .long a0_11, .int a0_12, .int a0_13, .int a0_14, .int a0_15, .int a0_16, .int a0_17, .ref a0_18, .ref a0_19, .ref a0_20, .ref a0_21, .ref a0_22, .ref a0_23, .ref a0_24, .ref a0_25, .ref a0_26, .ref a0_27, .ref a0_28, .ref a0_29, .ref a0_30, .ref a0_31, .ref a0_32, .ref a0_33, .ref a0_34, .ref a0_35, .long a0_36, .int a0_37, .ref a0_38, .ref a0_39, .int a0_40, .ref a0_41, .ref a0_42, .ref a0_43]))) hP9 hD9 rfl
        have hS := hS9; clear hP9 hD9 hS9
        refine lv_goto (tgt := 72) hx hb dX9_tellsApart_111 (by decide) ?_
        exact ih72 ((x21.toInt).toNat) _ _ _ (by omega) ⟨x21, x22, rfl, lv_sub hl [0, 1, 2] rfl, hP, hD, hS⟩
    · have c29_16 : ¬ (l9_2.toInt < 366) := mt (cv_lt rfl (by decide)).mpr c29_16
      refine lv_iload_n hx hb dX9_tellsApart_32 rfl (lv_at hl 0 rfl) ?_
      refine lv_aload_n hx hb dX9_tellsApart_33 rfl (lv_at hl 1 rfl) ?_
      refine va_get (D := (dC, dI)) (ci := 8) (v := .int f9_0_1) (C := RX9) (T := TX9) (N := 44) hx hb hts inlX9 hown hK hP 0 rgL1_f9e15c6 rfl 1 (by decide) (hts (.fieldLink RX9 101 "ClosedUntilModel" "year" "I") qw_395) (fun _ h9 => h9) rfl dX9_tellsApart_34 ?_
      have hPc := (rgP1_e1bfc9f hP)
      have hKc := hK
      refine vp_callSi ((va_runS (As := [.int f9_0_1]) (rest := [.int l9_2]) ⟨hx, hb, hml, hown, hts⟩ (k_X9_isLeap l dC dI g (f9_0_1) ) (va_cwS 1 hts (gwS qw_387 qw_388 qw_386 qw_385) rfl rfl rfl (by decide +kernel) ⟨Nat.le_of_ble_eq_true rfl, Nat.le_of_ble_eq_true rfl⟩) ⟨fun a U g9 mk q => ⟨q.1, q.2.1, va_K.moved (u := U) (U := U.calling g9 mk a) (Vm.Alike.refl U.vm) q.2.2.1, Ev.bl q.2.2.2⟩, fun U hU hW => ⟨rfl, atB hU hPc, va_K.moved hW.alike hKc, hE.go hS (fun _ h => h.elim) hU hW⟩⟩ rfl rfl hl.1 rfl (lv_room (Nat.le_of_ble_eq_true rfl)) dX9_tellsApart_37 ⟨Nat.le_of_ble_eq_true rfl, Nat.le_of_ble_eq_true rfl⟩)).run (fun r23 h_r23 => ?_)
      have h_r23 : (r23 = 0 ∨ r23 = 1) := h_r23
      have b_r23 := z01 (show r23 = 0 ∨ r23 = 1 from h_r23)
      refine lv_if_eq (tgt := 49) hx hb dX9_tellsApart_40 (by decide) (fun c40_24 => ?_) (fun c40_24 => ?_)
      · have c40_24 : r23.toInt = 0 := (cv_eq rfl (by decide)).mp c40_24
        refine lv_sipush (v := 365) hx hb dX9_tellsApart_49 (by decide) ?_
        refine lv_isub hx hb dX9_tellsApart_52 ?_
        refine lv_topi (fun x25 e_x25 => ?_)
        try have e_x25 := ti_sub e_x25 rfl (show (365 : Int32).toInt = 365 by decide) (by omega)
        refine lv_istore_n (lv' := [(2, .int x25), (0, .ref a0), (1, .int a1)]) hx hb dX9_tellsApart_53 rfl hl (by decide) rfl (fun ls hl => ?_)
        refine lv_aload_n hx hb dX9_tellsApart_54 rfl (lv_at hl 1 rfl) ?_
        refine lv_dup hx hb dX9_tellsApart_55 rfl ?_
        refine va_get (D := (dC, dI)) (ci := 8) (v := .int f9_0_1) (C := RX9) (T := TX9) (N := 44) hx hb hts inlX9 hown hK hP 0 rgL1_f9e15c6 rfl 1 (by decide) (hts (.fieldLink RX9 101 "ClosedUntilModel" "year" "I") qw_395) (fun _ h9 => h9) rfl dX9_tellsApart_56 ?_
        refine lv_iconst (v := 1) hx hb dX9_tellsApart_59 (by decide) ?_
        refine lv_iadd hx hb dX9_tellsApart_60 ?_
        refine lv_topi (fun x26 e_x26 => ?_)
        refine va_put (D := (dC, dI)) (ci := 8) (v := .int x26) (ty := .int) (C := RX9) (T := TX9) (N := 44) hx hb hts inlX9 tyX9 tyX9_ok nmX9 hown hK hP hD hS 0 rgL1_f9e15c6 rfl 1 (by decide) (hts (.fieldLink RX9 101 "ClosedUntilModel" "year" "I") qw_395) (fun _ h9 => h9) rfl (by decide +kernel) rfl rfl (Nat.le_of_ble_eq_true rfl) dX9_tellsApart_61 (fun H locs hP9 hD9 hS9 => ?_)
        clear hP hD hS
        obtain ⟨hP, hD⟩ := rgS1_4a8b427 (e := (a0, .inr (8, [.int a0_0, .int x26, .int a0_2, .int a0_3, .ref a0_4, .int a0_5, .int a0_6, .int a0_7, .int a0_8, .int a0_9, .int a0_10, .long a0_11, .int a0_12, .int a0_13, .int a0_14, .int a0_15, .int a0_16, .int a0_17, .ref a0_18, .ref a0_19, .ref a0_20, .ref a0_21, .ref a0_22, .ref a0_23, .ref a0_24, .ref a0_25, .ref a0_26, .ref a0_27, .ref a0_28, .ref a0_29, .ref a0_30, .ref a0_31, .ref a0_32, .ref a0_33, .ref a0_34, .ref a0_35, .long a0_36, .int a0_37, .ref a0_38, .ref a0_39, .int a0_40, .ref a0_41, .ref a0_42, .ref a0_43]))) hP9 hD9 rfl
        have hS := hS9; clear hP9 hD9 hS9
        refine lv_goto (tgt := 9) hx hb dX9_tellsApart_64 (by decide) ?_
        exact ih9 ((x25.toInt).toNat) _ _ _ (by omega) ⟨x25, x26, rfl, lv_sub hl [0, 1, 2] rfl, hP, hD, hS⟩
      · have c40_24 : ¬ (r23.toInt = 0) := mt (cv_eq rfl (by decide)).mpr c40_24
        refine lv_sipush (v := 366) hx hb dX9_tellsApart_43 (by decide) ?_
        refine lv_goto (tgt := 52) hx hb dX9_tellsApart_46 (by decide) ?_
        refine lv_isub hx hb dX9_tellsApart_52 ?_
        refine lv_topi (fun x27 e_x27 => ?_)
        try have e_x27 := ti_sub e_x27 rfl (show (366 : Int32).toInt = 366 by decide) (by omega)
        refine lv_istore_n (lv' := [(2, .int x27), (0, .ref a0), (1, .int a1)]) hx hb dX9_tellsApart_53 rfl hl (by decide) rfl (fun ls hl => ?_)
        refine lv_aload_n hx hb dX9_tellsApart_54 rfl (lv_at hl 1 rfl) ?_
        refine lv_dup hx hb dX9_tellsApart_55 rfl ?_
        refine va_get (D := (dC, dI)) (ci := 8) (v := .int f9_0_1) (C := RX9) (T := TX9) (N := 44) hx hb hts inlX9 hown hK hP 0 rgL1_f9e15c6 rfl 1 (by decide) (hts (.fieldLink RX9 101 "ClosedUntilModel" "year" "I") qw_395) (fun _ h9 => h9) rfl dX9_tellsApart_56 ?_
        refine lv_iconst (v := 1) hx hb dX9_tellsApart_59 (by decide) ?_
        refine lv_iadd hx hb dX9_tellsApart_60 ?_
        refine lv_topi (fun x28 e_x28 => ?_)
        refine va_put (D := (dC, dI)) (ci := 8) (v := .int x28) (ty := .int) (C := RX9) (T := TX9) (N := 44) hx hb hts inlX9 tyX9 tyX9_ok nmX9 hown hK hP hD hS 0 rgL1_f9e15c6 rfl 1 (by decide) (hts (.fieldLink RX9 101 "ClosedUntilModel" "year" "I") qw_395) (fun _ h9 => h9) rfl (by decide +kernel) rfl rfl (Nat.le_of_ble_eq_true rfl) dX9_tellsApart_61 (fun H locs hP9 hD9 hS9 => ?_)
        clear hP hD hS
        obtain ⟨hP, hD⟩ := rgS1_4a8b427 (e := (a0, .inr (8, [.int a0_0, .int x28, .int a0_2, .int a0_3, .ref a0_4, .int a0_5, .int a0_6, .int a0_7, .int a0_8, .int a0_9, .int a0_10, .long a0_11, .int a0_12, .int a0_13, .int a0_14, .int a0_15, .int a0_16, .int a0_17, .ref a0_18, .ref a0_19, .ref a0_20, .ref a0_21, .ref a0_22, .ref a0_23, .ref a0_24, .ref a0_25, .ref a0_26, .ref a0_27, .ref a0_28, .ref a0_29, .ref a0_30, .ref a0_31, .ref a0_32, .ref a0_33, .ref a0_34, .ref a0_35, .long a0_36, .int a0_37, .ref a0_38, .ref a0_39, .int a0_40, .ref a0_41, .ref a0_42, .ref a0_43]))) hP9 hD9 rfl
        have hS := hS9; clear hP9 hD9 hS9
        refine lv_goto (tgt := 9) hx hb dX9_tellsApart_64 (by decide) ?_
        exact ih9 ((x27.toInt).toNat) _ _ _ (by omega) ⟨x27, x28, rfl, lv_sub hl [0, 1, 2] rfl, hP, hD, hS⟩
set_option maxHeartbeats 4000000 in
set_option maxRecDepth 100000 in
theorem k_X9_plusYears (l : Launch) (dC : Nat → ClassId) (dI : Nat → Nat → Nat) (g : Gv) (sz : Nat) (a0 : Nat) (a1 : Int32) (a2 : Int32) (a0_0 : Int32) (a0_1 : Int32) (a0_2 : Int32) (a0_3 : Int32) (a0_4 : Nat) (a0_5 : Int32) (a0_6 : Int32) (a0_7 : Int32) (a0_8 : Int32) (a0_9 : Int32) (a0_10 : Int32) (a0_11 : Int64) (a0_12 : Int32) (a0_13 : Int32) (a0_14 : Int32) (a0_15 : Int32) (a0_16 : Int32) (a0_17 : Int32) (a0_18 : Nat) (a0_19 : Nat) (a0_20 : Nat) (a0_21 : Nat) (a0_22 : Nat) (a0_23 : Nat) (a0_24 : Nat) (a0_25 : Nat) (a0_26 : Nat) (a0_27 : Nat) (a0_28 : Nat) (a0_29 : Nat) (a0_30 : Nat) (a0_31 : Nat) (a0_32 : Nat) (a0_33 : Nat) (a0_34 : Nat) (a0_35 : Nat) (a0_36 : Int64) (a0_37 : Int32) (a0_38 : Nat) (a0_39 : Nat) (a0_40 : Int32) (a0_41 : Nat) (a0_42 : Nat) (a0_43 : Nat) (h_a0_5 : 0 ≤ a0_5.toInt ∧ a0_5.toInt ≤ 1000) (h_a0_6 : 0 ≤ a0_6.toInt ∧ a0_6.toInt ≤ 1000) (h_a0_7 : 0 ≤ a0_7.toInt ∧ a0_7.toInt ≤ 1000) (h_a0_8 : 0 ≤ a0_8.toInt ∧ a0_8.toInt ≤ 1000) (h_a0_17 : 0 ≤ a0_17.toInt ∧ a0_17.toInt ≤ 1) (h_a0_37 : (-1) ≤ a0_37.toInt ∧ a0_37.toInt ≤ 23) (h_a0_40 : 0 ≤ a0_40.toInt ∧ a0_40.toInt ≤ 12) : Met l yX9_plusYears (.code yX9_plusYears cX9_plusYears 5 (some .int) :: TBL) ({ frames := 3, cells := 0, slots := 0, locals := 66 }) (va_Pc [.ref a0, .int a1, .int a2] (fun U => U.heap.size = sz ∧ va_P (dC, dI) vwCl [(a0, .inr (8, [.int a0_0, .int a0_1, .int a0_2, .int a0_3, .ref a0_4, .int a0_5, .int a0_6, .int a0_7, .int a0_8, .int a0_9, .int a0_10, .long a0_11, .int a0_12, .int a0_13, .int a0_14, .int a0_15, .int a0_16, .int a0_17, .ref a0_18, .ref a0_19, .ref a0_20, .ref a0_21, .ref a0_22, .ref a0_23, .ref a0_24, .ref a0_25, .ref a0_26, .ref a0_27, .ref a0_28, .ref a0_29, .ref a0_30, .ref a0_31, .ref a0_32, .ref a0_33, .ref a0_34, .ref a0_35, .long a0_36, .int a0_37, .ref a0_38, .ref a0_39, .int a0_40, .ref a0_41, .ref a0_42, .ref a0_43]))] U.heap ∧ va_K (dC, dI) vwCl [] U ∧ va_D (fun _ => True) [(a0, .inr (8, [.int a0_0, .int a0_1, .int a0_2, .int a0_3, .ref a0_4, .int a0_5, .int a0_6, .int a0_7, .int a0_8, .int a0_9, .int a0_10, .long a0_11, .int a0_12, .int a0_13, .int a0_14, .int a0_15, .int a0_16, .int a0_17, .ref a0_18, .ref a0_19, .ref a0_20, .ref a0_21, .ref a0_22, .ref a0_23, .ref a0_24, .ref a0_25, .ref a0_26, .ref a0_27, .ref a0_28, .ref a0_29, .ref a0_30, .ref a0_31, .ref a0_32, .ref a0_33, .ref a0_34, .ref a0_35, .long a0_36, .int a0_37, .ref a0_38, .ref a0_39, .int a0_40, .ref a0_41, .ref a0_42, .ref a0_43]))] ∧ Ev g (va_A [(a0, .inr (8, [.int a0_0, .int a0_1, .int a0_2, .int a0_3, .ref a0_4, .int a0_5, .int a0_6, .int a0_7, .int a0_8, .int a0_9, .int a0_10, .long a0_11, .int a0_12, .int a0_13, .int a0_14, .int a0_15, .int a0_16, .int a0_17, .ref a0_18, .ref a0_19, .ref a0_20, .ref a0_21, .ref a0_22, .ref a0_23, .ref a0_24, .ref a0_25, .ref a0_26, .ref a0_27, .ref a0_28, .ref a0_29, .ref a0_30, .ref a0_31, .ref a0_32, .ref a0_33, .ref a0_34, .ref a0_35, .long a0_36, .int a0_37, .ref a0_38, .ref a0_39, .int a0_40, .ref a0_41, .ref a0_42, .ref a0_43]))] sz) U)) (va_Qi (fun (r : Int32) (u : Int32) => u = r) (fun (u : Int32) (t : State) => ∃ (za0_1 : Int32) (za0_2 : Int32) (za0_3 : Int32), va_P (dC, dI) vwCl [(a0, .inr (8, [.int a0_0, .int za0_1, .int za0_2, .int za0_3, .ref a0_4, .int a0_5, .int a0_6, .int a0_7, .int a0_8, .int a0_9, .int a0_10, .long a0_11, .int a0_12, .int a0_13, .int a0_14, .int a0_15, .int a0_16, .int a0_17, .ref a0_18, .ref a0_19, .ref a0_20, .ref a0_21, .ref a0_22, .ref a0_23, .ref a0_24, .ref a0_25, .ref a0_26, .ref a0_27, .ref a0_28, .ref a0_29, .ref a0_30, .ref a0_31, .ref a0_32, .ref a0_33, .ref a0_34, .ref a0_35, .long a0_36, .int a0_37, .ref a0_38, .ref a0_39, .int a0_40, .ref a0_41, .ref a0_42, .ref a0_43]))] t.heap ∧ va_K (dC, dI) vwCl [] t ∧ va_D (va_A [(a0, .inr (8, [.int a0_0, .int a0_1, .int a0_2, .int a0_3, .ref a0_4, .int a0_5, .int a0_6, .int a0_7, .int a0_8, .int a0_9, .int a0_10, .long a0_11, .int a0_12, .int a0_13, .int a0_14, .int a0_15, .int a0_16, .int a0_17, .ref a0_18, .ref a0_19, .ref a0_20, .ref a0_21, .ref a0_22, .ref a0_23, .ref a0_24, .ref a0_25, .ref a0_26, .ref a0_27, .ref a0_28, .ref a0_29, .ref a0_30, .ref a0_31, .ref a0_32, .ref a0_33, .ref a0_34, .ref a0_35, .long a0_36, .int a0_37, .ref a0_38, .ref a0_39, .int a0_40, .ref a0_41, .ref a0_42, .ref a0_43]))] sz) [(a0, .inr (8, [.int a0_0, .int za0_1, .int za0_2, .int za0_3, .ref a0_4, .int a0_5, .int a0_6, .int a0_7, .int a0_8, .int a0_9, .int a0_10, .long a0_11, .int a0_12, .int a0_13, .int a0_14, .int a0_15, .int a0_16, .int a0_17, .ref a0_18, .ref a0_19, .ref a0_20, .ref a0_21, .ref a0_22, .ref a0_23, .ref a0_24, .ref a0_25, .ref a0_26, .ref a0_27, .ref a0_28, .ref a0_29, .ref a0_30, .ref a0_31, .ref a0_32, .ref a0_33, .ref a0_34, .ref a0_35, .long a0_36, .int a0_37, .ref a0_38, .ref a0_39, .int a0_40, .ref a0_41, .ref a0_42, .ref a0_43]))]) (va_A [(a0, .inr (8, [.int a0_0, .int a0_1, .int a0_2, .int a0_3, .ref a0_4, .int a0_5, .int a0_6, .int a0_7, .int a0_8, .int a0_9, .int a0_10, .long a0_11, .int a0_12, .int a0_13, .int a0_14, .int a0_15, .int a0_16, .int a0_17, .ref a0_18, .ref a0_19, .ref a0_20, .ref a0_21, .ref a0_22, .ref a0_23, .ref a0_24, .ref a0_25, .ref a0_26, .ref a0_27, .ref a0_28, .ref a0_29, .ref a0_30, .ref a0_31, .ref a0_32, .ref a0_33, .ref a0_34, .ref a0_35, .long a0_36, .int a0_37, .ref a0_38, .ref a0_39, .int a0_40, .ref a0_41, .ref a0_42, .ref a0_43]))] sz)) 0 0 (va_A [(a0, .inr (8, [.int a0_0, .int a0_1, .int a0_2, .int a0_3, .ref a0_4, .int a0_5, .int a0_6, .int a0_7, .int a0_8, .int a0_9, .int a0_10, .long a0_11, .int a0_12, .int a0_13, .int a0_14, .int a0_15, .int a0_16, .int a0_17, .ref a0_18, .ref a0_19, .ref a0_20, .ref a0_21, .ref a0_22, .ref a0_23, .ref a0_24, .ref a0_25, .ref a0_26, .ref a0_27, .ref a0_28, .ref a0_29, .ref a0_30, .ref a0_31, .ref a0_32, .ref a0_33, .ref a0_34, .ref a0_35, .long a0_36, .int a0_37, .ref a0_38, .ref a0_39, .int a0_40, .ref a0_41, .ref a0_42, .ref a0_43]))] sz) := by
  refine Met.ofW (cc := cX9_plusYears) (maxL := 5) (ret := (some .int)) (by decide) rfl ?_
  intro p e s m args below meth c s₁ B hml hv
  obtain ⟨rfl, hsz, hP, hK, hD0, hE⟩ := hv
  have hx := B.exec
  have hb := B.bytes
  have hr := B.returns
  have hts0 := atoms_spec (ws := (.code yX9_plusYears cX9_plusYears 5 (some .int) :: TBL)) B.pre
  have hts := fun (w : Cond) (h : w ∈ TBL) => hts0 w (List.mem_cons_of_mem _ h)
  have hown : s.vm.findClass RX9 = some m.cls := findClass_of_methodNamed B.named
  have hlocks := B.notSynchronized
  have hN := hE.1
  subst hsz
  have hD := hD0.self (sz := s.heap.size)
  generalize hAe : va_A [(a0, .inr (8, [.int a0_0, .int a0_1, .int a0_2, .int a0_3, .ref a0_4, .int a0_5, .int a0_6, .int a0_7, .int a0_8, .int a0_9, .int a0_10, .long a0_11, .int a0_12, .int a0_13, .int a0_14, .int a0_15, .int a0_16, .int a0_17, .ref a0_18, .ref a0_19, .ref a0_20, .ref a0_21, .ref a0_22, .ref a0_23, .ref a0_24, .ref a0_25, .ref a0_26, .ref a0_27, .ref a0_28, .ref a0_29, .ref a0_30, .ref a0_31, .ref a0_32, .ref a0_33, .ref a0_34, .ref a0_35, .long a0_36, .int a0_37, .ref a0_38, .ref a0_39, .int a0_40, .ref a0_41, .ref a0_42, .ref a0_43]))] s.heap.size = A at hD hE ⊢
  have hA : ∀ q : Nat, s.heap.size ≤ q → A q := fun q h => by rw [← hAe]; exact Or.inr h
  have hS : va_S A s.heap s.heap [] := va_S.rf
  replace hP : va_P (dC, dI) vwCl [(a0, .inr (8, [.int a0_0, .int a0_1, .int a0_2, .int a0_3, .ref a0_4, .int a0_5, .int a0_6, .int a0_7, .int a0_8, .int a0_9, .int a0_10, .long a0_11, .int a0_12, .int a0_13, .int a0_14, .int a0_15, .int a0_16, .int a0_17, .ref a0_18, .ref a0_19, .ref a0_20, .ref a0_21, .ref a0_22, .ref a0_23, .ref a0_24, .ref a0_25, .ref a0_26, .ref a0_27, .ref a0_28, .ref a0_29, .ref a0_30, .ref a0_31, .ref a0_32, .ref a0_33, .ref a0_34, .ref a0_35, .long a0_36, .int a0_37, .ref a0_38, .ref a0_39, .int a0_40, .ref a0_41, .ref a0_42, .ref a0_43]))] s.heap := hP
  have hl := lv_entry ([.ref a0, .int a1, .int a2]) (n := 5) (Nat.le_of_ble_eq_true rfl)
  rw [lg_entry_eq]
  generalize (lg_sl ([.ref a0, .int a1, .int a2]) ++ List.replicate (5 - (lg_sl ([.ref a0, .int a1, .int a2])).length) Slot.unset).toArray = ls at hl ⊢
  have hl : lv_has ls 5 [(0, .ref a0), (1, .int a1), (2, .int a2)] := hl
  have b_a1 := i32b a1
  have b_a2 := i32b a2
  have b_a0_0 := i32b a0_0
  have b_a0_1 := i32b a0_1
  have b_a0_2 := i32b a0_2
  have b_a0_3 := i32b a0_3
  have b_a0_9 := i32b a0_9
  have b_a0_10 := i32b a0_10
  have b_a0_12 := i32b a0_12
  have b_a0_13 := i32b a0_13
  have b_a0_14 := i32b a0_14
  have b_a0_15 := i32b a0_15
  have b_a0_16 := i32b a0_16
  refine lv_iload_n hx hb dX9_plusYears_0 rfl (lv_at hl 1 rfl) ?_
  refine lv_ldc (v := 219145) hx hb hown (hts (.constant RX9 110 (219145)) qw_398) dX9_plusYears_1 ?_
  refine lv_icmp_ne (tgt := 9) hx hb dX9_plusYears_3 (by decide) (fun c3_1 => ?_) (fun c3_1 => ?_)
  · have c3_1 : ¬ (a1.toInt = 219145) := mt (cv_eq rfl (by decide)).mpr c3_1
    refine lv_aload_n hx hb dX9_plusYears_9 rfl (lv_at hl 0 rfl) ?_
    refine lv_iload_n hx hb dX9_plusYears_10 rfl (lv_at hl 1 rfl) ?_
    have hPc := hP
    have hKc := hK
    have hDc := hD
    have hFc := freeW hDc hS hA
    refine va_callv (va_runV (As := [.int a1]) (rest := []) ⟨hx, hb, hml, hown, hts⟩ (k_X9_tellsApart l dC dI g s.heap.size (a0) (a1) (a0_0) (a0_1) (a0_2) (a0_3) (a0_4) (a0_5) (a0_6) (a0_7) (a0_8) (a0_9) (a0_10) (a0_11) (a0_12) (a0_13) (a0_14) (a0_15) (a0_16) (a0_17) (a0_18) (a0_19) (a0_20) (a0_21) (a0_22) (a0_23) (a0_24) (a0_25) (a0_26) (a0_27) (a0_28) (a0_29) (a0_30) (a0_31) (a0_32) (a0_33) (a0_34) (a0_35) (a0_36) (a0_37) (a0_38) (a0_39) (a0_40) (a0_41) (a0_42) (a0_43) (by omega) (by omega) (by omega) (by omega) (by omega) (by omega) (by omega)) (cwV 1 hts (gwV qw_400 qw_401 qw_402 qw_386 qw_399) rfl rfl rfl (by decide +kernel) ⟨Nat.le_of_ble_eq_true rfl, Nat.le_of_ble_eq_true rfl⟩) ⟨fun a U g9 mk q => ⟨q.1, q.2.1, q.2.2.1, va_K.moved (u := U) (U := U.calling g9 mk a) (Vm.Alike.refl U.vm) q.2.2.2.1, q.2.2.2.2.1, Ev.bl q.2.2.2.2.2⟩, va_recv hK hP (ci := 8) (q0 := 0) rfl rgL1_f9e15c6, fun U hU hW => ⟨rfl, by rw [hU], atB hU hPc, va_K.moved hW.alike hKc, hDc.weaken (fun _ _ _ _ => trivial), hE.go hS hFc hU hW⟩⟩ rfl rfl hl.1 rfl (lv_room (Nat.le_of_ble_eq_true rfl)) dX9_plusYears_11 ⟨Nat.le_of_ble_eq_true rfl, Nat.le_of_ble_eq_true rfl⟩) hS (fun q _ h => hFc q h) hFc (fun u2 t H1 locs ht hvm h_u2 hB hz1 hk1 hS => ?_)
    obtain ⟨za0_1_4, za0_2_5, za0_3_6, hP1, hK1, hD1⟩ := hB
    have hK1 := va_K.moved hvm.symm hK1
    have hJ9 := rgJ1_5dd387d hP hD hk1 hFc (atH ht hP1) hD1
    clear hP hD hPc hKc hDc hFc hP1 hD1 hk1 hz1
    obtain ⟨hP, hD⟩ := hJ9
    clear hK1
    generalize H1 = H at hP hS ⊢
    refine W.widen (k := 0) (n := 0) (Nat.le_of_ble_eq_true rfl) (Nat.le_of_ble_eq_true rfl) ?_
    refine lv_aload_n hx hb dX9_plusYears_14 rfl (lv_at hl 0 rfl) ?_
    refine va_get (D := (dC, dI)) (ci := 8) (v := .int za0_1_4) (C := RX9) (T := TX9) (N := 44) hx hb hts inlX9 hown hK hP 0 rgL1_f9e15c6 rfl 1 (by decide) (hts (.fieldLink RX9 101 "ClosedUntilModel" "year" "I") qw_395) (fun _ h9 => h9) rfl dX9_plusYears_15 ?_
    refine lv_iload_n hx hb dX9_plusYears_18 rfl (lv_at hl 2 rfl) ?_
    refine lv_iadd hx hb dX9_plusYears_19 ?_
    refine lv_topi (fun x7 e_x7 => ?_)
    refine lv_istore_n (lv' := [(3, .int x7), (0, .ref a0), (1, .int a1), (2, .int a2)]) hx hb dX9_plusYears_20 rfl hl (by decide) rfl (fun ls hl => ?_)
    refine lv_iload_n hx hb dX9_plusYears_21 rfl (lv_at hl 0 rfl) ?_
    refine lv_sipush (v := 2299) hx hb dX9_plusYears_22 (by decide) ?_
    refine lv_icmp_le (tgt := 31) hx hb dX9_plusYears_25 (by decide) (fun c25_8 => ?_) (fun c25_8 => ?_)
    · have c25_8 : x7.toInt ≤ 2299 := (cv_le rfl (by decide)).mp c25_8
      refine lv_iload_n hx hb dX9_plusYears_31 rfl (lv_at hl 0 rfl) ?_
      refine lv_sipush (v := 1700) hx hb dX9_plusYears_32 (by decide) ?_
      refine lv_icmp_ge (tgt := 40) hx hb dX9_plusYears_35 (by decide) (fun c35_9 => ?_) (fun c35_9 => ?_)
      · have c35_9 : 1700 ≤ x7.toInt := (cv_le (by decide) rfl).mp c35_9
        refine lv_iload_n hx hb dX9_plusYears_40 rfl (lv_at hl 0 rfl) ?_
        refine lv_aload_n hx hb dX9_plusYears_41 rfl (lv_at hl 1 rfl) ?_
        refine va_get (D := (dC, dI)) (ci := 8) (v := .int za0_2_5) (C := RX9) (T := TX9) (N := 44) hx hb hts inlX9 hown hK hP 0 rgL1_f9e15c6 rfl 2 (by decide) (hts (.fieldLink RX9 104 "ClosedUntilModel" "month" "I") qw_396) (fun _ h9 => h9) rfl dX9_plusYears_42 ?_
        have hPc := (rgP1_e1bfc9f hP)
        have hKc := hK
        refine vp_callSi ((va_runS (As := [.int x7, .int za0_2_5]) (rest := []) ⟨hx, hb, hml, hown, hts⟩ (k_X9_daysIn l dC dI g (x7) (za0_2_5) ) (va_cwS 2 hts (gwS qw_393 qw_394 qw_386 qw_392) rfl rfl rfl (by decide +kernel) ⟨Nat.le_of_ble_eq_true rfl, Nat.le_of_ble_eq_true rfl⟩) ⟨fun a U g9 mk q => ⟨q.1, q.2.1, va_K.moved (u := U) (U := U.calling g9 mk a) (Vm.Alike.refl U.vm) q.2.2.1, Ev.bl q.2.2.2⟩, fun U hU hW => ⟨rfl, atB hU hPc, va_K.moved hW.alike hKc, hE.go hS (fun _ h => h.elim) hU hW⟩⟩ rfl rfl hl.1 rfl (lv_room (Nat.le_of_ble_eq_true rfl)) dX9_plusYears_45 ⟨Nat.le_of_ble_eq_true rfl, Nat.le_of_ble_eq_true rfl⟩)).run (fun r10 h_r10 => ?_)
        have h_r10 : (28 ≤ r10.toInt ∧ r10.toInt ≤ 31) := h_r10
        refine lv_istore (lv' := [(4, .int r10), (3, .int x7), (0, .ref a0), (1, .int a1), (2, .int a2)]) hx hb dX9_plusYears_48 hl (by decide) rfl (fun ls hl => ?_)
        refine lv_iload_n hx hb dX9_plusYears_50 rfl (lv_at hl 1 rfl) ?_
        refine lv_aload_n hx hb dX9_plusYears_51 rfl (lv_at hl 2 rfl) ?_
        refine va_get (D := (dC, dI)) (ci := 8) (v := .int za0_2_5) (C := RX9) (T := TX9) (N := 44) hx hb hts inlX9 hown hK hP 0 rgL1_f9e15c6 rfl 2 (by decide) (hts (.fieldLink RX9 104 "ClosedUntilModel" "month" "I") qw_396) (fun _ h9 => h9) rfl dX9_plusYears_52 ?_
        refine lv_aload_n hx hb dX9_plusYears_55 rfl (lv_at hl 2 rfl) ?_
        refine va_get (D := (dC, dI)) (ci := 8) (v := .int za0_3_6) (C := RX9) (T := TX9) (N := 44) hx hb hts inlX9 hown hK hP 0 rgL1_f9e15c6 rfl 3 (by decide) (hts (.fieldLink RX9 107 "ClosedUntilModel" "dayIn" "I") qw_397) (fun _ h9 => h9) rfl dX9_plusYears_56 ?_
        refine lv_iload hx hb dX9_plusYears_59 (lv_at hl 0 rfl) ?_
        refine lv_icmp_le (tgt := 69) hx hb dX9_plusYears_61 (by decide) (fun c61_11 => ?_) (fun c61_11 => ?_)
        · have c61_11 : za0_3_6.toInt ≤ r10.toInt := (cv_le rfl rfl).mp c61_11
          refine lv_aload_n hx hb dX9_plusYears_69 rfl (lv_at hl 2 rfl) ?_
          refine va_get (D := (dC, dI)) (ci := 8) (v := .int za0_3_6) (C := RX9) (T := TX9) (N := 44) hx hb hts inlX9 hown hK hP 0 rgL1_f9e15c6 rfl 3 (by decide) (hts (.fieldLink RX9 107 "ClosedUntilModel" "dayIn" "I") qw_397) (fun _ h9 => h9) rfl dX9_plusYears_70 ?_
          have hPc := (rgP1_e1bfc9f hP)
          have hKc := hK
          refine vp_callSi ((va_runS (As := [.int x7, .int za0_2_5, .int za0_3_6]) (rest := []) ⟨hx, hb, hml, hown, hts⟩ (k_X9_dayOf l dC dI g (x7) (za0_2_5) (za0_3_6) ) (va_cwS 3 hts (gwS qw_404 qw_405 qw_386 qw_403) rfl rfl rfl (by decide +kernel) ⟨Nat.le_of_ble_eq_true rfl, Nat.le_of_ble_eq_true rfl⟩) ⟨fun a U g9 mk q => ⟨q.1, q.2.1, va_K.moved (u := U) (U := U.calling g9 mk a) (Vm.Alike.refl U.vm) q.2.2.1, Ev.bl q.2.2.2⟩, fun U hU hW => ⟨rfl, atB hU hPc, va_K.moved hW.alike hKc, hE.go hS (fun _ h => h.elim) hU hW⟩⟩ rfl rfl hl.1 rfl (lv_room (Nat.le_of_ble_eq_true rfl)) dX9_plusYears_73 ⟨Nat.le_of_ble_eq_true rfl, Nat.le_of_ble_eq_true rfl⟩)).run (fun r12 h_r12 => ?_)
          have b_r12 := i32b r12
          refine W.widen (k := 0) (n := 0) (Nat.le_of_ble_eq_true rfl) (Nat.le_of_ble_eq_true rfl) ?_
          have hP9 := hP
          have hD9 := hD
          have hK9 := hK
          exact W.iret (v := r12) hx hb hr (fun t ht hW => ⟨⟨r12, r12, rfl, rfl, za0_1_4, za0_2_5, za0_3_6, atB ht hP9, va_K.moved hW.alike hK9, hD9⟩, hS.F ht⟩) hS.2.2 dX9_plusYears_76
        · have c61_11 : ¬ (za0_3_6.toInt ≤ r10.toInt) := mt (cv_le rfl rfl).mpr c61_11
          refine lv_iload hx hb dX9_plusYears_64 (lv_at hl 0 rfl) ?_
          refine lv_goto (tgt := 73) hx hb dX9_plusYears_66 (by decide) ?_
          have hPc := (rgP1_e1bfc9f hP)
          have hKc := hK
          refine vp_callSi ((va_runS (As := [.int x7, .int za0_2_5, .int r10]) (rest := []) ⟨hx, hb, hml, hown, hts⟩ (k_X9_dayOf l dC dI g (x7) (za0_2_5) (r10) ) (va_cwS 3 hts (gwS qw_404 qw_405 qw_386 qw_403) rfl rfl rfl (by decide +kernel) ⟨Nat.le_of_ble_eq_true rfl, Nat.le_of_ble_eq_true rfl⟩) ⟨fun a U g9 mk q => ⟨q.1, q.2.1, va_K.moved (u := U) (U := U.calling g9 mk a) (Vm.Alike.refl U.vm) q.2.2.1, Ev.bl q.2.2.2⟩, fun U hU hW => ⟨rfl, atB hU hPc, va_K.moved hW.alike hKc, hE.go hS (fun _ h => h.elim) hU hW⟩⟩ rfl rfl hl.1 rfl (lv_room (Nat.le_of_ble_eq_true rfl)) dX9_plusYears_73 ⟨Nat.le_of_ble_eq_true rfl, Nat.le_of_ble_eq_true rfl⟩)).run (fun r13 h_r13 => ?_)
          have b_r13 := i32b r13
          refine W.widen (k := 0) (n := 0) (Nat.le_of_ble_eq_true rfl) (Nat.le_of_ble_eq_true rfl) ?_
          have hP9 := hP
          have hD9 := hD
          have hK9 := hK
          exact W.iret (v := r13) hx hb hr (fun t ht hW => ⟨⟨r13, r13, rfl, rfl, za0_1_4, za0_2_5, za0_3_6, atB ht hP9, va_K.moved hW.alike hK9, hD9⟩, hS.F ht⟩) hS.2.2 dX9_plusYears_76
      · have c35_9 : ¬ (1700 ≤ x7.toInt) := mt (cv_le (by decide) rfl).mpr c35_9
        refine lv_iconst (v := 0) hx hb dX9_plusYears_38 (by decide) ?_
        have qc0 : (0 : Int32).toInt = 0 := by decide
        refine W.widen (k := 0) (n := 0) (Nat.le_of_ble_eq_true rfl) (Nat.le_of_ble_eq_true rfl) ?_
        have hP9 := hP
        have hD9 := hD
        have hK9 := hK
        exact W.iret (v := 0) hx hb hr (fun t ht hW => ⟨⟨0, 0, rfl, rfl, za0_1_4, za0_2_5, za0_3_6, atB ht hP9, va_K.moved hW.alike hK9, hD9⟩, hS.F ht⟩) hS.2.2 dX9_plusYears_39
    · have c25_8 : ¬ (x7.toInt ≤ 2299) := mt (cv_le rfl (by decide)).mpr c25_8
      refine lv_ldc (v := 219145) hx hb hown (hts (.constant RX9 110 (219145)) qw_398) dX9_plusYears_28 ?_
      have qc219145 : (219145 : Int32).toInt = 219145 := by decide
      refine W.widen (k := 0) (n := 0) (Nat.le_of_ble_eq_true rfl) (Nat.le_of_ble_eq_true rfl) ?_
      have hP9 := hP
      have hD9 := hD
      have hK9 := hK
      exact W.iret (v := 219145) hx hb hr (fun t ht hW => ⟨⟨219145, 219145, rfl, rfl, za0_1_4, za0_2_5, za0_3_6, atB ht hP9, va_K.moved hW.alike hK9, hD9⟩, hS.F ht⟩) hS.2.2 dX9_plusYears_30
  · have c3_1 : a1.toInt = 219145 := (cv_eq rfl (by decide)).mp c3_1
    refine lv_ldc (v := 219145) hx hb hown (hts (.constant RX9 110 (219145)) qw_398) dX9_plusYears_6 ?_
    have qc219145 : (219145 : Int32).toInt = 219145 := by decide
    refine W.widen (k := 0) (n := 0) (Nat.le_of_ble_eq_true rfl) (Nat.le_of_ble_eq_true rfl) ?_
    have hP9 := hP
    have hD9 := hD
    have hK9 := hK
    exact W.iret (v := 219145) hx hb hr (fun t ht hW => ⟨⟨219145, 219145, rfl, rfl, a0_1, a0_2, a0_3, atB ht hP9, va_K.moved hW.alike hK9, hD9⟩, hS.F ht⟩) hS.2.2 dX9_plusYears_8
set_option maxHeartbeats 4000000 in
set_option maxRecDepth 100000 in
theorem k_X9_yearBehind (l : Launch) (dC : Nat → ClassId) (dI : Nat → Nat → Nat) (g : Gv) (sz : Nat) (a0 : Nat) (a1 : Int32) (a0_0 : Int32) (a0_1 : Int32) (a0_2 : Int32) (a0_3 : Int32) (a0_4 : Nat) (a0_5 : Int32) (a0_6 : Int32) (a0_7 : Int32) (a0_8 : Int32) (a0_9 : Int32) (a0_10 : Int32) (a0_11 : Int64) (a0_12 : Int32) (a0_13 : Int32) (a0_14 : Int32) (a0_15 : Int32) (a0_16 : Int32) (a0_17 : Int32) (a0_18 : Nat) (a0_19 : Nat) (a0_20 : Nat) (a0_21 : Nat) (a0_22 : Nat) (a0_23 : Nat) (a0_24 : Nat) (a0_25 : Nat) (a0_26 : Nat) (a0_27 : Nat) (a0_28 : Nat) (a0_29 : Nat) (a0_30 : Nat) (a0_31 : Nat) (a0_32 : Nat) (a0_33 : Nat) (a0_34 : Nat) (a0_35 : Nat) (a0_36 : Int64) (a0_37 : Int32) (a0_38 : Nat) (a0_39 : Nat) (a0_40 : Int32) (a0_41 : Nat) (a0_42 : Nat) (a0_43 : Nat) (h_a0_5 : 0 ≤ a0_5.toInt ∧ a0_5.toInt ≤ 1000) (h_a0_6 : 0 ≤ a0_6.toInt ∧ a0_6.toInt ≤ 1000) (h_a0_7 : 0 ≤ a0_7.toInt ∧ a0_7.toInt ≤ 1000) (h_a0_8 : 0 ≤ a0_8.toInt ∧ a0_8.toInt ≤ 1000) (h_a0_17 : 0 ≤ a0_17.toInt ∧ a0_17.toInt ≤ 1) (h_a0_37 : (-1) ≤ a0_37.toInt ∧ a0_37.toInt ≤ 23) (h_a0_40 : 0 ≤ a0_40.toInt ∧ a0_40.toInt ≤ 12) : Met l yX9_yearBehind (.code yX9_yearBehind cX9_yearBehind 2 (some .int) :: TBL) ({ frames := 3, cells := 0, slots := 0, locals := 63 }) (va_Pc [.ref a0, .int a1] (fun U => U.heap.size = sz ∧ va_P (dC, dI) vwCl [(a0, .inr (8, [.int a0_0, .int a0_1, .int a0_2, .int a0_3, .ref a0_4, .int a0_5, .int a0_6, .int a0_7, .int a0_8, .int a0_9, .int a0_10, .long a0_11, .int a0_12, .int a0_13, .int a0_14, .int a0_15, .int a0_16, .int a0_17, .ref a0_18, .ref a0_19, .ref a0_20, .ref a0_21, .ref a0_22, .ref a0_23, .ref a0_24, .ref a0_25, .ref a0_26, .ref a0_27, .ref a0_28, .ref a0_29, .ref a0_30, .ref a0_31, .ref a0_32, .ref a0_33, .ref a0_34, .ref a0_35, .long a0_36, .int a0_37, .ref a0_38, .ref a0_39, .int a0_40, .ref a0_41, .ref a0_42, .ref a0_43]))] U.heap ∧ va_K (dC, dI) vwCl [] U ∧ va_D (fun _ => True) [(a0, .inr (8, [.int a0_0, .int a0_1, .int a0_2, .int a0_3, .ref a0_4, .int a0_5, .int a0_6, .int a0_7, .int a0_8, .int a0_9, .int a0_10, .long a0_11, .int a0_12, .int a0_13, .int a0_14, .int a0_15, .int a0_16, .int a0_17, .ref a0_18, .ref a0_19, .ref a0_20, .ref a0_21, .ref a0_22, .ref a0_23, .ref a0_24, .ref a0_25, .ref a0_26, .ref a0_27, .ref a0_28, .ref a0_29, .ref a0_30, .ref a0_31, .ref a0_32, .ref a0_33, .ref a0_34, .ref a0_35, .long a0_36, .int a0_37, .ref a0_38, .ref a0_39, .int a0_40, .ref a0_41, .ref a0_42, .ref a0_43]))] ∧ Ev g (va_A [(a0, .inr (8, [.int a0_0, .int a0_1, .int a0_2, .int a0_3, .ref a0_4, .int a0_5, .int a0_6, .int a0_7, .int a0_8, .int a0_9, .int a0_10, .long a0_11, .int a0_12, .int a0_13, .int a0_14, .int a0_15, .int a0_16, .int a0_17, .ref a0_18, .ref a0_19, .ref a0_20, .ref a0_21, .ref a0_22, .ref a0_23, .ref a0_24, .ref a0_25, .ref a0_26, .ref a0_27, .ref a0_28, .ref a0_29, .ref a0_30, .ref a0_31, .ref a0_32, .ref a0_33, .ref a0_34, .ref a0_35, .long a0_36, .int a0_37, .ref a0_38, .ref a0_39, .int a0_40, .ref a0_41, .ref a0_42, .ref a0_43]))] sz) U)) (va_Qi (fun (r : Int32) (u : Int32) => u = r) (fun (u : Int32) (t : State) => ∃ (za0_1 : Int32) (za0_2 : Int32) (za0_3 : Int32), va_P (dC, dI) vwCl [(a0, .inr (8, [.int a0_0, .int za0_1, .int za0_2, .int za0_3, .ref a0_4, .int a0_5, .int a0_6, .int a0_7, .int a0_8, .int a0_9, .int a0_10, .long a0_11, .int a0_12, .int a0_13, .int a0_14, .int a0_15, .int a0_16, .int a0_17, .ref a0_18, .ref a0_19, .ref a0_20, .ref a0_21, .ref a0_22, .ref a0_23, .ref a0_24, .ref a0_25, .ref a0_26, .ref a0_27, .ref a0_28, .ref a0_29, .ref a0_30, .ref a0_31, .ref a0_32, .ref a0_33, .ref a0_34, .ref a0_35, .long a0_36, .int a0_37, .ref a0_38, .ref a0_39, .int a0_40, .ref a0_41, .ref a0_42, .ref a0_43]))] t.heap ∧ va_K (dC, dI) vwCl [] t ∧ va_D (va_A [(a0, .inr (8, [.int a0_0, .int a0_1, .int a0_2, .int a0_3, .ref a0_4, .int a0_5, .int a0_6, .int a0_7, .int a0_8, .int a0_9, .int a0_10, .long a0_11, .int a0_12, .int a0_13, .int a0_14, .int a0_15, .int a0_16, .int a0_17, .ref a0_18, .ref a0_19, .ref a0_20, .ref a0_21, .ref a0_22, .ref a0_23, .ref a0_24, .ref a0_25, .ref a0_26, .ref a0_27, .ref a0_28, .ref a0_29, .ref a0_30, .ref a0_31, .ref a0_32, .ref a0_33, .ref a0_34, .ref a0_35, .long a0_36, .int a0_37, .ref a0_38, .ref a0_39, .int a0_40, .ref a0_41, .ref a0_42, .ref a0_43]))] sz) [(a0, .inr (8, [.int a0_0, .int za0_1, .int za0_2, .int za0_3, .ref a0_4, .int a0_5, .int a0_6, .int a0_7, .int a0_8, .int a0_9, .int a0_10, .long a0_11, .int a0_12, .int a0_13, .int a0_14, .int a0_15, .int a0_16, .int a0_17, .ref a0_18, .ref a0_19, .ref a0_20, .ref a0_21, .ref a0_22, .ref a0_23, .ref a0_24, .ref a0_25, .ref a0_26, .ref a0_27, .ref a0_28, .ref a0_29, .ref a0_30, .ref a0_31, .ref a0_32, .ref a0_33, .ref a0_34, .ref a0_35, .long a0_36, .int a0_37, .ref a0_38, .ref a0_39, .int a0_40, .ref a0_41, .ref a0_42, .ref a0_43]))]) (va_A [(a0, .inr (8, [.int a0_0, .int a0_1, .int a0_2, .int a0_3, .ref a0_4, .int a0_5, .int a0_6, .int a0_7, .int a0_8, .int a0_9, .int a0_10, .long a0_11, .int a0_12, .int a0_13, .int a0_14, .int a0_15, .int a0_16, .int a0_17, .ref a0_18, .ref a0_19, .ref a0_20, .ref a0_21, .ref a0_22, .ref a0_23, .ref a0_24, .ref a0_25, .ref a0_26, .ref a0_27, .ref a0_28, .ref a0_29, .ref a0_30, .ref a0_31, .ref a0_32, .ref a0_33, .ref a0_34, .ref a0_35, .long a0_36, .int a0_37, .ref a0_38, .ref a0_39, .int a0_40, .ref a0_41, .ref a0_42, .ref a0_43]))] sz)) 0 0 (va_A [(a0, .inr (8, [.int a0_0, .int a0_1, .int a0_2, .int a0_3, .ref a0_4, .int a0_5, .int a0_6, .int a0_7, .int a0_8, .int a0_9, .int a0_10, .long a0_11, .int a0_12, .int a0_13, .int a0_14, .int a0_15, .int a0_16, .int a0_17, .ref a0_18, .ref a0_19, .ref a0_20, .ref a0_21, .ref a0_22, .ref a0_23, .ref a0_24, .ref a0_25, .ref a0_26, .ref a0_27, .ref a0_28, .ref a0_29, .ref a0_30, .ref a0_31, .ref a0_32, .ref a0_33, .ref a0_34, .ref a0_35, .long a0_36, .int a0_37, .ref a0_38, .ref a0_39, .int a0_40, .ref a0_41, .ref a0_42, .ref a0_43]))] sz) := by
  refine Met.ofW (cc := cX9_yearBehind) (maxL := 2) (ret := (some .int)) (by decide) rfl ?_
  intro p e s m args below meth c s₁ B hml hv
  obtain ⟨rfl, hsz, hP, hK, hD0, hE⟩ := hv
  have hx := B.exec
  have hb := B.bytes
  have hr := B.returns
  have hts0 := atoms_spec (ws := (.code yX9_yearBehind cX9_yearBehind 2 (some .int) :: TBL)) B.pre
  have hts := fun (w : Cond) (h : w ∈ TBL) => hts0 w (List.mem_cons_of_mem _ h)
  have hown : s.vm.findClass RX9 = some m.cls := findClass_of_methodNamed B.named
  have hlocks := B.notSynchronized
  have hN := hE.1
  subst hsz
  have hD := hD0.self (sz := s.heap.size)
  generalize hAe : va_A [(a0, .inr (8, [.int a0_0, .int a0_1, .int a0_2, .int a0_3, .ref a0_4, .int a0_5, .int a0_6, .int a0_7, .int a0_8, .int a0_9, .int a0_10, .long a0_11, .int a0_12, .int a0_13, .int a0_14, .int a0_15, .int a0_16, .int a0_17, .ref a0_18, .ref a0_19, .ref a0_20, .ref a0_21, .ref a0_22, .ref a0_23, .ref a0_24, .ref a0_25, .ref a0_26, .ref a0_27, .ref a0_28, .ref a0_29, .ref a0_30, .ref a0_31, .ref a0_32, .ref a0_33, .ref a0_34, .ref a0_35, .long a0_36, .int a0_37, .ref a0_38, .ref a0_39, .int a0_40, .ref a0_41, .ref a0_42, .ref a0_43]))] s.heap.size = A at hD hE ⊢
  have hA : ∀ q : Nat, s.heap.size ≤ q → A q := fun q h => by rw [← hAe]; exact Or.inr h
  have hS : va_S A s.heap s.heap [] := va_S.rf
  replace hP : va_P (dC, dI) vwCl [(a0, .inr (8, [.int a0_0, .int a0_1, .int a0_2, .int a0_3, .ref a0_4, .int a0_5, .int a0_6, .int a0_7, .int a0_8, .int a0_9, .int a0_10, .long a0_11, .int a0_12, .int a0_13, .int a0_14, .int a0_15, .int a0_16, .int a0_17, .ref a0_18, .ref a0_19, .ref a0_20, .ref a0_21, .ref a0_22, .ref a0_23, .ref a0_24, .ref a0_25, .ref a0_26, .ref a0_27, .ref a0_28, .ref a0_29, .ref a0_30, .ref a0_31, .ref a0_32, .ref a0_33, .ref a0_34, .ref a0_35, .long a0_36, .int a0_37, .ref a0_38, .ref a0_39, .int a0_40, .ref a0_41, .ref a0_42, .ref a0_43]))] s.heap := hP
  have hl := lv_entry ([.ref a0, .int a1]) (n := 2) (Nat.le_of_ble_eq_true rfl)
  rw [lg_entry_eq]
  generalize (lg_sl ([.ref a0, .int a1]) ++ List.replicate (2 - (lg_sl ([.ref a0, .int a1])).length) Slot.unset).toArray = ls at hl ⊢
  have hl : lv_has ls 2 [(0, .ref a0), (1, .int a1)] := hl
  have b_a1 := i32b a1
  have b_a0_0 := i32b a0_0
  have b_a0_1 := i32b a0_1
  have b_a0_2 := i32b a0_2
  have b_a0_3 := i32b a0_3
  have b_a0_9 := i32b a0_9
  have b_a0_10 := i32b a0_10
  have b_a0_12 := i32b a0_12
  have b_a0_13 := i32b a0_13
  have b_a0_14 := i32b a0_14
  have b_a0_15 := i32b a0_15
  have b_a0_16 := i32b a0_16
  refine lv_iload_n hx hb dX9_yearBehind_0 rfl (lv_at hl 1 rfl) ?_
  refine lv_ldc (v := 219145) hx hb hown (hts (.constant RX9 110 (219145)) qw_398) dX9_yearBehind_1 ?_
  refine lv_icmp_ne (tgt := 9) hx hb dX9_yearBehind_3 (by decide) (fun c3_1 => ?_) (fun c3_1 => ?_)
  · have c3_1 : ¬ (a1.toInt = 219145) := mt (cv_eq rfl (by decide)).mpr c3_1
    refine lv_aload_n hx hb dX9_yearBehind_9 rfl (lv_at hl 0 rfl) ?_
    refine lv_iload_n hx hb dX9_yearBehind_10 rfl (lv_at hl 1 rfl) ?_
    have hPc := hP
    have hKc := hK
    have hDc := hD
    have hFc := freeW hDc hS hA
    refine va_callv (va_runV (As := [.int a1]) (rest := []) ⟨hx, hb, hml, hown, hts⟩ (k_X9_tellsApart l dC dI g s.heap.size (a0) (a1) (a0_0) (a0_1) (a0_2) (a0_3) (a0_4) (a0_5) (a0_6) (a0_7) (a0_8) (a0_9) (a0_10) (a0_11) (a0_12) (a0_13) (a0_14) (a0_15) (a0_16) (a0_17) (a0_18) (a0_19) (a0_20) (a0_21) (a0_22) (a0_23) (a0_24) (a0_25) (a0_26) (a0_27) (a0_28) (a0_29) (a0_30) (a0_31) (a0_32) (a0_33) (a0_34) (a0_35) (a0_36) (a0_37) (a0_38) (a0_39) (a0_40) (a0_41) (a0_42) (a0_43) (by omega) (by omega) (by omega) (by omega) (by omega) (by omega) (by omega)) (cwV 1 hts (gwV qw_400 qw_401 qw_402 qw_386 qw_399) rfl rfl rfl (by decide +kernel) ⟨Nat.le_of_ble_eq_true rfl, Nat.le_of_ble_eq_true rfl⟩) ⟨fun a U g9 mk q => ⟨q.1, q.2.1, q.2.2.1, va_K.moved (u := U) (U := U.calling g9 mk a) (Vm.Alike.refl U.vm) q.2.2.2.1, q.2.2.2.2.1, Ev.bl q.2.2.2.2.2⟩, va_recv hK hP (ci := 8) (q0 := 0) rfl rgL1_f9e15c6, fun U hU hW => ⟨rfl, by rw [hU], atB hU hPc, va_K.moved hW.alike hKc, hDc.weaken (fun _ _ _ _ => trivial), hE.go hS hFc hU hW⟩⟩ rfl rfl hl.1 rfl (lv_room (Nat.le_of_ble_eq_true rfl)) dX9_yearBehind_11 ⟨Nat.le_of_ble_eq_true rfl, Nat.le_of_ble_eq_true rfl⟩) hS (fun q _ h => hFc q h) hFc (fun u2 t H1 locs ht hvm h_u2 hB hz1 hk1 hS => ?_)
    obtain ⟨za0_1_4, za0_2_5, za0_3_6, hP1, hK1, hD1⟩ := hB
    have hK1 := va_K.moved hvm.symm hK1
    have hJ9 := rgJ1_5dd387d hP hD hk1 hFc (atH ht hP1) hD1
    clear hP hD hPc hKc hDc hFc hP1 hD1 hk1 hz1
    obtain ⟨hP, hD⟩ := hJ9
    clear hK1
    generalize H1 = H at hP hS ⊢
    refine W.widen (k := 0) (n := 0) (Nat.le_of_ble_eq_true rfl) (Nat.le_of_ble_eq_true rfl) ?_
    refine lv_aload_n hx hb dX9_yearBehind_14 rfl (lv_at hl 0 rfl) ?_
    refine va_get (D := (dC, dI)) (ci := 8) (v := .int za0_1_4) (C := RX9) (T := TX9) (N := 44) hx hb hts inlX9 hown hK hP 0 rgL1_f9e15c6 rfl 1 (by decide) (hts (.fieldLink RX9 101 "ClosedUntilModel" "year" "I") qw_395) (fun _ h9 => h9) rfl dX9_yearBehind_15 ?_
    refine lv_sipush (v := 2299) hx hb dX9_yearBehind_18 (by decide) ?_
    refine lv_icmp_ne (tgt := 29) hx hb dX9_yearBehind_21 (by decide) (fun c21_7 => ?_) (fun c21_7 => ?_)
    · have c21_7 : ¬ (za0_1_4.toInt = 2299) := mt (cv_eq rfl (by decide)).mpr c21_7
      refine lv_aload_n hx hb dX9_yearBehind_29 rfl (lv_at hl 0 rfl) ?_
      refine va_get (D := (dC, dI)) (ci := 8) (v := .int za0_1_4) (C := RX9) (T := TX9) (N := 44) hx hb hts inlX9 hown hK hP 0 rgL1_f9e15c6 rfl 1 (by decide) (hts (.fieldLink RX9 101 "ClosedUntilModel" "year" "I") qw_395) (fun _ h9 => h9) rfl dX9_yearBehind_30 ?_
      refine lv_iconst (v := 1) hx hb dX9_yearBehind_33 (by decide) ?_
      refine lv_iadd hx hb dX9_yearBehind_34 ?_
      refine lv_topi (fun x8 e_x8 => ?_)
      try have e_x8 := ti_add e_x8 rfl (show (1 : Int32).toInt = 1 by decide) (by omega)
      have hPc := (rgP1_e1bfc9f hP)
      have hKc := hK
      refine vp_callSi ((va_runS (As := [.int x8]) (rest := []) ⟨hx, hb, hml, hown, hts⟩ (k_X9_firstOf l dC dI g (x8) ) (va_cwS 1 hts (gwS qw_390 qw_391 qw_386 qw_389) rfl rfl rfl (by decide +kernel) ⟨Nat.le_of_ble_eq_true rfl, Nat.le_of_ble_eq_true rfl⟩) ⟨fun a U g9 mk q => ⟨q.1, q.2.1, va_K.moved (u := U) (U := U.calling g9 mk a) (Vm.Alike.refl U.vm) q.2.2.1, Ev.bl q.2.2.2⟩, fun U hU hW => ⟨rfl, atB hU hPc, va_K.moved hW.alike hKc, hE.go hS (fun _ h => h.elim) hU hW⟩⟩ rfl rfl hl.1 rfl (lv_room (Nat.le_of_ble_eq_true rfl)) dX9_yearBehind_35 ⟨Nat.le_of_ble_eq_true rfl, Nat.le_of_ble_eq_true rfl⟩)).run (fun r9 h_r9 => ?_)
      have b_r9 := i32b r9
      refine W.widen (k := 0) (n := 0) (Nat.le_of_ble_eq_true rfl) (Nat.le_of_ble_eq_true rfl) ?_
      have hP9 := hP
      have hD9 := hD
      have hK9 := hK
      exact W.iret (v := r9) hx hb hr (fun t ht hW => ⟨⟨r9, r9, rfl, rfl, za0_1_4, za0_2_5, za0_3_6, atB ht hP9, va_K.moved hW.alike hK9, hD9⟩, hS.F ht⟩) hS.2.2 dX9_yearBehind_38
    · have c21_7 : za0_1_4.toInt = 2299 := (cv_eq rfl (by decide)).mp c21_7
      refine lv_ldc (v := 219145) hx hb hown (hts (.constant RX9 110 (219145)) qw_398) dX9_yearBehind_24 ?_
      refine lv_goto (tgt := 38) hx hb dX9_yearBehind_26 (by decide) ?_
      have qc219145 : (219145 : Int32).toInt = 219145 := by decide
      refine W.widen (k := 0) (n := 0) (Nat.le_of_ble_eq_true rfl) (Nat.le_of_ble_eq_true rfl) ?_
      have hP9 := hP
      have hD9 := hD
      have hK9 := hK
      exact W.iret (v := 219145) hx hb hr (fun t ht hW => ⟨⟨219145, 219145, rfl, rfl, za0_1_4, za0_2_5, za0_3_6, atB ht hP9, va_K.moved hW.alike hK9, hD9⟩, hS.F ht⟩) hS.2.2 dX9_yearBehind_38
  · have c3_1 : a1.toInt = 219145 := (cv_eq rfl (by decide)).mp c3_1
    refine lv_ldc (v := 219145) hx hb hown (hts (.constant RX9 110 (219145)) qw_398) dX9_yearBehind_6 ?_
    have qc219145 : (219145 : Int32).toInt = 219145 := by decide
    refine W.widen (k := 0) (n := 0) (Nat.le_of_ble_eq_true rfl) (Nat.le_of_ble_eq_true rfl) ?_
    have hP9 := hP
    have hD9 := hD
    have hK9 := hK
    exact W.iret (v := 219145) hx hb hr (fun t ht hW => ⟨⟨219145, 219145, rfl, rfl, a0_1, a0_2, a0_3, atB ht hP9, va_K.moved hW.alike hK9, hD9⟩, hS.F ht⟩) hS.2.2 dX9_yearBehind_8
set_option maxHeartbeats 4000000 in
set_option maxRecDepth 100000 in
theorem k_X9_puts (l : Launch) (dC : Nat → ClassId) (dI : Nat → Nat → Nat) (g : Gv) (sz : Nat) (a0 : Nat) (a1 : Int32) (a0_0 : Int32) (a0_1 : Int32) (a0_2 : Int32) (a0_3 : Int32) (a0_4 : Nat) (a0_5 : Int32) (a0_6 : Int32) (a0_7 : Int32) (a0_8 : Int32) (a0_9 : Int32) (a0_10 : Int32) (a0_11 : Int64) (a0_12 : Int32) (a0_13 : Int32) (a0_14 : Int32) (a0_15 : Int32) (a0_16 : Int32) (a0_17 : Int32) (a0_18 : Nat) (a0_19 : Nat) (a0_20 : Nat) (a0_21 : Nat) (a0_22 : Nat) (a0_23 : Nat) (a0_24 : Nat) (a0_25 : Nat) (a0_26 : Nat) (a0_27 : Nat) (a0_28 : Nat) (a0_29 : Nat) (a0_30 : Nat) (a0_31 : Nat) (a0_32 : Nat) (a0_33 : Nat) (a0_34 : Nat) (a0_35 : Nat) (a0_36 : Int64) (a0_37 : Int32) (a0_38 : Nat) (a0_39 : Nat) (a0_40 : Int32) (a0_41 : Nat) (a0_42 : Nat) (a0_43 : Nat) (a0_4_c : ClassId) (a0_4_f : Nat → Int32) (h_a0_5 : 0 ≤ a0_5.toInt ∧ a0_5.toInt ≤ 1000) (h_a0_6 : 0 ≤ a0_6.toInt ∧ a0_6.toInt ≤ 1000) (h_a0_7 : 0 ≤ a0_7.toInt ∧ a0_7.toInt ≤ 1000) (h_a0_8 : 0 ≤ a0_8.toInt ∧ a0_8.toInt ≤ 1000) (h_a0_17 : 0 ≤ a0_17.toInt ∧ a0_17.toInt ≤ 1) (h_a0_37 : (-1) ≤ a0_37.toInt ∧ a0_37.toInt ≤ 23) (h_a0_40 : 0 ≤ a0_40.toInt ∧ a0_40.toInt ≤ 12) (htp : a0_5.toInt ≤ 996) : Met l yX9_puts (.code yX9_puts cX9_puts 3 none :: TBL) ({ frames := 0, cells := 0, slots := 0, locals := 0 }) (va_Pc [.ref a0, .int a1] (fun U => U.heap.size = sz ∧ va_P (dC, dI) vwCl [(a0, .inr (8, [.int a0_0, .int a0_1, .int a0_2, .int a0_3, .ref a0_4, .int a0_5, .int a0_6, .int a0_7, .int a0_8, .int a0_9, .int a0_10, .long a0_11, .int a0_12, .int a0_13, .int a0_14, .int a0_15, .int a0_16, .int a0_17, .ref a0_18, .ref a0_19, .ref a0_20, .ref a0_21, .ref a0_22, .ref a0_23, .ref a0_24, .ref a0_25, .ref a0_26, .ref a0_27, .ref a0_28, .ref a0_29, .ref a0_30, .ref a0_31, .ref a0_32, .ref a0_33, .ref a0_34, .ref a0_35, .long a0_36, .int a0_37, .ref a0_38, .ref a0_39, .int a0_40, .ref a0_41, .ref a0_42, .ref a0_43])), (a0_4, .inl (a0_4_c, 1000, .inl a0_4_f))] U.heap ∧ va_K (dC, dI) vwCl [(a0_4_c, .byte)] U ∧ va_D (fun _ => True) [(a0, .inr (8, [.int a0_0, .int a0_1, .int a0_2, .int a0_3, .ref a0_4, .int a0_5, .int a0_6, .int a0_7, .int a0_8, .int a0_9, .int a0_10, .long a0_11, .int a0_12, .int a0_13, .int a0_14, .int a0_15, .int a0_16, .int a0_17, .ref a0_18, .ref a0_19, .ref a0_20, .ref a0_21, .ref a0_22, .ref a0_23, .ref a0_24, .ref a0_25, .ref a0_26, .ref a0_27, .ref a0_28, .ref a0_29, .ref a0_30, .ref a0_31, .ref a0_32, .ref a0_33, .ref a0_34, .ref a0_35, .long a0_36, .int a0_37, .ref a0_38, .ref a0_39, .int a0_40, .ref a0_41, .ref a0_42, .ref a0_43])), (a0_4, .inl (a0_4_c, 1000, .inl a0_4_f))] ∧ Ev g (va_A [(a0, .inr (8, [.int a0_0, .int a0_1, .int a0_2, .int a0_3, .ref a0_4, .int a0_5, .int a0_6, .int a0_7, .int a0_8, .int a0_9, .int a0_10, .long a0_11, .int a0_12, .int a0_13, .int a0_14, .int a0_15, .int a0_16, .int a0_17, .ref a0_18, .ref a0_19, .ref a0_20, .ref a0_21, .ref a0_22, .ref a0_23, .ref a0_24, .ref a0_25, .ref a0_26, .ref a0_27, .ref a0_28, .ref a0_29, .ref a0_30, .ref a0_31, .ref a0_32, .ref a0_33, .ref a0_34, .ref a0_35, .long a0_36, .int a0_37, .ref a0_38, .ref a0_39, .int a0_40, .ref a0_41, .ref a0_42, .ref a0_43])), (a0_4, .inl (a0_4_c, 1000, .inl a0_4_f))] sz) U)) (va_Qv (fun (_ : Unit) => True) (fun (_ : Unit) (t : State) => ∃ (za0_5 : Int32) (za0_4_f : Nat → Int32), (0 ≤ za0_5.toInt ∧ za0_5.toInt ≤ 1000) ∧ (za0_5.toInt = a0_5.toInt + 4) ∧ va_P (dC, dI) vwCl [(a0, .inr (8, [.int a0_0, .int a0_1, .int a0_2, .int a0_3, .ref a0_4, .int za0_5, .int a0_6, .int a0_7, .int a0_8, .int a0_9, .int a0_10, .long a0_11, .int a0_12, .int a0_13, .int a0_14, .int a0_15, .int a0_16, .int a0_17, .ref a0_18, .ref a0_19, .ref a0_20, .ref a0_21, .ref a0_22, .ref a0_23, .ref a0_24, .ref a0_25, .ref a0_26, .ref a0_27, .ref a0_28, .ref a0_29, .ref a0_30, .ref a0_31, .ref a0_32, .ref a0_33, .ref a0_34, .ref a0_35, .long a0_36, .int a0_37, .ref a0_38, .ref a0_39, .int a0_40, .ref a0_41, .ref a0_42, .ref a0_43])), (a0_4, .inl (a0_4_c, 1000, .inl za0_4_f))] t.heap ∧ va_K (dC, dI) vwCl [] t ∧ va_D (va_A [(a0, .inr (8, [.int a0_0, .int a0_1, .int a0_2, .int a0_3, .ref a0_4, .int a0_5, .int a0_6, .int a0_7, .int a0_8, .int a0_9, .int a0_10, .long a0_11, .int a0_12, .int a0_13, .int a0_14, .int a0_15, .int a0_16, .int a0_17, .ref a0_18, .ref a0_19, .ref a0_20, .ref a0_21, .ref a0_22, .ref a0_23, .ref a0_24, .ref a0_25, .ref a0_26, .ref a0_27, .ref a0_28, .ref a0_29, .ref a0_30, .ref a0_31, .ref a0_32, .ref a0_33, .ref a0_34, .ref a0_35, .long a0_36, .int a0_37, .ref a0_38, .ref a0_39, .int a0_40, .ref a0_41, .ref a0_42, .ref a0_43])), (a0_4, .inl (a0_4_c, 1000, .inl a0_4_f))] sz) [(a0, .inr (8, [.int a0_0, .int a0_1, .int a0_2, .int a0_3, .ref a0_4, .int za0_5, .int a0_6, .int a0_7, .int a0_8, .int a0_9, .int a0_10, .long a0_11, .int a0_12, .int a0_13, .int a0_14, .int a0_15, .int a0_16, .int a0_17, .ref a0_18, .ref a0_19, .ref a0_20, .ref a0_21, .ref a0_22, .ref a0_23, .ref a0_24, .ref a0_25, .ref a0_26, .ref a0_27, .ref a0_28, .ref a0_29, .ref a0_30, .ref a0_31, .ref a0_32, .ref a0_33, .ref a0_34, .ref a0_35, .long a0_36, .int a0_37, .ref a0_38, .ref a0_39, .int a0_40, .ref a0_41, .ref a0_42, .ref a0_43])), (a0_4, .inl (a0_4_c, 1000, .inl za0_4_f))]) (va_A [(a0, .inr (8, [.int a0_0, .int a0_1, .int a0_2, .int a0_3, .ref a0_4, .int a0_5, .int a0_6, .int a0_7, .int a0_8, .int a0_9, .int a0_10, .long a0_11, .int a0_12, .int a0_13, .int a0_14, .int a0_15, .int a0_16, .int a0_17, .ref a0_18, .ref a0_19, .ref a0_20, .ref a0_21, .ref a0_22, .ref a0_23, .ref a0_24, .ref a0_25, .ref a0_26, .ref a0_27, .ref a0_28, .ref a0_29, .ref a0_30, .ref a0_31, .ref a0_32, .ref a0_33, .ref a0_34, .ref a0_35, .long a0_36, .int a0_37, .ref a0_38, .ref a0_39, .int a0_40, .ref a0_41, .ref a0_42, .ref a0_43])), (a0_4, .inl (a0_4_c, 1000, .inl a0_4_f))] sz)) 0 0 (va_A [(a0, .inr (8, [.int a0_0, .int a0_1, .int a0_2, .int a0_3, .ref a0_4, .int a0_5, .int a0_6, .int a0_7, .int a0_8, .int a0_9, .int a0_10, .long a0_11, .int a0_12, .int a0_13, .int a0_14, .int a0_15, .int a0_16, .int a0_17, .ref a0_18, .ref a0_19, .ref a0_20, .ref a0_21, .ref a0_22, .ref a0_23, .ref a0_24, .ref a0_25, .ref a0_26, .ref a0_27, .ref a0_28, .ref a0_29, .ref a0_30, .ref a0_31, .ref a0_32, .ref a0_33, .ref a0_34, .ref a0_35, .long a0_36, .int a0_37, .ref a0_38, .ref a0_39, .int a0_40, .ref a0_41, .ref a0_42, .ref a0_43])), (a0_4, .inl (a0_4_c, 1000, .inl a0_4_f))] sz) := by
  refine Met.ofW (cc := cX9_puts) (maxL := 3) (ret := none) (by decide) rfl ?_
  intro p e s m args below meth c s₁ B hml hv
  obtain ⟨rfl, hsz, hP, hK, hD0, hE⟩ := hv
  have hx := B.exec
  have hb := B.bytes
  have hr := B.returns
  have hts0 := atoms_spec (ws := (.code yX9_puts cX9_puts 3 none :: TBL)) B.pre
  have hts := fun (w : Cond) (h : w ∈ TBL) => hts0 w (List.mem_cons_of_mem _ h)
  have hown : s.vm.findClass RX9 = some m.cls := findClass_of_methodNamed B.named
  have hlocks := B.notSynchronized
  have hN := hE.1
  subst hsz
  have hD := hD0.self (sz := s.heap.size)
  generalize hAe : va_A [(a0, .inr (8, [.int a0_0, .int a0_1, .int a0_2, .int a0_3, .ref a0_4, .int a0_5, .int a0_6, .int a0_7, .int a0_8, .int a0_9, .int a0_10, .long a0_11, .int a0_12, .int a0_13, .int a0_14, .int a0_15, .int a0_16, .int a0_17, .ref a0_18, .ref a0_19, .ref a0_20, .ref a0_21, .ref a0_22, .ref a0_23, .ref a0_24, .ref a0_25, .ref a0_26, .ref a0_27, .ref a0_28, .ref a0_29, .ref a0_30, .ref a0_31, .ref a0_32, .ref a0_33, .ref a0_34, .ref a0_35, .long a0_36, .int a0_37, .ref a0_38, .ref a0_39, .int a0_40, .ref a0_41, .ref a0_42, .ref a0_43])), (a0_4, .inl (a0_4_c, 1000, .inl a0_4_f))] s.heap.size = A at hD hE ⊢
  have hA : ∀ q : Nat, s.heap.size ≤ q → A q := fun q h => by rw [← hAe]; exact Or.inr h
  have hS : va_S A s.heap s.heap [] := va_S.rf
  replace hP : va_P (dC, dI) vwCl [(a0, .inr (8, [.int a0_0, .int a0_1, .int a0_2, .int a0_3, .ref a0_4, .int a0_5, .int a0_6, .int a0_7, .int a0_8, .int a0_9, .int a0_10, .long a0_11, .int a0_12, .int a0_13, .int a0_14, .int a0_15, .int a0_16, .int a0_17, .ref a0_18, .ref a0_19, .ref a0_20, .ref a0_21, .ref a0_22, .ref a0_23, .ref a0_24, .ref a0_25, .ref a0_26, .ref a0_27, .ref a0_28, .ref a0_29, .ref a0_30, .ref a0_31, .ref a0_32, .ref a0_33, .ref a0_34, .ref a0_35, .long a0_36, .int a0_37, .ref a0_38, .ref a0_39, .int a0_40, .ref a0_41, .ref a0_42, .ref a0_43])), (a0_4, .inl (a0_4_c, 1000, .inl a0_4_f))] s.heap := hP
  have hl := lv_entry ([.ref a0, .int a1]) (n := 3) (Nat.le_of_ble_eq_true rfl)
  rw [lg_entry_eq]
  generalize (lg_sl ([.ref a0, .int a1]) ++ List.replicate (3 - (lg_sl ([.ref a0, .int a1])).length) Slot.unset).toArray = ls at hl ⊢
  have hl : lv_has ls 3 [(0, .ref a0), (1, .int a1)] := hl
  have b_a1 := i32b a1
  have b_a0_0 := i32b a0_0
  have b_a0_1 := i32b a0_1
  have b_a0_2 := i32b a0_2
  have b_a0_3 := i32b a0_3
  have b_a0_9 := i32b a0_9
  have b_a0_10 := i32b a0_10
  have b_a0_12 := i32b a0_12
  have b_a0_13 := i32b a0_13
  have b_a0_14 := i32b a0_14
  have b_a0_15 := i32b a0_15
  have b_a0_16 := i32b a0_16
  refine lv_bipush (v := 24) hx hb dX9_puts_0 (by decide) ?_
  refine lv_istore_n (lv' := [(2, .int 24), (0, .ref a0), (1, .int a1)]) hx hb dX9_puts_2 rfl hl (by decide) rfl (fun ls hl => ?_)
  have qc24 : (24 : Int32).toInt = 24 := by decide
  refine wloop (fun n H locs ls => ∃ (l3_2 : Int32) (f3_0_5 : Int32) (w3_1 : Nat → Int32), n = (l3_2.toInt + 2147483648).toNat ∧ ((0 ≤ f3_0_5.toInt ∧ f3_0_5.toInt ≤ 1000)) ∧ (l3_2.toInt ≤ 24) ∧ (8 * (f3_0_5.toInt - a0_5.toInt) = 24 - l3_2.toInt ∧ -8 ≤ l3_2.toInt) ∧ lv_has ls 3 [(2, .int l3_2), (0, .ref a0), (1, .int a1)] ∧ va_P (dC, dI) vwCl [(a0, .inr (8, [.int a0_0, .int a0_1, .int a0_2, .int a0_3, .ref a0_4, .int f3_0_5, .int a0_6, .int a0_7, .int a0_8, .int a0_9, .int a0_10, .long a0_11, .int a0_12, .int a0_13, .int a0_14, .int a0_15, .int a0_16, .int a0_17, .ref a0_18, .ref a0_19, .ref a0_20, .ref a0_21, .ref a0_22, .ref a0_23, .ref a0_24, .ref a0_25, .ref a0_26, .ref a0_27, .ref a0_28, .ref a0_29, .ref a0_30, .ref a0_31, .ref a0_32, .ref a0_33, .ref a0_34, .ref a0_35, .long a0_36, .int a0_37, .ref a0_38, .ref a0_39, .int a0_40, .ref a0_41, .ref a0_42, .ref a0_43])), (a0_4, .inl (a0_4_c, 1000, .inl w3_1))] H ∧ va_D A [(a0, .inr (8, [.int a0_0, .int a0_1, .int a0_2, .int a0_3, .ref a0_4, .int f3_0_5, .int a0_6, .int a0_7, .int a0_8, .int a0_9, .int a0_10, .long a0_11, .int a0_12, .int a0_13, .int a0_14, .int a0_15, .int a0_16, .int a0_17, .ref a0_18, .ref a0_19, .ref a0_20, .ref a0_21, .ref a0_22, .ref a0_23, .ref a0_24, .ref a0_25, .ref a0_26, .ref a0_27, .ref a0_28, .ref a0_29, .ref a0_30, .ref a0_31, .ref a0_32, .ref a0_33, .ref a0_34, .ref a0_35, .long a0_36, .int a0_37, .ref a0_38, .ref a0_39, .int a0_40, .ref a0_41, .ref a0_42, .ref a0_43])), (a0_4, .inl (a0_4_c, 1000, .inl w3_1))] ∧ va_S A s.heap H locs) ?_ (((24 : Int32).toInt + 2147483648).toNat) _ _ _ ⟨24, a0_5, a0_4_f, rfl, (by omega), (by omega), (by omega), lv_sub hl [0, 1, 2] rfl, hP, hD, hS⟩
  intro n3 H locs ls hI ih3
  obtain ⟨l3_2, f3_0_5, w3_1, hn3, g_f3_0_5, g_l3_2, gx3_0, hl, hP, hD, hS⟩ := hI
  have b_l3_2 := i32b l3_2
  have b_f3_0_5 := i32b f3_0_5
  refine lv_iload_n hx hb dX9_puts_3 rfl (lv_at hl 0 rfl) ?_
  refine lv_if_lt (tgt := 36) hx hb dX9_puts_4 (by decide) (fun c4_1 => ?_) (fun c4_1 => ?_)
  · have c4_1 : l3_2.toInt < 0 := (cv_lt rfl (by decide)).mp c4_1
    refine W.widen (k := 0) (n := 0) (Nat.le_of_ble_eq_true rfl) (Nat.le_of_ble_eq_true rfl) ?_
    have hP9 := hP
    have hD9 := hD
    have hK9 := (rgK1_f3b3254 hK)
    have hf9_0 : (0 ≤ f3_0_5.toInt ∧ f3_0_5.toInt ≤ 1000) := by omega
    have hf9_1 : (f3_0_5.toInt = a0_5.toInt + 4) := by omega
    exact W.vret hx hb hr (fun t ht hW => ⟨⟨(), rfl, trivial, f3_0_5, w3_1, hf9_0, hf9_1, atB ht hP9, va_K.moved hW.alike hK9, hD9⟩, hS.F ht⟩) hS.2.2 dX9_puts_36
  · have c4_1 : ¬ (l3_2.toInt < 0) := mt (cv_lt rfl (by decide)).mpr c4_1
    refine lv_aload_n hx hb dX9_puts_7 rfl (lv_at hl 1 rfl) ?_
    refine va_get (D := (dC, dI)) (ci := 8) (v := .ref a0_4) (C := RX9) (T := TX9) (N := 44) hx hb hts inlX9 hown hK hP 0 rgL2_5ac5f51 rfl 4 (by decide) (hts (.fieldLink RX9 7 "ClosedUntilModel" "tape" "[B") qw_406) (fun _ h9 => h9) rfl dX9_puts_8 ?_
    refine lv_aload_n hx hb dX9_puts_11 rfl (lv_at hl 1 rfl) ?_
    refine va_get (D := (dC, dI)) (ci := 8) (v := .int f3_0_5) (C := RX9) (T := TX9) (N := 44) hx hb hts inlX9 hown hK hP 0 rgL2_5ac5f51 rfl 5 (by decide) (hts (.fieldLink RX9 142 "ClosedUntilModel" "taped" "I") qw_407) (fun _ h9 => h9) rfl dX9_puts_12 ?_
    refine lv_iload_n hx hb dX9_puts_15 rfl (lv_at hl 2 rfl) ?_
    refine lv_iload_n hx hb dX9_puts_16 rfl (lv_at hl 0 rfl) ?_
    refine lv_ishr hx hb dX9_puts_17 ?_
    refine lv_topi (fun x2 e_x2 => ?_)
    refine lv_i2b hx hb dX9_puts_18 rfl ?_
    refine lv_topi (fun x3 e_x3 => ?_)
    refine va_bast hx hb hK hP hD hS 1 0 rgL2_906ef0f rgT1_bb00d73 (vinI (by omega) (by omega)) dX9_puts_19 (fun H locs hP9 hD9 hS9 => ?_)
    obtain ⟨y4, e_y4⟩ : ∃ y, (upd w3_1 f3_0_5.toNatClampNeg (vp_nar .byte x3)) = y := ⟨_, rfl⟩
    clear hP hD hS
    obtain ⟨hP, hD⟩ := rgS2_56f84fb (e := (a0_4, .inl (a0_4_c, 1000, .inl y4))) hP9 hD9 (congrArg (fun z9 => (((a0_4, .inl (a0_4_c, 1000, .inl z9)) : Nat × va_E))) e_y4)
    have hS := hS9; clear hP9 hD9 hS9
    refine lv_aload_n hx hb dX9_puts_20 rfl (lv_at hl 1 rfl) ?_
    refine lv_dup hx hb dX9_puts_21 rfl ?_
    refine va_get (D := (dC, dI)) (ci := 8) (v := .int f3_0_5) (C := RX9) (T := TX9) (N := 44) hx hb hts inlX9 hown hK hP 0 rgL2_5ac5f51 rfl 5 (by decide) (hts (.fieldLink RX9 142 "ClosedUntilModel" "taped" "I") qw_407) (fun _ h9 => h9) rfl dX9_puts_22 ?_
    refine lv_iconst (v := 1) hx hb dX9_puts_25 (by decide) ?_
    refine lv_iadd hx hb dX9_puts_26 ?_
    refine lv_topi (fun x5 e_x5 => ?_)
    try have e_x5 := ti_add e_x5 rfl (show (1 : Int32).toInt = 1 by decide) (by omega)
    refine va_put (D := (dC, dI)) (ci := 8) (v := .int x5) (ty := .int) (C := RX9) (T := TX9) (N := 44) hx hb hts inlX9 tyX9 tyX9_ok nmX9 hown hK hP hD hS 0 rgL2_5ac5f51 rfl 5 (by decide) (hts (.fieldLink RX9 142 "ClosedUntilModel" "taped" "I") qw_407) (fun _ h9 => h9) rfl (by decide +kernel) rfl rfl (Nat.le_of_ble_eq_true rfl) dX9_puts_27 (fun H locs hP9 hD9 hS9 => ?_)
    clear hP hD hS
    obtain ⟨hP, hD⟩ := rgS2_40109d0 (e := (a0, .inr (8, [.int a0_0, .int a0_1, .int a0_2, .int a0_3, .ref a0_4, .int x5, .int a0_6, .int a0_7, .int a0_8, .int a0_9, .int a0_10, .long a0_11, .int a0_12, .int a0_13, .int a0_14, .int a0_15, .int a0_16, .int a0_17, .ref a0_18, .ref a0_19, .ref a0_20, .ref a0_21, .ref a0_22, .ref a0_23, .ref a0_24, .ref a0_25, .ref a0_26, .ref a0_27, .ref a0_28, .ref a0_29, .ref a0_30, .ref a0_31, .ref a0_32, .ref a0_33, .ref a0_34, .ref a0_35, .long a0_36, .int a0_37, .ref a0_38, .ref a0_39, .int a0_40, .ref a0_41, .ref a0_42, .ref a0_43]))) hP9 hD9 rfl
    have hS := hS9; clear hP9 hD9 hS9
    obtain ⟨x6, e_x6⟩ : ∃ y : Int32, y = l3_2 + (-8) := ⟨_, rfl⟩
    refine lv_iinc (v := x6) (lv' := [(2, .int x6), (0, .ref a0), (1, .int a1)]) hx hb dX9_puts_30 hl (k := 0) rfl (by rw [e_x6]; rfl) (by decide) rfl (fun ls hl => ?_)
    try have e_x6 := ti_add e_x6 rfl (show ((-8) : Int32).toInt = (-8) by decide) (by omega)
    refine lv_goto (tgt := 3) hx hb dX9_puts_33 (by decide) ?_
    exact ih3 ((x6.toInt + 2147483648).toNat) _ _ _ (by omega) ⟨x6, x5, y4, rfl, (by omega), (by omega), (by omega), lv_sub hl [0, 1, 2] rfl, hP, hD, hS⟩
set_option maxHeartbeats 4000000 in
set_option maxRecDepth 100000 in
theorem k_X9_feed (l : Launch) (dC : Nat → ClassId) (dI : Nat → Nat → Nat) (g : Gv) (sz : Nat) (a0 : Nat) (a1 : Int32) (a2 : Int32) (a3 : Int32) (a4 : Int32) (a5 : Int32) (a0_0 : Int32) (a0_1 : Int32) (a0_2 : Int32) (a0_3 : Int32) (a0_4 : Nat) (a0_5 : Int32) (a0_6 : Int32) (a0_7 : Int32) (a0_8 : Int32) (a0_9 : Int32) (a0_10 : Int32) (a0_11 : Int64) (a0_12 : Int32) (a0_13 : Int32) (a0_14 : Int32) (a0_15 : Int32) (a0_16 : Int32) (a0_17 : Int32) (a0_18 : Nat) (a0_19 : Nat) (a0_20 : Nat) (a0_21 : Nat) (a0_22 : Nat) (a0_23 : Nat) (a0_24 : Nat) (a0_25 : Nat) (a0_26 : Nat) (a0_27 : Nat) (a0_28 : Nat) (a0_29 : Nat) (a0_30 : Nat) (a0_31 : Nat) (a0_32 : Nat) (a0_33 : Nat) (a0_34 : Nat) (a0_35 : Nat) (a0_36 : Int64) (a0_37 : Int32) (a0_38 : Nat) (a0_39 : Nat) (a0_40 : Int32) (a0_41 : Nat) (a0_42 : Nat) (a0_43 : Nat) (a0_4_c : ClassId) (a0_4_f : Nat → Int32) (h_a0_5 : 0 ≤ a0_5.toInt ∧ a0_5.toInt ≤ 1000) (h_a0_6 : 0 ≤ a0_6.toInt ∧ a0_6.toInt ≤ 1000) (h_a0_7 : 0 ≤ a0_7.toInt ∧ a0_7.toInt ≤ 1000) (h_a0_8 : 0 ≤ a0_8.toInt ∧ a0_8.toInt ≤ 1000) (h_a0_17 : 0 ≤ a0_17.toInt ∧ a0_17.toInt ≤ 1) (h_a0_37 : (-1) ≤ a0_37.toInt ∧ a0_37.toInt ≤ 23) (h_a0_40 : 0 ≤ a0_40.toInt ∧ a0_40.toInt ≤ 12) : Met l yX9_feed (.code yX9_feed cX9_feed 6 (some .int) :: TBL) ({ frames := 1, cells := 0, slots := 0, locals := 22 }) (va_Pc [.ref a0, .int a1, .int a2, .int a3, .int a4, .int a5] (fun U => U.heap.size = sz ∧ va_P (dC, dI) vwCl [(a0, .inr (8, [.int a0_0, .int a0_1, .int a0_2, .int a0_3, .ref a0_4, .int a0_5, .int a0_6, .int a0_7, .int a0_8, .int a0_9, .int a0_10, .long a0_11, .int a0_12, .int a0_13, .int a0_14, .int a0_15, .int a0_16, .int a0_17, .ref a0_18, .ref a0_19, .ref a0_20, .ref a0_21, .ref a0_22, .ref a0_23, .ref a0_24, .ref a0_25, .ref a0_26, .ref a0_27, .ref a0_28, .ref a0_29, .ref a0_30, .ref a0_31, .ref a0_32, .ref a0_33, .ref a0_34, .ref a0_35, .long a0_36, .int a0_37, .ref a0_38, .ref a0_39, .int a0_40, .ref a0_41, .ref a0_42, .ref a0_43])), (a0_4, .inl (a0_4_c, 1000, .inl a0_4_f))] U.heap ∧ va_K (dC, dI) vwCl [(a0_4_c, .byte)] U ∧ va_D (fun _ => True) [(a0, .inr (8, [.int a0_0, .int a0_1, .int a0_2, .int a0_3, .ref a0_4, .int a0_5, .int a0_6, .int a0_7, .int a0_8, .int a0_9, .int a0_10, .long a0_11, .int a0_12, .int a0_13, .int a0_14, .int a0_15, .int a0_16, .int a0_17, .ref a0_18, .ref a0_19, .ref a0_20, .ref a0_21, .ref a0_22, .ref a0_23, .ref a0_24, .ref a0_25, .ref a0_26, .ref a0_27, .ref a0_28, .ref a0_29, .ref a0_30, .ref a0_31, .ref a0_32, .ref a0_33, .ref a0_34, .ref a0_35, .long a0_36, .int a0_37, .ref a0_38, .ref a0_39, .int a0_40, .ref a0_41, .ref a0_42, .ref a0_43])), (a0_4, .inl (a0_4_c, 1000, .inl a0_4_f))] ∧ Ev g (va_A [(a0, .inr (8, [.int a0_0, .int a0_1, .int a0_2, .int a0_3, .ref a0_4, .int a0_5, .int a0_6, .int a0_7, .int a0_8, .int a0_9, .int a0_10, .long a0_11, .int a0_12, .int a0_13, .int a0_14, .int a0_15, .int a0_16, .int a0_17, .ref a0_18, .ref a0_19, .ref a0_20, .ref a0_21, .ref a0_22, .ref a0_23, .ref a0_24, .ref a0_25, .ref a0_26, .ref a0_27, .ref a0_28, .ref a0_29, .ref a0_30, .ref a0_31, .ref a0_32, .ref a0_33, .ref a0_34, .ref a0_35, .long a0_36, .int a0_37, .ref a0_38, .ref a0_39, .int a0_40, .ref a0_41, .ref a0_42, .ref a0_43])), (a0_4, .inl (a0_4_c, 1000, .inl a0_4_f))] sz) U)) (va_Qi (fun (r : Int32) (u : Int32) => u = r) (fun (u : Int32) (t : State) => ∃ (za0_0 : Int32) (za0_5 : Int32) (za0_4_f : Nat → Int32), (0 ≤ za0_5.toInt ∧ za0_5.toInt ≤ 1000) ∧ (FE a0_5 u za0_5) ∧ va_P (dC, dI) vwCl [(a0, .inr (8, [.int za0_0, .int a0_1, .int a0_2, .int a0_3, .ref a0_4, .int za0_5, .int a0_6, .int a0_7, .int a0_8, .int a0_9, .int a0_10, .long a0_11, .int a0_12, .int a0_13, .int a0_14, .int a0_15, .int a0_16, .int a0_17, .ref a0_18, .ref a0_19, .ref a0_20, .ref a0_21, .ref a0_22, .ref a0_23, .ref a0_24, .ref a0_25, .ref a0_26, .ref a0_27, .ref a0_28, .ref a0_29, .ref a0_30, .ref a0_31, .ref a0_32, .ref a0_33, .ref a0_34, .ref a0_35, .long a0_36, .int a0_37, .ref a0_38, .ref a0_39, .int a0_40, .ref a0_41, .ref a0_42, .ref a0_43])), (a0_4, .inl (a0_4_c, 1000, .inl za0_4_f))] t.heap ∧ va_K (dC, dI) vwCl [] t ∧ va_D (va_A [(a0, .inr (8, [.int a0_0, .int a0_1, .int a0_2, .int a0_3, .ref a0_4, .int a0_5, .int a0_6, .int a0_7, .int a0_8, .int a0_9, .int a0_10, .long a0_11, .int a0_12, .int a0_13, .int a0_14, .int a0_15, .int a0_16, .int a0_17, .ref a0_18, .ref a0_19, .ref a0_20, .ref a0_21, .ref a0_22, .ref a0_23, .ref a0_24, .ref a0_25, .ref a0_26, .ref a0_27, .ref a0_28, .ref a0_29, .ref a0_30, .ref a0_31, .ref a0_32, .ref a0_33, .ref a0_34, .ref a0_35, .long a0_36, .int a0_37, .ref a0_38, .ref a0_39, .int a0_40, .ref a0_41, .ref a0_42, .ref a0_43])), (a0_4, .inl (a0_4_c, 1000, .inl a0_4_f))] sz) [(a0, .inr (8, [.int za0_0, .int a0_1, .int a0_2, .int a0_3, .ref a0_4, .int za0_5, .int a0_6, .int a0_7, .int a0_8, .int a0_9, .int a0_10, .long a0_11, .int a0_12, .int a0_13, .int a0_14, .int a0_15, .int a0_16, .int a0_17, .ref a0_18, .ref a0_19, .ref a0_20, .ref a0_21, .ref a0_22, .ref a0_23, .ref a0_24, .ref a0_25, .ref a0_26, .ref a0_27, .ref a0_28, .ref a0_29, .ref a0_30, .ref a0_31, .ref a0_32, .ref a0_33, .ref a0_34, .ref a0_35, .long a0_36, .int a0_37, .ref a0_38, .ref a0_39, .int a0_40, .ref a0_41, .ref a0_42, .ref a0_43])), (a0_4, .inl (a0_4_c, 1000, .inl za0_4_f))]) (va_A [(a0, .inr (8, [.int a0_0, .int a0_1, .int a0_2, .int a0_3, .ref a0_4, .int a0_5, .int a0_6, .int a0_7, .int a0_8, .int a0_9, .int a0_10, .long a0_11, .int a0_12, .int a0_13, .int a0_14, .int a0_15, .int a0_16, .int a0_17, .ref a0_18, .ref a0_19, .ref a0_20, .ref a0_21, .ref a0_22, .ref a0_23, .ref a0_24, .ref a0_25, .ref a0_26, .ref a0_27, .ref a0_28, .ref a0_29, .ref a0_30, .ref a0_31, .ref a0_32, .ref a0_33, .ref a0_34, .ref a0_35, .long a0_36, .int a0_37, .ref a0_38, .ref a0_39, .int a0_40, .ref a0_41, .ref a0_42, .ref a0_43])), (a0_4, .inl (a0_4_c, 1000, .inl a0_4_f))] sz)) 0 0 (va_A [(a0, .inr (8, [.int a0_0, .int a0_1, .int a0_2, .int a0_3, .ref a0_4, .int a0_5, .int a0_6, .int a0_7, .int a0_8, .int a0_9, .int a0_10, .long a0_11, .int a0_12, .int a0_13, .int a0_14, .int a0_15, .int a0_16, .int a0_17, .ref a0_18, .ref a0_19, .ref a0_20, .ref a0_21, .ref a0_22, .ref a0_23, .ref a0_24, .ref a0_25, .ref a0_26, .ref a0_27, .ref a0_28, .ref a0_29, .ref a0_30, .ref a0_31, .ref a0_32, .ref a0_33, .ref a0_34, .ref a0_35, .long a0_36, .int a0_37, .ref a0_38, .ref a0_39, .int a0_40, .ref a0_41, .ref a0_42, .ref a0_43])), (a0_4, .inl (a0_4_c, 1000, .inl a0_4_f))] sz) := by
  refine Met.ofW (cc := cX9_feed) (maxL := 6) (ret := (some .int)) (by decide) rfl ?_
  intro p e s m args below meth c s₁ B hml hv
  obtain ⟨rfl, hsz, hP, hK, hD0, hE⟩ := hv
  have hx := B.exec
  have hb := B.bytes
  have hr := B.returns
  have hts0 := atoms_spec (ws := (.code yX9_feed cX9_feed 6 (some .int) :: TBL)) B.pre
  have hts := fun (w : Cond) (h : w ∈ TBL) => hts0 w (List.mem_cons_of_mem _ h)
  have hown : s.vm.findClass RX9 = some m.cls := findClass_of_methodNamed B.named
  have hlocks := B.notSynchronized
  have hN := hE.1
  subst hsz
  have hD := hD0.self (sz := s.heap.size)
  generalize hAe : va_A [(a0, .inr (8, [.int a0_0, .int a0_1, .int a0_2, .int a0_3, .ref a0_4, .int a0_5, .int a0_6, .int a0_7, .int a0_8, .int a0_9, .int a0_10, .long a0_11, .int a0_12, .int a0_13, .int a0_14, .int a0_15, .int a0_16, .int a0_17, .ref a0_18, .ref a0_19, .ref a0_20, .ref a0_21, .ref a0_22, .ref a0_23, .ref a0_24, .ref a0_25, .ref a0_26, .ref a0_27, .ref a0_28, .ref a0_29, .ref a0_30, .ref a0_31, .ref a0_32, .ref a0_33, .ref a0_34, .ref a0_35, .long a0_36, .int a0_37, .ref a0_38, .ref a0_39, .int a0_40, .ref a0_41, .ref a0_42, .ref a0_43])), (a0_4, .inl (a0_4_c, 1000, .inl a0_4_f))] s.heap.size = A at hD hE ⊢
  have hA : ∀ q : Nat, s.heap.size ≤ q → A q := fun q h => by rw [← hAe]; exact Or.inr h
  have hS : va_S A s.heap s.heap [] := va_S.rf
  replace hP : va_P (dC, dI) vwCl [(a0, .inr (8, [.int a0_0, .int a0_1, .int a0_2, .int a0_3, .ref a0_4, .int a0_5, .int a0_6, .int a0_7, .int a0_8, .int a0_9, .int a0_10, .long a0_11, .int a0_12, .int a0_13, .int a0_14, .int a0_15, .int a0_16, .int a0_17, .ref a0_18, .ref a0_19, .ref a0_20, .ref a0_21, .ref a0_22, .ref a0_23, .ref a0_24, .ref a0_25, .ref a0_26, .ref a0_27, .ref a0_28, .ref a0_29, .ref a0_30, .ref a0_31, .ref a0_32, .ref a0_33, .ref a0_34, .ref a0_35, .long a0_36, .int a0_37, .ref a0_38, .ref a0_39, .int a0_40, .ref a0_41, .ref a0_42, .ref a0_43])), (a0_4, .inl (a0_4_c, 1000, .inl a0_4_f))] s.heap := hP
  have hl := lv_entry ([.ref a0, .int a1, .int a2, .int a3, .int a4, .int a5]) (n := 6) (Nat.le_of_ble_eq_true rfl)
  rw [lg_entry_eq]
  generalize (lg_sl ([.ref a0, .int a1, .int a2, .int a3, .int a4, .int a5]) ++ List.replicate (6 - (lg_sl ([.ref a0, .int a1, .int a2, .int a3, .int a4, .int a5])).length) Slot.unset).toArray = ls at hl ⊢
  have hl : lv_has ls 6 [(0, .ref a0), (1, .int a1), (2, .int a2), (3, .int a3), (4, .int a4), (5, .int a5)] := hl
  have b_a1 := i32b a1
  have b_a2 := i32b a2
  have b_a3 := i32b a3
  have b_a4 := i32b a4
  have b_a5 := i32b a5
  have b_a0_0 := i32b a0_0
  have b_a0_1 := i32b a0_1
  have b_a0_2 := i32b a0_2
  have b_a0_3 := i32b a0_3
  have b_a0_9 := i32b a0_9
  have b_a0_10 := i32b a0_10
  have b_a0_12 := i32b a0_12
  have b_a0_13 := i32b a0_13
  have b_a0_14 := i32b a0_14
  have b_a0_15 := i32b a0_15
  have b_a0_16 := i32b a0_16
  refine lv_aload_n hx hb dX9_feed_0 rfl (lv_at hl 0 rfl) ?_
  refine lv_iconst (v := 0) hx hb dX9_feed_1 (by decide) ?_
  refine va_put (D := (dC, dI)) (ci := 8) (v := .int 0) (ty := .int) (C := RX9) (T := TX9) (N := 44) hx hb hts inlX9 tyX9 tyX9_ok nmX9 hown hK hP hD hS 0 rgL2_5ac5f51 rfl 0 (by decide) (hts (.fieldLink RX9 85 "ClosedUntilModel" "thrown" "I") qw_408) (fun _ h9 => h9) rfl (by decide +kernel) rfl rfl (Nat.le_of_ble_eq_true rfl) dX9_feed_2 (fun H locs hP9 hD9 hS9 => ?_)
  clear hP hD hS
  obtain ⟨hP, hD⟩ := rgS2_40109d0 (e := (a0, .inr (8, [.int 0, .int a0_1, .int a0_2, .int a0_3, .ref a0_4, .int a0_5, .int a0_6, .int a0_7, .int a0_8, .int a0_9, .int a0_10, .long a0_11, .int a0_12, .int a0_13, .int a0_14, .int a0_15, .int a0_16, .int a0_17, .ref a0_18, .ref a0_19, .ref a0_20, .ref a0_21, .ref a0_22, .ref a0_23, .ref a0_24, .ref a0_25, .ref a0_26, .ref a0_27, .ref a0_28, .ref a0_29, .ref a0_30, .ref a0_31, .ref a0_32, .ref a0_33, .ref a0_34, .ref a0_35, .long a0_36, .int a0_37, .ref a0_38, .ref a0_39, .int a0_40, .ref a0_41, .ref a0_42, .ref a0_43]))) hP9 hD9 rfl
  have hS := hS9; clear hP9 hD9 hS9
  refine lv_aload_n hx hb dX9_feed_5 rfl (lv_at hl 0 rfl) ?_
  refine va_get (D := (dC, dI)) (ci := 8) (v := .int a0_5) (C := RX9) (T := TX9) (N := 44) hx hb hts inlX9 hown hK hP 0 rgL2_5ac5f51 rfl 5 (by decide) (hts (.fieldLink RX9 142 "ClosedUntilModel" "taped" "I") qw_407) (fun _ h9 => h9) rfl dX9_feed_6 ?_
  refine lv_bipush (v := 20) hx hb dX9_feed_9 (by decide) ?_
  refine lv_iadd hx hb dX9_feed_11 ?_
  refine lv_topi (fun x1 e_x1 => ?_)
  try have e_x1 := ti_add e_x1 rfl (show (20 : Int32).toInt = 20 by decide) (by omega)
  refine lv_sipush (v := 1000) hx hb dX9_feed_12 (by decide) ?_
  refine lv_icmp_le (tgt := 20) hx hb dX9_feed_15 (by decide) (fun c15_2 => ?_) (fun c15_2 => ?_)
  · have c15_2 : x1.toInt ≤ 1000 := (cv_le rfl (by decide)).mp c15_2
    refine lv_aload_n hx hb dX9_feed_20 rfl (lv_at hl 0 rfl) ?_
    refine lv_iload_n hx hb dX9_feed_21 rfl (lv_at hl 1 rfl) ?_
    have qc0 : (0 : Int32).toInt = 0 := by decide
    have hPc := hP
    have hKc := hK
    have hDc := hD
    have hFc := freeW hDc hS hA
    refine va_callv (va_runV (As := [.int a1]) (rest := []) ⟨hx, hb, hml, hown, hts⟩ (k_X9_puts l dC dI g H.size (a0) (a1) (0) (a0_1) (a0_2) (a0_3) (a0_4) (a0_5) (a0_6) (a0_7) (a0_8) (a0_9) (a0_10) (a0_11) (a0_12) (a0_13) (a0_14) (a0_15) (a0_16) (a0_17) (a0_18) (a0_19) (a0_20) (a0_21) (a0_22) (a0_23) (a0_24) (a0_25) (a0_26) (a0_27) (a0_28) (a0_29) (a0_30) (a0_31) (a0_32) (a0_33) (a0_34) (a0_35) (a0_36) (a0_37) (a0_38) (a0_39) (a0_40) (a0_41) (a0_42) (a0_43) (a0_4_c) (a0_4_f) (by omega) (by omega) (by omega) (by omega) (by omega) (by omega) (by omega) (by omega)) (cwV 1 hts (gwV qw_410 qw_411 qw_412 qw_386 qw_409) rfl rfl rfl (by decide +kernel) ⟨Nat.le_of_ble_eq_true rfl, Nat.le_of_ble_eq_true rfl⟩) ⟨fun a U g9 mk q => ⟨q.1, q.2.1, q.2.2.1, va_K.moved (u := U) (U := U.calling g9 mk a) (Vm.Alike.refl U.vm) q.2.2.2.1, q.2.2.2.2.1, Ev.bl q.2.2.2.2.2⟩, va_recv hK hP (ci := 8) (q0 := 0) rfl rgL2_5ac5f51, fun U hU hW => ⟨rfl, by rw [hU], atB hU hPc, va_K.moved hW.alike hKc, hDc.weaken (fun _ _ _ _ => trivial), hE.go hS hFc hU hW⟩⟩ rfl rfl hl.1 rfl (lv_room (Nat.le_of_ble_eq_true rfl)) dX9_feed_22 ⟨Nat.le_of_ble_eq_true rfl, Nat.le_of_ble_eq_true rfl⟩) hS (fun q _ h => hFc q h) hFc (fun u3 t H1 locs ht hvm h_u3 hB hz1 hk1 hS => ?_)
    obtain ⟨za0_5_5, za0_4_f_6, hF7, hF8, hP1, hK1, hD1⟩ := hB
    have hK1 := va_K.moved hvm.symm hK1
    have hJ9 := rgJ2_9775942 hP hD hk1 hFc (atH ht hP1) hD1
    clear hP hD hPc hKc hDc hFc hP1 hD1 hk1 hz1
    obtain ⟨hP, hD⟩ := hJ9
    clear hK1
    generalize H1 = H at hP hS ⊢
    refine W.widen (k := 0) (n := 0) (Nat.le_of_ble_eq_true rfl) (Nat.le_of_ble_eq_true rfl) ?_
    refine lv_aload_n hx hb dX9_feed_25 rfl (lv_at hl 0 rfl) ?_
    refine lv_iload_n hx hb dX9_feed_26 rfl (lv_at hl 2 rfl) ?_
    have qc0 : (0 : Int32).toInt = 0 := by decide
    have hPc := hP
    have hKc := hK
    have hDc := hD
    have hFc := freeW hDc hS hA
    refine va_callv (va_runV (As := [.int a2]) (rest := []) ⟨hx, hb, hml, hown, hts⟩ (k_X9_puts l dC dI g H.size (a0) (a2) (0) (a0_1) (a0_2) (a0_3) (a0_4) (za0_5_5) (a0_6) (a0_7) (a0_8) (a0_9) (a0_10) (a0_11) (a0_12) (a0_13) (a0_14) (a0_15) (a0_16) (a0_17) (a0_18) (a0_19) (a0_20) (a0_21) (a0_22) (a0_23) (a0_24) (a0_25) (a0_26) (a0_27) (a0_28) (a0_29) (a0_30) (a0_31) (a0_32) (a0_33) (a0_34) (a0_35) (a0_36) (a0_37) (a0_38) (a0_39) (a0_40) (a0_41) (a0_42) (a0_43) (a0_4_c) (za0_4_f_6) (by omega) (by omega) (by omega) (by omega) (by omega) (by omega) (by omega) (by omega)) (cwV 1 hts (gwV qw_410 qw_411 qw_412 qw_386 qw_409) rfl rfl rfl (by decide +kernel) ⟨Nat.le_of_ble_eq_true rfl, Nat.le_of_ble_eq_true rfl⟩) ⟨fun a U g9 mk q => ⟨q.1, q.2.1, q.2.2.1, va_K.moved (u := U) (U := U.calling g9 mk a) (Vm.Alike.refl U.vm) q.2.2.2.1, q.2.2.2.2.1, Ev.bl q.2.2.2.2.2⟩, va_recv hK hP (ci := 8) (q0 := 0) rfl rgL2_5ac5f51, fun U hU hW => ⟨rfl, by rw [hU], atB hU hPc, va_K.moved hW.alike hKc, hDc.weaken (fun _ _ _ _ => trivial), hE.go hS hFc hU hW⟩⟩ rfl rfl hl.1 rfl (lv_room (Nat.le_of_ble_eq_true rfl)) dX9_feed_27 ⟨Nat.le_of_ble_eq_true rfl, Nat.le_of_ble_eq_true rfl⟩) hS (fun q _ h => hFc q h) hFc (fun u9 t H1 locs ht hvm h_u9 hB hz1 hk1 hS => ?_)
    obtain ⟨za0_5_11, za0_4_f_12, hF13, hF14, hP1, hK1, hD1⟩ := hB
    have hK1 := va_K.moved hvm.symm hK1
    have hJ9 := rgJ2_9775942 hP hD hk1 hFc (atH ht hP1) hD1
    clear hP hD hPc hKc hDc hFc hP1 hD1 hk1 hz1
    obtain ⟨hP, hD⟩ := hJ9
    clear hK1
    generalize H1 = H at hP hS ⊢
    refine W.widen (k := 0) (n := 0) (Nat.le_of_ble_eq_true rfl) (Nat.le_of_ble_eq_true rfl) ?_
    refine lv_aload_n hx hb dX9_feed_30 rfl (lv_at hl 0 rfl) ?_
    refine lv_iload_n hx hb dX9_feed_31 rfl (lv_at hl 3 rfl) ?_
    have qc0 : (0 : Int32).toInt = 0 := by decide
    have hPc := hP
    have hKc := hK
    have hDc := hD
    have hFc := freeW hDc hS hA
    refine va_callv (va_runV (As := [.int a3]) (rest := []) ⟨hx, hb, hml, hown, hts⟩ (k_X9_puts l dC dI g H.size (a0) (a3) (0) (a0_1) (a0_2) (a0_3) (a0_4) (za0_5_11) (a0_6) (a0_7) (a0_8) (a0_9) (a0_10) (a0_11) (a0_12) (a0_13) (a0_14) (a0_15) (a0_16) (a0_17) (a0_18) (a0_19) (a0_20) (a0_21) (a0_22) (a0_23) (a0_24) (a0_25) (a0_26) (a0_27) (a0_28) (a0_29) (a0_30) (a0_31) (a0_32) (a0_33) (a0_34) (a0_35) (a0_36) (a0_37) (a0_38) (a0_39) (a0_40) (a0_41) (a0_42) (a0_43) (a0_4_c) (za0_4_f_12) (by omega) (by omega) (by omega) (by omega) (by omega) (by omega) (by omega) (by omega)) (cwV 1 hts (gwV qw_410 qw_411 qw_412 qw_386 qw_409) rfl rfl rfl (by decide +kernel) ⟨Nat.le_of_ble_eq_true rfl, Nat.le_of_ble_eq_true rfl⟩) ⟨fun a U g9 mk q => ⟨q.1, q.2.1, q.2.2.1, va_K.moved (u := U) (U := U.calling g9 mk a) (Vm.Alike.refl U.vm) q.2.2.2.1, q.2.2.2.2.1, Ev.bl q.2.2.2.2.2⟩, va_recv hK hP (ci := 8) (q0 := 0) rfl rgL2_5ac5f51, fun U hU hW => ⟨rfl, by rw [hU], atB hU hPc, va_K.moved hW.alike hKc, hDc.weaken (fun _ _ _ _ => trivial), hE.go hS hFc hU hW⟩⟩ rfl rfl hl.1 rfl (lv_room (Nat.le_of_ble_eq_true rfl)) dX9_feed_32 ⟨Nat.le_of_ble_eq_true rfl, Nat.le_of_ble_eq_true rfl⟩) hS (fun q _ h => hFc q h) hFc (fun u15 t H1 locs ht hvm h_u15 hB hz1 hk1 hS => ?_)
    obtain ⟨za0_5_17, za0_4_f_18, hF19, hF20, hP1, hK1, hD1⟩ := hB
    have hK1 := va_K.moved hvm.symm hK1
    have hJ9 := rgJ2_9775942 hP hD hk1 hFc (atH ht hP1) hD1
    clear hP hD hPc hKc hDc hFc hP1 hD1 hk1 hz1
    obtain ⟨hP, hD⟩ := hJ9
    clear hK1
    generalize H1 = H at hP hS ⊢
    refine W.widen (k := 0) (n := 0) (Nat.le_of_ble_eq_true rfl) (Nat.le_of_ble_eq_true rfl) ?_
    refine lv_aload_n hx hb dX9_feed_35 rfl (lv_at hl 0 rfl) ?_
    refine lv_iload hx hb dX9_feed_36 (lv_at hl 4 rfl) ?_
    have qc0 : (0 : Int32).toInt = 0 := by decide
    have hPc := hP
    have hKc := hK
    have hDc := hD
    have hFc := freeW hDc hS hA
    refine va_callv (va_runV (As := [.int a4]) (rest := []) ⟨hx, hb, hml, hown, hts⟩ (k_X9_puts l dC dI g H.size (a0) (a4) (0) (a0_1) (a0_2) (a0_3) (a0_4) (za0_5_17) (a0_6) (a0_7) (a0_8) (a0_9) (a0_10) (a0_11) (a0_12) (a0_13) (a0_14) (a0_15) (a0_16) (a0_17) (a0_18) (a0_19) (a0_20) (a0_21) (a0_22) (a0_23) (a0_24) (a0_25) (a0_26) (a0_27) (a0_28) (a0_29) (a0_30) (a0_31) (a0_32) (a0_33) (a0_34) (a0_35) (a0_36) (a0_37) (a0_38) (a0_39) (a0_40) (a0_41) (a0_42) (a0_43) (a0_4_c) (za0_4_f_18) (by omega) (by omega) (by omega) (by omega) (by omega) (by omega) (by omega) (by omega)) (cwV 1 hts (gwV qw_410 qw_411 qw_412 qw_386 qw_409) rfl rfl rfl (by decide +kernel) ⟨Nat.le_of_ble_eq_true rfl, Nat.le_of_ble_eq_true rfl⟩) ⟨fun a U g9 mk q => ⟨q.1, q.2.1, q.2.2.1, va_K.moved (u := U) (U := U.calling g9 mk a) (Vm.Alike.refl U.vm) q.2.2.2.1, q.2.2.2.2.1, Ev.bl q.2.2.2.2.2⟩, va_recv hK hP (ci := 8) (q0 := 0) rfl rgL2_5ac5f51, fun U hU hW => ⟨rfl, by rw [hU], atB hU hPc, va_K.moved hW.alike hKc, hDc.weaken (fun _ _ _ _ => trivial), hE.go hS hFc hU hW⟩⟩ rfl rfl hl.1 rfl (lv_room (Nat.le_of_ble_eq_true rfl)) dX9_feed_38 ⟨Nat.le_of_ble_eq_true rfl, Nat.le_of_ble_eq_true rfl⟩) hS (fun q _ h => hFc q h) hFc (fun u21 t H1 locs ht hvm h_u21 hB hz1 hk1 hS => ?_)
    obtain ⟨za0_5_23, za0_4_f_24, hF25, hF26, hP1, hK1, hD1⟩ := hB
    have hK1 := va_K.moved hvm.symm hK1
    have hJ9 := rgJ2_9775942 hP hD hk1 hFc (atH ht hP1) hD1
    clear hP hD hPc hKc hDc hFc hP1 hD1 hk1 hz1
    obtain ⟨hP, hD⟩ := hJ9
    clear hK1
    generalize H1 = H at hP hS ⊢
    refine W.widen (k := 0) (n := 0) (Nat.le_of_ble_eq_true rfl) (Nat.le_of_ble_eq_true rfl) ?_
    refine lv_aload_n hx hb dX9_feed_41 rfl (lv_at hl 0 rfl) ?_
    refine lv_iload hx hb dX9_feed_42 (lv_at hl 5 rfl) ?_
    have qc0 : (0 : Int32).toInt = 0 := by decide
    have hPc := hP
    have hKc := hK
    have hDc := hD
    have hFc := freeW hDc hS hA
    refine va_callv (va_runV (As := [.int a5]) (rest := []) ⟨hx, hb, hml, hown, hts⟩ (k_X9_puts l dC dI g H.size (a0) (a5) (0) (a0_1) (a0_2) (a0_3) (a0_4) (za0_5_23) (a0_6) (a0_7) (a0_8) (a0_9) (a0_10) (a0_11) (a0_12) (a0_13) (a0_14) (a0_15) (a0_16) (a0_17) (a0_18) (a0_19) (a0_20) (a0_21) (a0_22) (a0_23) (a0_24) (a0_25) (a0_26) (a0_27) (a0_28) (a0_29) (a0_30) (a0_31) (a0_32) (a0_33) (a0_34) (a0_35) (a0_36) (a0_37) (a0_38) (a0_39) (a0_40) (a0_41) (a0_42) (a0_43) (a0_4_c) (za0_4_f_24) (by omega) (by omega) (by omega) (by omega) (by omega) (by omega) (by omega) (by omega)) (cwV 1 hts (gwV qw_410 qw_411 qw_412 qw_386 qw_409) rfl rfl rfl (by decide +kernel) ⟨Nat.le_of_ble_eq_true rfl, Nat.le_of_ble_eq_true rfl⟩) ⟨fun a U g9 mk q => ⟨q.1, q.2.1, q.2.2.1, va_K.moved (u := U) (U := U.calling g9 mk a) (Vm.Alike.refl U.vm) q.2.2.2.1, q.2.2.2.2.1, Ev.bl q.2.2.2.2.2⟩, va_recv hK hP (ci := 8) (q0 := 0) rfl rgL2_5ac5f51, fun U hU hW => ⟨rfl, by rw [hU], atB hU hPc, va_K.moved hW.alike hKc, hDc.weaken (fun _ _ _ _ => trivial), hE.go hS hFc hU hW⟩⟩ rfl rfl hl.1 rfl (lv_room (Nat.le_of_ble_eq_true rfl)) dX9_feed_44 ⟨Nat.le_of_ble_eq_true rfl, Nat.le_of_ble_eq_true rfl⟩) hS (fun q _ h => hFc q h) hFc (fun u27 t H1 locs ht hvm h_u27 hB hz1 hk1 hS => ?_)
    obtain ⟨za0_5_29, za0_4_f_30, hF31, hF32, hP1, hK1, hD1⟩ := hB
    have hK1 := va_K.moved hvm.symm hK1
    have hJ9 := rgJ2_9775942 hP hD hk1 hFc (atH ht hP1) hD1
    clear hP hD hPc hKc hDc hFc hP1 hD1 hk1 hz1
    obtain ⟨hP, hD⟩ := hJ9
    clear hK1
    generalize H1 = H at hP hS ⊢
    refine W.widen (k := 0) (n := 0) (Nat.le_of_ble_eq_true rfl) (Nat.le_of_ble_eq_true rfl) ?_
    refine lv_aload_n hx hb dX9_feed_47 rfl (lv_at hl 0 rfl) ?_
    refine va_get (D := (dC, dI)) (ci := 8) (v := .int za0_5_29) (C := RX9) (T := TX9) (N := 44) hx hb hts inlX9 hown hK hP 0 rgL2_5ac5f51 rfl 5 (by decide) (hts (.fieldLink RX9 142 "ClosedUntilModel" "taped" "I") qw_407) (fun _ h9 => h9) rfl dX9_feed_48 ?_
    have qc0 : (0 : Int32).toInt = 0 := by decide
    refine W.widen (k := 0) (n := 0) (Nat.le_of_ble_eq_true rfl) (Nat.le_of_ble_eq_true rfl) ?_
    have hP9 := hP
    have hD9 := hD
    have hK9 := (rgK1_f3b3254 hK)
    have hf9_0 : (0 ≤ za0_5_29.toInt ∧ za0_5_29.toInt ≤ 1000) := by omega
    have hf9_1 : (FE a0_5 za0_5_29 za0_5_29) := by unfold FE; omega
    exact W.iret (v := za0_5_29) hx hb hr (fun t ht hW => ⟨⟨za0_5_29, za0_5_29, rfl, rfl, 0, za0_5_29, za0_4_f_30, hf9_0, hf9_1, atB ht hP9, va_K.moved hW.alike hK9, hD9⟩, hS.F ht⟩) hS.2.2 dX9_feed_51
  · have c15_2 : ¬ (x1.toInt ≤ 1000) := mt (cv_le rfl (by decide)).mpr c15_2
    refine lv_iconst (v := (-1)) hx hb dX9_feed_18 (by decide) ?_
    have qcm1 : ((-1) : Int32).toInt = (-1) := by decide
    have qc0 : (0 : Int32).toInt = 0 := by decide
    refine W.widen (k := 0) (n := 0) (Nat.le_of_ble_eq_true rfl) (Nat.le_of_ble_eq_true rfl) ?_
    have hP9 := hP
    have hD9 := hD
    have hK9 := (rgK1_f3b3254 hK)
    have hf9_0 : (0 ≤ a0_5.toInt ∧ a0_5.toInt ≤ 1000) := by omega
    have hf9_1 : (FE a0_5 ((-1) : Int32) a0_5) := by unfold FE; omega
    exact W.iret (v := (-1)) hx hb hr (fun t ht hW => ⟨⟨(-1), (-1), rfl, rfl, 0, a0_5, a0_4_f, hf9_0, hf9_1, atB ht hP9, va_K.moved hW.alike hK9, hD9⟩, hS.F ht⟩) hS.2.2 dX9_feed_19
set_option maxHeartbeats 4000000 in
set_option maxRecDepth 100000 in
theorem k_X9_see (l : Launch) (dC : Nat → ClassId) (dI : Nat → Nat → Nat) (g : Gv) (a0 : Nat) (a1 : Int32) (a0_0 : Int32) (a0_1 : Int32) (a0_2 : Int32) (a0_3 : Int32) (a0_4 : Nat) (a0_5 : Int32) (a0_6 : Int32) (a0_7 : Int32) (a0_8 : Int32) (a0_9 : Int32) (a0_10 : Int32) (a0_11 : Int64) (a0_12 : Int32) (a0_13 : Int32) (a0_14 : Int32) (a0_15 : Int32) (a0_16 : Int32) (a0_17 : Int32) (a0_18 : Nat) (a0_19 : Nat) (a0_20 : Nat) (a0_21 : Nat) (a0_22 : Nat) (a0_23 : Nat) (a0_24 : Nat) (a0_25 : Nat) (a0_26 : Nat) (a0_27 : Nat) (a0_28 : Nat) (a0_29 : Nat) (a0_30 : Nat) (a0_31 : Nat) (a0_32 : Nat) (a0_33 : Nat) (a0_34 : Nat) (a0_35 : Nat) (a0_36 : Int64) (a0_37 : Int32) (a0_38 : Nat) (a0_39 : Nat) (a0_40 : Int32) (a0_41 : Nat) (a0_42 : Nat) (a0_43 : Nat) (a0_4_c : ClassId) (a0_4_f : Nat → Int32) (h_a0_5 : 0 ≤ a0_5.toInt ∧ a0_5.toInt ≤ 1000) (h_a0_6 : 0 ≤ a0_6.toInt ∧ a0_6.toInt ≤ 1000) (h_a0_7 : 0 ≤ a0_7.toInt ∧ a0_7.toInt ≤ 1000) (h_a0_8 : 0 ≤ a0_8.toInt ∧ a0_8.toInt ≤ 1000) (h_a0_17 : 0 ≤ a0_17.toInt ∧ a0_17.toInt ≤ 1) (h_a0_37 : (-1) ≤ a0_37.toInt ∧ a0_37.toInt ≤ 23) (h_a0_40 : 0 ≤ a0_40.toInt ∧ a0_40.toInt ≤ 12) (ha1 : 0 ≤ a1.toInt) : Met l yX9_see (.code yX9_see cX9_see 2 (some .int) :: TBL) ({ frames := 0, cells := 0, slots := 0, locals := 0 }) (va_Pc [.ref a0, .int a1] (fun U => va_P (dC, dI) vwCl [(a0, .inr (8, [.int a0_0, .int a0_1, .int a0_2, .int a0_3, .ref a0_4, .int a0_5, .int a0_6, .int a0_7, .int a0_8, .int a0_9, .int a0_10, .long a0_11, .int a0_12, .int a0_13, .int a0_14, .int a0_15, .int a0_16, .int a0_17, .ref a0_18, .ref a0_19, .ref a0_20, .ref a0_21, .ref a0_22, .ref a0_23, .ref a0_24, .ref a0_25, .ref a0_26, .ref a0_27, .ref a0_28, .ref a0_29, .ref a0_30, .ref a0_31, .ref a0_32, .ref a0_33, .ref a0_34, .ref a0_35, .long a0_36, .int a0_37, .ref a0_38, .ref a0_39, .int a0_40, .ref a0_41, .ref a0_42, .ref a0_43])), (a0_4, .inl (a0_4_c, 1000, .inl a0_4_f))] U.heap ∧ va_K (dC, dI) vwCl [(a0_4_c, .byte)] U ∧ Ev g (fun _ => False) U)) (vp_Si (fun (r : Int32) => (-1 ≤ r.toInt ∧ r.toInt ≤ 255 ∧ (r.toInt = -1 ∨ a1.toInt < a0_6.toInt)))) 0 0 (fun _ => False) := by
  refine Met.ofW (cc := cX9_see) (maxL := 2) (ret := (some .int)) (by decide) rfl ?_
  intro p e s m args below meth c s₁ B hml hv
  obtain ⟨rfl, hP, hK, hE⟩ := hv
  have hx := B.exec
  have hb := B.bytes
  have hr := B.returns
  have hts0 := atoms_spec (ws := (.code yX9_see cX9_see 2 (some .int) :: TBL)) B.pre
  have hts := fun (w : Cond) (h : w ∈ TBL) => hts0 w (List.mem_cons_of_mem _ h)
  have hown : s.vm.findClass RX9 = some m.cls := findClass_of_methodNamed B.named
  have hlocks := B.notSynchronized
  have hN := hE.1
  have hS : va_S (fun _ => False) s.heap s.heap [] := va_S.rf
  replace hP : va_P (dC, dI) vwCl [(a0, .inr (8, [.int a0_0, .int a0_1, .int a0_2, .int a0_3, .ref a0_4, .int a0_5, .int a0_6, .int a0_7, .int a0_8, .int a0_9, .int a0_10, .long a0_11, .int a0_12, .int a0_13, .int a0_14, .int a0_15, .int a0_16, .int a0_17, .ref a0_18, .ref a0_19, .ref a0_20, .ref a0_21, .ref a0_22, .ref a0_23, .ref a0_24, .ref a0_25, .ref a0_26, .ref a0_27, .ref a0_28, .ref a0_29, .ref a0_30, .ref a0_31, .ref a0_32, .ref a0_33, .ref a0_34, .ref a0_35, .long a0_36, .int a0_37, .ref a0_38, .ref a0_39, .int a0_40, .ref a0_41, .ref a0_42, .ref a0_43])), (a0_4, .inl (a0_4_c, 1000, .inl a0_4_f))] s.heap := hP
  have hl := lv_entry ([.ref a0, .int a1]) (n := 2) (Nat.le_of_ble_eq_true rfl)
  rw [lg_entry_eq]
  generalize (lg_sl ([.ref a0, .int a1]) ++ List.replicate (2 - (lg_sl ([.ref a0, .int a1])).length) Slot.unset).toArray = ls at hl ⊢
  have hl : lv_has ls 2 [(0, .ref a0), (1, .int a1)] := hl
  have b_a1 := i32b a1
  have b_a0_0 := i32b a0_0
  have b_a0_1 := i32b a0_1
  have b_a0_2 := i32b a0_2
  have b_a0_3 := i32b a0_3
  have b_a0_9 := i32b a0_9
  have b_a0_10 := i32b a0_10
  have b_a0_12 := i32b a0_12
  have b_a0_13 := i32b a0_13
  have b_a0_14 := i32b a0_14
  have b_a0_15 := i32b a0_15
  have b_a0_16 := i32b a0_16
  refine lv_iload_n hx hb dX9_see_0 rfl (lv_at hl 1 rfl) ?_
  refine lv_aload_n hx hb dX9_see_1 rfl (lv_at hl 0 rfl) ?_
  refine va_get (D := (dC, dI)) (ci := 8) (v := .int a0_6) (C := RX9) (T := TX9) (N := 44) hx hb hts inlX9 hown hK hP 0 rgL2_5ac5f51 rfl 6 (by decide) (hts (.fieldLink RX9 148 "ClosedUntilModel" "size" "I") qw_413) (fun _ h9 => h9) rfl dX9_see_2 ?_
  refine lv_icmp_ge (tgt := 21) hx hb dX9_see_5 (by decide) (fun c5_1 => ?_) (fun c5_1 => ?_)
  · have c5_1 : a0_6.toInt ≤ a1.toInt := (cv_le rfl rfl).mp c5_1
    refine lv_iconst (v := (-1)) hx hb dX9_see_21 (by decide) ?_
    exact W.iret (v := (-1)) hx hb hr (fun t ht hW => ⟨(-1), rfl, (by have q := (show ((-1) : Int32).toInt = (-1) by decide); omega), ht⟩) (fun _ h => absurd h List.not_mem_nil) dX9_see_22
  · have c5_1 : ¬ (a0_6.toInt ≤ a1.toInt) := mt (cv_le rfl rfl).mpr c5_1
    refine lv_aload_n hx hb dX9_see_8 rfl (lv_at hl 0 rfl) ?_
    refine va_get (D := (dC, dI)) (ci := 8) (v := .ref a0_4) (C := RX9) (T := TX9) (N := 44) hx hb hts inlX9 hown hK hP 0 rgL2_5ac5f51 rfl 4 (by decide) (hts (.fieldLink RX9 7 "ClosedUntilModel" "tape" "[B") qw_406) (fun _ h9 => h9) rfl dX9_see_9 ?_
    refine lv_iload_n hx hb dX9_see_12 rfl (lv_at hl 1 rfl) ?_
    refine va_bald hx hb hK hP 1 0 rgL2_906ef0f rgT1_bb00d73 (vinI (by omega) (by omega)) dX9_see_13 ?_
    refine lv_topi (fun x2 e_x2 => ?_)
    have b_x2 := i32b x2
    refine lv_sipush (v := 255) hx hb dX9_see_14 (by decide) ?_
    refine lv_iand hx hb dX9_see_17 ?_
    refine lv_topi (fun x3 e_x3 => ?_)
    have e_x3 := ti_and e_x3 (show (255 : Int32).toInt = 255 by decide) (by decide)
    refine lv_goto (tgt := 22) hx hb dX9_see_18 (by decide) ?_
    exact W.iret (v := x3) hx hb hr (fun t ht hW => ⟨x3, rfl, (by omega), ht⟩) (fun _ h => absurd h List.not_mem_nil) dX9_see_22
set_option maxHeartbeats 4000000 in
set_option maxRecDepth 100000 in
theorem k_X9_mustAt (l : Launch) (dC : Nat → ClassId) (dI : Nat → Nat → Nat) (g : Gv) (sz : Nat) (a0 : Nat) (a1 : Int32) (a2 : Int32) (a3 : Int32) (a0_0 : Int32) (a0_1 : Int32) (a0_2 : Int32) (a0_3 : Int32) (a0_4 : Nat) (a0_5 : Int32) (a0_6 : Int32) (a0_7 : Int32) (a0_8 : Int32) (a0_9 : Int32) (a0_10 : Int32) (a0_11 : Int64) (a0_12 : Int32) (a0_13 : Int32) (a0_14 : Int32) (a0_15 : Int32) (a0_16 : Int32) (a0_17 : Int32) (a0_18 : Nat) (a0_19 : Nat) (a0_20 : Nat) (a0_21 : Nat) (a0_22 : Nat) (a0_23 : Nat) (a0_24 : Nat) (a0_25 : Nat) (a0_26 : Nat) (a0_27 : Nat) (a0_28 : Nat) (a0_29 : Nat) (a0_30 : Nat) (a0_31 : Nat) (a0_32 : Nat) (a0_33 : Nat) (a0_34 : Nat) (a0_35 : Nat) (a0_36 : Int64) (a0_37 : Int32) (a0_38 : Nat) (a0_39 : Nat) (a0_40 : Int32) (a0_41 : Nat) (a0_42 : Nat) (a0_43 : Nat) (h_a0_5 : 0 ≤ a0_5.toInt ∧ a0_5.toInt ≤ 1000) (h_a0_6 : 0 ≤ a0_6.toInt ∧ a0_6.toInt ≤ 1000) (h_a0_7 : 0 ≤ a0_7.toInt ∧ a0_7.toInt ≤ 1000) (h_a0_8 : 0 ≤ a0_8.toInt ∧ a0_8.toInt ≤ 1000) (h_a0_17 : 0 ≤ a0_17.toInt ∧ a0_17.toInt ≤ 1) (h_a0_37 : (-1) ≤ a0_37.toInt ∧ a0_37.toInt ≤ 23) (h_a0_40 : 0 ≤ a0_40.toInt ∧ a0_40.toInt ≤ 12) (hk : a2.toInt ≠ 0) : Met l yX9_mustAt (.code yX9_mustAt cX9_mustAt 4 (some .boolean) :: TBL) ({ frames := 0, cells := 0, slots := 0, locals := 0 }) (va_Pc [.ref a0, .int a1, .int a2, .int a3] (fun U => U.heap.size = sz ∧ va_P (dC, dI) vwCl [(a0, .inr (8, [.int a0_0, .int a0_1, .int a0_2, .int a0_3, .ref a0_4, .int a0_5, .int a0_6, .int a0_7, .int a0_8, .int a0_9, .int a0_10, .long a0_11, .int a0_12, .int a0_13, .int a0_14, .int a0_15, .int a0_16, .int a0_17, .ref a0_18, .ref a0_19, .ref a0_20, .ref a0_21, .ref a0_22, .ref a0_23, .ref a0_24, .ref a0_25, .ref a0_26, .ref a0_27, .ref a0_28, .ref a0_29, .ref a0_30, .ref a0_31, .ref a0_32, .ref a0_33, .ref a0_34, .ref a0_35, .long a0_36, .int a0_37, .ref a0_38, .ref a0_39, .int a0_40, .ref a0_41, .ref a0_42, .ref a0_43]))] U.heap ∧ va_K (dC, dI) vwCl [] U ∧ va_D (fun _ => True) [(a0, .inr (8, [.int a0_0, .int a0_1, .int a0_2, .int a0_3, .ref a0_4, .int a0_5, .int a0_6, .int a0_7, .int a0_8, .int a0_9, .int a0_10, .long a0_11, .int a0_12, .int a0_13, .int a0_14, .int a0_15, .int a0_16, .int a0_17, .ref a0_18, .ref a0_19, .ref a0_20, .ref a0_21, .ref a0_22, .ref a0_23, .ref a0_24, .ref a0_25, .ref a0_26, .ref a0_27, .ref a0_28, .ref a0_29, .ref a0_30, .ref a0_31, .ref a0_32, .ref a0_33, .ref a0_34, .ref a0_35, .long a0_36, .int a0_37, .ref a0_38, .ref a0_39, .int a0_40, .ref a0_41, .ref a0_42, .ref a0_43]))] ∧ Ev g (va_A [(a0, .inr (8, [.int a0_0, .int a0_1, .int a0_2, .int a0_3, .ref a0_4, .int a0_5, .int a0_6, .int a0_7, .int a0_8, .int a0_9, .int a0_10, .long a0_11, .int a0_12, .int a0_13, .int a0_14, .int a0_15, .int a0_16, .int a0_17, .ref a0_18, .ref a0_19, .ref a0_20, .ref a0_21, .ref a0_22, .ref a0_23, .ref a0_24, .ref a0_25, .ref a0_26, .ref a0_27, .ref a0_28, .ref a0_29, .ref a0_30, .ref a0_31, .ref a0_32, .ref a0_33, .ref a0_34, .ref a0_35, .long a0_36, .int a0_37, .ref a0_38, .ref a0_39, .int a0_40, .ref a0_41, .ref a0_42, .ref a0_43]))] sz) U)) (va_Qi (fun (r : Int32) (u : Int32) => u = r) (fun (u : Int32) (t : State) => ∃ (za0_12 : Int32) (za0_13 : Int32), (u = 0 ∨ u = 1) ∧ (u.toInt = 1 → a1.toInt ≠ 0) ∧ va_P (dC, dI) vwCl [(a0, .inr (8, [.int a0_0, .int a0_1, .int a0_2, .int a0_3, .ref a0_4, .int a0_5, .int a0_6, .int a0_7, .int a0_8, .int a0_9, .int a0_10, .long a0_11, .int za0_12, .int za0_13, .int a0_14, .int a0_15, .int a0_16, .int a0_17, .ref a0_18, .ref a0_19, .ref a0_20, .ref a0_21, .ref a0_22, .ref a0_23, .ref a0_24, .ref a0_25, .ref a0_26, .ref a0_27, .ref a0_28, .ref a0_29, .ref a0_30, .ref a0_31, .ref a0_32, .ref a0_33, .ref a0_34, .ref a0_35, .long a0_36, .int a0_37, .ref a0_38, .ref a0_39, .int a0_40, .ref a0_41, .ref a0_42, .ref a0_43]))] t.heap ∧ va_K (dC, dI) vwCl [] t ∧ va_D (va_A [(a0, .inr (8, [.int a0_0, .int a0_1, .int a0_2, .int a0_3, .ref a0_4, .int a0_5, .int a0_6, .int a0_7, .int a0_8, .int a0_9, .int a0_10, .long a0_11, .int a0_12, .int a0_13, .int a0_14, .int a0_15, .int a0_16, .int a0_17, .ref a0_18, .ref a0_19, .ref a0_20, .ref a0_21, .ref a0_22, .ref a0_23, .ref a0_24, .ref a0_25, .ref a0_26, .ref a0_27, .ref a0_28, .ref a0_29, .ref a0_30, .ref a0_31, .ref a0_32, .ref a0_33, .ref a0_34, .ref a0_35, .long a0_36, .int a0_37, .ref a0_38, .ref a0_39, .int a0_40, .ref a0_41, .ref a0_42, .ref a0_43]))] sz) [(a0, .inr (8, [.int a0_0, .int a0_1, .int a0_2, .int a0_3, .ref a0_4, .int a0_5, .int a0_6, .int a0_7, .int a0_8, .int a0_9, .int a0_10, .long a0_11, .int za0_12, .int za0_13, .int a0_14, .int a0_15, .int a0_16, .int a0_17, .ref a0_18, .ref a0_19, .ref a0_20, .ref a0_21, .ref a0_22, .ref a0_23, .ref a0_24, .ref a0_25, .ref a0_26, .ref a0_27, .ref a0_28, .ref a0_29, .ref a0_30, .ref a0_31, .ref a0_32, .ref a0_33, .ref a0_34, .ref a0_35, .long a0_36, .int a0_37, .ref a0_38, .ref a0_39, .int a0_40, .ref a0_41, .ref a0_42, .ref a0_43]))]) (va_A [(a0, .inr (8, [.int a0_0, .int a0_1, .int a0_2, .int a0_3, .ref a0_4, .int a0_5, .int a0_6, .int a0_7, .int a0_8, .int a0_9, .int a0_10, .long a0_11, .int a0_12, .int a0_13, .int a0_14, .int a0_15, .int a0_16, .int a0_17, .ref a0_18, .ref a0_19, .ref a0_20, .ref a0_21, .ref a0_22, .ref a0_23, .ref a0_24, .ref a0_25, .ref a0_26, .ref a0_27, .ref a0_28, .ref a0_29, .ref a0_30, .ref a0_31, .ref a0_32, .ref a0_33, .ref a0_34, .ref a0_35, .long a0_36, .int a0_37, .ref a0_38, .ref a0_39, .int a0_40, .ref a0_41, .ref a0_42, .ref a0_43]))] sz)) 0 0 (va_A [(a0, .inr (8, [.int a0_0, .int a0_1, .int a0_2, .int a0_3, .ref a0_4, .int a0_5, .int a0_6, .int a0_7, .int a0_8, .int a0_9, .int a0_10, .long a0_11, .int a0_12, .int a0_13, .int a0_14, .int a0_15, .int a0_16, .int a0_17, .ref a0_18, .ref a0_19, .ref a0_20, .ref a0_21, .ref a0_22, .ref a0_23, .ref a0_24, .ref a0_25, .ref a0_26, .ref a0_27, .ref a0_28, .ref a0_29, .ref a0_30, .ref a0_31, .ref a0_32, .ref a0_33, .ref a0_34, .ref a0_35, .long a0_36, .int a0_37, .ref a0_38, .ref a0_39, .int a0_40, .ref a0_41, .ref a0_42, .ref a0_43]))] sz) := by
  refine Met.ofW (cc := cX9_mustAt) (maxL := 4) (ret := (some .boolean)) (by decide) rfl ?_
  intro p e s m args below meth c s₁ B hml hv
  obtain ⟨rfl, hsz, hP, hK, hD0, hE⟩ := hv
  have hx := B.exec
  have hb := B.bytes
  have hr := B.returns
  have hts0 := atoms_spec (ws := (.code yX9_mustAt cX9_mustAt 4 (some .boolean) :: TBL)) B.pre
  have hts := fun (w : Cond) (h : w ∈ TBL) => hts0 w (List.mem_cons_of_mem _ h)
  have hown : s.vm.findClass RX9 = some m.cls := findClass_of_methodNamed B.named
  have hlocks := B.notSynchronized
  have hN := hE.1
  subst hsz
  have hD := hD0.self (sz := s.heap.size)
  generalize hAe : va_A [(a0, .inr (8, [.int a0_0, .int a0_1, .int a0_2, .int a0_3, .ref a0_4, .int a0_5, .int a0_6, .int a0_7, .int a0_8, .int a0_9, .int a0_10, .long a0_11, .int a0_12, .int a0_13, .int a0_14, .int a0_15, .int a0_16, .int a0_17, .ref a0_18, .ref a0_19, .ref a0_20, .ref a0_21, .ref a0_22, .ref a0_23, .ref a0_24, .ref a0_25, .ref a0_26, .ref a0_27, .ref a0_28, .ref a0_29, .ref a0_30, .ref a0_31, .ref a0_32, .ref a0_33, .ref a0_34, .ref a0_35, .long a0_36, .int a0_37, .ref a0_38, .ref a0_39, .int a0_40, .ref a0_41, .ref a0_42, .ref a0_43]))] s.heap.size = A at hD hE ⊢
  have hA : ∀ q : Nat, s.heap.size ≤ q → A q := fun q h => by rw [← hAe]; exact Or.inr h
  have hS : va_S A s.heap s.heap [] := va_S.rf
  replace hP : va_P (dC, dI) vwCl [(a0, .inr (8, [.int a0_0, .int a0_1, .int a0_2, .int a0_3, .ref a0_4, .int a0_5, .int a0_6, .int a0_7, .int a0_8, .int a0_9, .int a0_10, .long a0_11, .int a0_12, .int a0_13, .int a0_14, .int a0_15, .int a0_16, .int a0_17, .ref a0_18, .ref a0_19, .ref a0_20, .ref a0_21, .ref a0_22, .ref a0_23, .ref a0_24, .ref a0_25, .ref a0_26, .ref a0_27, .ref a0_28, .ref a0_29, .ref a0_30, .ref a0_31, .ref a0_32, .ref a0_33, .ref a0_34, .ref a0_35, .long a0_36, .int a0_37, .ref a0_38, .ref a0_39, .int a0_40, .ref a0_41, .ref a0_42, .ref a0_43]))] s.heap := hP
  have hl := lv_entry ([.ref a0, .int a1, .int a2, .int a3]) (n := 4) (Nat.le_of_ble_eq_true rfl)
  rw [lg_entry_eq]
  generalize (lg_sl ([.ref a0, .int a1, .int a2, .int a3]) ++ List.replicate (4 - (lg_sl ([.ref a0, .int a1, .int a2, .int a3])).length) Slot.unset).toArray = ls at hl ⊢
  have hl : lv_has ls 4 [(0, .ref a0), (1, .int a1), (2, .int a2), (3, .int a3)] := hl
  have b_a1 := i32b a1
  have b_a2 := i32b a2
  have b_a3 := i32b a3
  have b_a0_0 := i32b a0_0
  have b_a0_1 := i32b a0_1
  have b_a0_2 := i32b a0_2
  have b_a0_3 := i32b a0_3
  have b_a0_9 := i32b a0_9
  have b_a0_10 := i32b a0_10
  have b_a0_12 := i32b a0_12
  have b_a0_13 := i32b a0_13
  have b_a0_14 := i32b a0_14
  have b_a0_15 := i32b a0_15
  have b_a0_16 := i32b a0_16
  refine lv_aload_n hx hb dX9_mustAt_0 rfl (lv_at hl 0 rfl) ?_
  refine va_get (D := (dC, dI)) (ci := 8) (v := .int a0_12) (C := RX9) (T := TX9) (N := 44) hx hb hts inlX9 hown hK hP 0 rgL1_f9e15c6 rfl 12 (by decide) (hts (.fieldLink RX9 181 "ClosedUntilModel" "fault" "I") qw_414) (fun _ h9 => h9) rfl dX9_mustAt_1 ?_
  refine lv_if_ne (tgt := 21) hx hb dX9_mustAt_4 (by decide) (fun c4_1 => ?_) (fun c4_1 => ?_)
  · have c4_1 : ¬ (a0_12.toInt = 0) := mt (cv_eq rfl (by decide)).mpr c4_1
    refine lv_aload_n hx hb dX9_mustAt_21 rfl (lv_at hl 0 rfl) ?_
    refine va_get (D := (dC, dI)) (ci := 8) (v := .int a0_12) (C := RX9) (T := TX9) (N := 44) hx hb hts inlX9 hown hK hP 0 rgL1_f9e15c6 rfl 12 (by decide) (hts (.fieldLink RX9 181 "ClosedUntilModel" "fault" "I") qw_414) (fun _ h9 => h9) rfl dX9_mustAt_22 ?_
    refine lv_if_ne (tgt := 32) hx hb dX9_mustAt_25 (by decide) (fun c25_2 => ?_) (fun c25_2 => ?_)
    · have c25_2 : ¬ (a0_12.toInt = 0) := mt (cv_eq rfl (by decide)).mpr c25_2
      refine lv_iconst (v := 0) hx hb dX9_mustAt_32 (by decide) ?_
      have qc0 : (0 : Int32).toInt = 0 := by decide
      refine W.widen (k := 0) (n := 0) (Nat.le_of_ble_eq_true rfl) (Nat.le_of_ble_eq_true rfl) ?_
      have hP9 := hP
      have hD9 := hD
      have hK9 := hK
      have hf9_0 : ((0 : Int32) = 0 ∨ (0 : Int32) = 1) := (by decide)
      have hf9_1 : ((0 : Int32).toInt = 1 → a1.toInt ≠ 0) := by omega
      exact W.zret (v := 0) hx hb hr rfl (fun t ht hW => ⟨⟨0, 0, rfl, rfl, a0_12, a0_13, hf9_0, hf9_1, atB ht hP9, va_K.moved hW.alike hK9, hD9⟩, hS.F ht⟩) hS.2.2 dX9_mustAt_33
    · have c25_2 : a0_12.toInt = 0 := (cv_eq rfl (by decide)).mp c25_2
      refine lv_iconst (v := 1) hx hb dX9_mustAt_28 (by decide) ?_
      refine lv_goto (tgt := 33) hx hb dX9_mustAt_29 (by decide) ?_
      have qc1 : (1 : Int32).toInt = 1 := by decide
      refine W.widen (k := 0) (n := 0) (Nat.le_of_ble_eq_true rfl) (Nat.le_of_ble_eq_true rfl) ?_
      have hP9 := hP
      have hD9 := hD
      have hK9 := hK
      have hf9_0 : ((1 : Int32) = 0 ∨ (1 : Int32) = 1) := (by decide)
      have hf9_1 : ((1 : Int32).toInt = 1 → a1.toInt ≠ 0) := by omega
      exact W.zret (v := 1) hx hb hr rfl (fun t ht hW => ⟨⟨1, 1, rfl, rfl, a0_12, a0_13, hf9_0, hf9_1, atB ht hP9, va_K.moved hW.alike hK9, hD9⟩, hS.F ht⟩) hS.2.2 dX9_mustAt_33
  · have c4_1 : a0_12.toInt = 0 := (cv_eq rfl (by decide)).mp c4_1
    refine lv_iload_n hx hb dX9_mustAt_7 rfl (lv_at hl 1 rfl) ?_
    refine lv_if_ne (tgt := 21) hx hb dX9_mustAt_8 (by decide) (fun c8_3 => ?_) (fun c8_3 => ?_)
    · have c8_3 : ¬ (a1.toInt = 0) := mt (cv_eq rfl (by decide)).mpr c8_3
      refine lv_aload_n hx hb dX9_mustAt_21 rfl (lv_at hl 0 rfl) ?_
      refine va_get (D := (dC, dI)) (ci := 8) (v := .int a0_12) (C := RX9) (T := TX9) (N := 44) hx hb hts inlX9 hown hK hP 0 rgL1_f9e15c6 rfl 12 (by decide) (hts (.fieldLink RX9 181 "ClosedUntilModel" "fault" "I") qw_414) (fun _ h9 => h9) rfl dX9_mustAt_22 ?_
      refine lv_if_ne (tgt := 32) hx hb dX9_mustAt_25 (by decide) (fun c25_4 => ?_) (fun c25_4 => ?_)
      · have c25_4 : ¬ (a0_12.toInt = 0) := mt (cv_eq rfl (by decide)).mpr c25_4
        refine lv_iconst (v := 0) hx hb dX9_mustAt_32 (by decide) ?_
        have qc0 : (0 : Int32).toInt = 0 := by decide
        refine W.widen (k := 0) (n := 0) (Nat.le_of_ble_eq_true rfl) (Nat.le_of_ble_eq_true rfl) ?_
        have hP9 := hP
        have hD9 := hD
        have hK9 := hK
        have hf9_0 : ((0 : Int32) = 0 ∨ (0 : Int32) = 1) := (by decide)
        have hf9_1 : ((0 : Int32).toInt = 1 → a1.toInt ≠ 0) := by omega
        exact W.zret (v := 0) hx hb hr rfl (fun t ht hW => ⟨⟨0, 0, rfl, rfl, a0_12, a0_13, hf9_0, hf9_1, atB ht hP9, va_K.moved hW.alike hK9, hD9⟩, hS.F ht⟩) hS.2.2 dX9_mustAt_33
      · have c25_4 : a0_12.toInt = 0 := (cv_eq rfl (by decide)).mp c25_4
        refine lv_iconst (v := 1) hx hb dX9_mustAt_28 (by decide) ?_
        refine lv_goto (tgt := 33) hx hb dX9_mustAt_29 (by decide) ?_
        have qc1 : (1 : Int32).toInt = 1 := by decide
        refine W.widen (k := 0) (n := 0) (Nat.le_of_ble_eq_true rfl) (Nat.le_of_ble_eq_true rfl) ?_
        have hP9 := hP
        have hD9 := hD
        have hK9 := hK
        have hf9_0 : ((1 : Int32) = 0 ∨ (1 : Int32) = 1) := (by decide)
        have hf9_1 : ((1 : Int32).toInt = 1 → a1.toInt ≠ 0) := by omega
        exact W.zret (v := 1) hx hb hr rfl (fun t ht hW => ⟨⟨1, 1, rfl, rfl, a0_12, a0_13, hf9_0, hf9_1, atB ht hP9, va_K.moved hW.alike hK9, hD9⟩, hS.F ht⟩) hS.2.2 dX9_mustAt_33
    · have c8_3 : a1.toInt = 0 := (cv_eq rfl (by decide)).mp c8_3
      refine lv_aload_n hx hb dX9_mustAt_11 rfl (lv_at hl 0 rfl) ?_
      refine lv_iload_n hx hb dX9_mustAt_12 rfl (lv_at hl 2 rfl) ?_
      refine va_put (D := (dC, dI)) (ci := 8) (v := .int a2) (ty := .int) (C := RX9) (T := TX9) (N := 44) hx hb hts inlX9 tyX9 tyX9_ok nmX9 hown hK hP hD hS 0 rgL1_f9e15c6 rfl 12 (by decide) (hts (.fieldLink RX9 181 "ClosedUntilModel" "fault" "I") qw_414) (fun _ h9 => h9) rfl (by decide +kernel) rfl rfl (Nat.le_of_ble_eq_true rfl) dX9_mustAt_13 (fun H locs hP9 hD9 hS9 => ?_)
      clear hP hD hS
      obtain ⟨hP, hD⟩ := rgS1_4a8b427 (e := (a0, .inr (8, [.int a0_0, .int a0_1, .int a0_2, .int a0_3, .ref a0_4, .int a0_5, .int a0_6, .int a0_7, .int a0_8, .int a0_9, .int a0_10, .long a0_11, .int a2, .int a0_13, .int a0_14, .int a0_15, .int a0_16, .int a0_17, .ref a0_18, .ref a0_19, .ref a0_20, .ref a0_21, .ref a0_22, .ref a0_23, .ref a0_24, .ref a0_25, .ref a0_26, .ref a0_27, .ref a0_28, .ref a0_29, .ref a0_30, .ref a0_31, .ref a0_32, .ref a0_33, .ref a0_34, .ref a0_35, .long a0_36, .int a0_37, .ref a0_38, .ref a0_39, .int a0_40, .ref a0_41, .ref a0_42, .ref a0_43]))) hP9 hD9 rfl
      have hS := hS9; clear hP9 hD9 hS9
      refine lv_aload_n hx hb dX9_mustAt_16 rfl (lv_at hl 0 rfl) ?_
      refine lv_iload_n hx hb dX9_mustAt_17 rfl (lv_at hl 3 rfl) ?_
      refine va_put (D := (dC, dI)) (ci := 8) (v := .int a3) (ty := .int) (C := RX9) (T := TX9) (N := 44) hx hb hts inlX9 tyX9 tyX9_ok nmX9 hown hK hP hD hS 0 rgL1_f9e15c6 rfl 13 (by decide) (hts (.fieldLink RX9 184 "ClosedUntilModel" "faultPlace" "I") qw_415) (fun _ h9 => h9) rfl (by decide +kernel) rfl rfl (Nat.le_of_ble_eq_true rfl) dX9_mustAt_18 (fun H locs hP9 hD9 hS9 => ?_)
      clear hP hD hS
      obtain ⟨hP, hD⟩ := rgS1_4a8b427 (e := (a0, .inr (8, [.int a0_0, .int a0_1, .int a0_2, .int a0_3, .ref a0_4, .int a0_5, .int a0_6, .int a0_7, .int a0_8, .int a0_9, .int a0_10, .long a0_11, .int a2, .int a3, .int a0_14, .int a0_15, .int a0_16, .int a0_17, .ref a0_18, .ref a0_19, .ref a0_20, .ref a0_21, .ref a0_22, .ref a0_23, .ref a0_24, .ref a0_25, .ref a0_26, .ref a0_27, .ref a0_28, .ref a0_29, .ref a0_30, .ref a0_31, .ref a0_32, .ref a0_33, .ref a0_34, .ref a0_35, .long a0_36, .int a0_37, .ref a0_38, .ref a0_39, .int a0_40, .ref a0_41, .ref a0_42, .ref a0_43]))) hP9 hD9 rfl
      have hS := hS9; clear hP9 hD9 hS9
      refine lv_aload_n hx hb dX9_mustAt_21 rfl (lv_at hl 0 rfl) ?_
      refine va_get (D := (dC, dI)) (ci := 8) (v := .int a2) (C := RX9) (T := TX9) (N := 44) hx hb hts inlX9 hown hK hP 0 rgL1_f9e15c6 rfl 12 (by decide) (hts (.fieldLink RX9 181 "ClosedUntilModel" "fault" "I") qw_414) (fun _ h9 => h9) rfl dX9_mustAt_22 ?_
      refine lv_if_ne (tgt := 32) hx hb dX9_mustAt_25 (by decide) (fun c25_5 => ?_) (fun c25_5 => ?_)
      · have c25_5 : ¬ (a2.toInt = 0) := mt (cv_eq rfl (by decide)).mpr c25_5
        refine lv_iconst (v := 0) hx hb dX9_mustAt_32 (by decide) ?_
        have qc0 : (0 : Int32).toInt = 0 := by decide
        refine W.widen (k := 0) (n := 0) (Nat.le_of_ble_eq_true rfl) (Nat.le_of_ble_eq_true rfl) ?_
        have hP9 := hP
        have hD9 := hD
        have hK9 := hK
        have hf9_0 : ((0 : Int32) = 0 ∨ (0 : Int32) = 1) := (by decide)
        have hf9_1 : ((0 : Int32).toInt = 1 → a1.toInt ≠ 0) := by omega
        exact W.zret (v := 0) hx hb hr rfl (fun t ht hW => ⟨⟨0, 0, rfl, rfl, a2, a3, hf9_0, hf9_1, atB ht hP9, va_K.moved hW.alike hK9, hD9⟩, hS.F ht⟩) hS.2.2 dX9_mustAt_33
      · have c25_5 : a2.toInt = 0 := (cv_eq rfl (by decide)).mp c25_5
        refine lv_iconst (v := 1) hx hb dX9_mustAt_28 (by decide) ?_
        refine lv_goto (tgt := 33) hx hb dX9_mustAt_29 (by decide) ?_
        have qc1 : (1 : Int32).toInt = 1 := by decide
        refine W.widen (k := 0) (n := 0) (Nat.le_of_ble_eq_true rfl) (Nat.le_of_ble_eq_true rfl) ?_
        have hP9 := hP
        have hD9 := hD
        have hK9 := hK
        have hf9_0 : ((1 : Int32) = 0 ∨ (1 : Int32) = 1) := (by decide)
        have hf9_1 : ((1 : Int32).toInt = 1 → a1.toInt ≠ 0) := by omega
        exact W.zret (v := 1) hx hb hr rfl (fun t ht hW => ⟨⟨1, 1, rfl, rfl, a2, a3, hf9_0, hf9_1, atB ht hP9, va_K.moved hW.alike hK9, hD9⟩, hS.F ht⟩) hS.2.2 dX9_mustAt_33
set_option maxHeartbeats 4000000 in
set_option maxRecDepth 100000 in
theorem k_X9_must (l : Launch) (dC : Nat → ClassId) (dI : Nat → Nat → Nat) (g : Gv) (sz : Nat) (a0 : Nat) (a1 : Int32) (a2 : Int32) (a0_0 : Int32) (a0_1 : Int32) (a0_2 : Int32) (a0_3 : Int32) (a0_4 : Nat) (a0_5 : Int32) (a0_6 : Int32) (a0_7 : Int32) (a0_8 : Int32) (a0_9 : Int32) (a0_10 : Int32) (a0_11 : Int64) (a0_12 : Int32) (a0_13 : Int32) (a0_14 : Int32) (a0_15 : Int32) (a0_16 : Int32) (a0_17 : Int32) (a0_18 : Nat) (a0_19 : Nat) (a0_20 : Nat) (a0_21 : Nat) (a0_22 : Nat) (a0_23 : Nat) (a0_24 : Nat) (a0_25 : Nat) (a0_26 : Nat) (a0_27 : Nat) (a0_28 : Nat) (a0_29 : Nat) (a0_30 : Nat) (a0_31 : Nat) (a0_32 : Nat) (a0_33 : Nat) (a0_34 : Nat) (a0_35 : Nat) (a0_36 : Int64) (a0_37 : Int32) (a0_38 : Nat) (a0_39 : Nat) (a0_40 : Int32) (a0_41 : Nat) (a0_42 : Nat) (a0_43 : Nat) (h_a0_5 : 0 ≤ a0_5.toInt ∧ a0_5.toInt ≤ 1000) (h_a0_6 : 0 ≤ a0_6.toInt ∧ a0_6.toInt ≤ 1000) (h_a0_7 : 0 ≤ a0_7.toInt ∧ a0_7.toInt ≤ 1000) (h_a0_8 : 0 ≤ a0_8.toInt ∧ a0_8.toInt ≤ 1000) (h_a0_17 : 0 ≤ a0_17.toInt ∧ a0_17.toInt ≤ 1) (h_a0_37 : (-1) ≤ a0_37.toInt ∧ a0_37.toInt ≤ 23) (h_a0_40 : 0 ≤ a0_40.toInt ∧ a0_40.toInt ≤ 12) (hk : a2.toInt ≠ 0) : Met l yX9_must (.code yX9_must cX9_must 3 (some .boolean) :: TBL) ({ frames := 1, cells := 0, slots := 0, locals := 23 }) (va_Pc [.ref a0, .int a1, .int a2] (fun U => U.heap.size = sz ∧ va_P (dC, dI) vwCl [(a0, .inr (8, [.int a0_0, .int a0_1, .int a0_2, .int a0_3, .ref a0_4, .int a0_5, .int a0_6, .int a0_7, .int a0_8, .int a0_9, .int a0_10, .long a0_11, .int a0_12, .int a0_13, .int a0_14, .int a0_15, .int a0_16, .int a0_17, .ref a0_18, .ref a0_19, .ref a0_20, .ref a0_21, .ref a0_22, .ref a0_23, .ref a0_24, .ref a0_25, .ref a0_26, .ref a0_27, .ref a0_28, .ref a0_29, .ref a0_30, .ref a0_31, .ref a0_32, .ref a0_33, .ref a0_34, .ref a0_35, .long a0_36, .int a0_37, .ref a0_38, .ref a0_39, .int a0_40, .ref a0_41, .ref a0_42, .ref a0_43]))] U.heap ∧ va_K (dC, dI) vwCl [] U ∧ va_D (fun _ => True) [(a0, .inr (8, [.int a0_0, .int a0_1, .int a0_2, .int a0_3, .ref a0_4, .int a0_5, .int a0_6, .int a0_7, .int a0_8, .int a0_9, .int a0_10, .long a0_11, .int a0_12, .int a0_13, .int a0_14, .int a0_15, .int a0_16, .int a0_17, .ref a0_18, .ref a0_19, .ref a0_20, .ref a0_21, .ref a0_22, .ref a0_23, .ref a0_24, .ref a0_25, .ref a0_26, .ref a0_27, .ref a0_28, .ref a0_29, .ref a0_30, .ref a0_31, .ref a0_32, .ref a0_33, .ref a0_34, .ref a0_35, .long a0_36, .int a0_37, .ref a0_38, .ref a0_39, .int a0_40, .ref a0_41, .ref a0_42, .ref a0_43]))] ∧ Ev g (va_A [(a0, .inr (8, [.int a0_0, .int a0_1, .int a0_2, .int a0_3, .ref a0_4, .int a0_5, .int a0_6, .int a0_7, .int a0_8, .int a0_9, .int a0_10, .long a0_11, .int a0_12, .int a0_13, .int a0_14, .int a0_15, .int a0_16, .int a0_17, .ref a0_18, .ref a0_19, .ref a0_20, .ref a0_21, .ref a0_22, .ref a0_23, .ref a0_24, .ref a0_25, .ref a0_26, .ref a0_27, .ref a0_28, .ref a0_29, .ref a0_30, .ref a0_31, .ref a0_32, .ref a0_33, .ref a0_34, .ref a0_35, .long a0_36, .int a0_37, .ref a0_38, .ref a0_39, .int a0_40, .ref a0_41, .ref a0_42, .ref a0_43]))] sz) U)) (va_Qi (fun (r : Int32) (u : Int32) => u = r) (fun (u : Int32) (t : State) => ∃ (za0_12 : Int32) (za0_13 : Int32), (u = 0 ∨ u = 1) ∧ (u.toInt = 1 → a1.toInt ≠ 0) ∧ va_P (dC, dI) vwCl [(a0, .inr (8, [.int a0_0, .int a0_1, .int a0_2, .int a0_3, .ref a0_4, .int a0_5, .int a0_6, .int a0_7, .int a0_8, .int a0_9, .int a0_10, .long a0_11, .int za0_12, .int za0_13, .int a0_14, .int a0_15, .int a0_16, .int a0_17, .ref a0_18, .ref a0_19, .ref a0_20, .ref a0_21, .ref a0_22, .ref a0_23, .ref a0_24, .ref a0_25, .ref a0_26, .ref a0_27, .ref a0_28, .ref a0_29, .ref a0_30, .ref a0_31, .ref a0_32, .ref a0_33, .ref a0_34, .ref a0_35, .long a0_36, .int a0_37, .ref a0_38, .ref a0_39, .int a0_40, .ref a0_41, .ref a0_42, .ref a0_43]))] t.heap ∧ va_K (dC, dI) vwCl [] t ∧ va_D (va_A [(a0, .inr (8, [.int a0_0, .int a0_1, .int a0_2, .int a0_3, .ref a0_4, .int a0_5, .int a0_6, .int a0_7, .int a0_8, .int a0_9, .int a0_10, .long a0_11, .int a0_12, .int a0_13, .int a0_14, .int a0_15, .int a0_16, .int a0_17, .ref a0_18, .ref a0_19, .ref a0_20, .ref a0_21, .ref a0_22, .ref a0_23, .ref a0_24, .ref a0_25, .ref a0_26, .ref a0_27, .ref a0_28, .ref a0_29, .ref a0_30, .ref a0_31, .ref a0_32, .ref a0_33, .ref a0_34, .ref a0_35, .long a0_36, .int a0_37, .ref a0_38, .ref a0_39, .int a0_40, .ref a0_41, .ref a0_42, .ref a0_43]))] sz) [(a0, .inr (8, [.int a0_0, .int a0_1, .int a0_2, .int a0_3, .ref a0_4, .int a0_5, .int a0_6, .int a0_7, .int a0_8, .int a0_9, .int a0_10, .long a0_11, .int za0_12, .int za0_13, .int a0_14, .int a0_15, .int a0_16, .int a0_17, .ref a0_18, .ref a0_19, .ref a0_20, .ref a0_21, .ref a0_22, .ref a0_23, .ref a0_24, .ref a0_25, .ref a0_26, .ref a0_27, .ref a0_28, .ref a0_29, .ref a0_30, .ref a0_31, .ref a0_32, .ref a0_33, .ref a0_34, .ref a0_35, .long a0_36, .int a0_37, .ref a0_38, .ref a0_39, .int a0_40, .ref a0_41, .ref a0_42, .ref a0_43]))]) (va_A [(a0, .inr (8, [.int a0_0, .int a0_1, .int a0_2, .int a0_3, .ref a0_4, .int a0_5, .int a0_6, .int a0_7, .int a0_8, .int a0_9, .int a0_10, .long a0_11, .int a0_12, .int a0_13, .int a0_14, .int a0_15, .int a0_16, .int a0_17, .ref a0_18, .ref a0_19, .ref a0_20, .ref a0_21, .ref a0_22, .ref a0_23, .ref a0_24, .ref a0_25, .ref a0_26, .ref a0_27, .ref a0_28, .ref a0_29, .ref a0_30, .ref a0_31, .ref a0_32, .ref a0_33, .ref a0_34, .ref a0_35, .long a0_36, .int a0_37, .ref a0_38, .ref a0_39, .int a0_40, .ref a0_41, .ref a0_42, .ref a0_43]))] sz)) 0 0 (va_A [(a0, .inr (8, [.int a0_0, .int a0_1, .int a0_2, .int a0_3, .ref a0_4, .int a0_5, .int a0_6, .int a0_7, .int a0_8, .int a0_9, .int a0_10, .long a0_11, .int a0_12, .int a0_13, .int a0_14, .int a0_15, .int a0_16, .int a0_17, .ref a0_18, .ref a0_19, .ref a0_20, .ref a0_21, .ref a0_22, .ref a0_23, .ref a0_24, .ref a0_25, .ref a0_26, .ref a0_27, .ref a0_28, .ref a0_29, .ref a0_30, .ref a0_31, .ref a0_32, .ref a0_33, .ref a0_34, .ref a0_35, .long a0_36, .int a0_37, .ref a0_38, .ref a0_39, .int a0_40, .ref a0_41, .ref a0_42, .ref a0_43]))] sz) := by
  refine Met.ofW (cc := cX9_must) (maxL := 3) (ret := (some .boolean)) (by decide) rfl ?_
  intro p e s m args below meth c s₁ B hml hv
  obtain ⟨rfl, hsz, hP, hK, hD0, hE⟩ := hv
  have hx := B.exec
  have hb := B.bytes
  have hr := B.returns
  have hts0 := atoms_spec (ws := (.code yX9_must cX9_must 3 (some .boolean) :: TBL)) B.pre
  have hts := fun (w : Cond) (h : w ∈ TBL) => hts0 w (List.mem_cons_of_mem _ h)
  have hown : s.vm.findClass RX9 = some m.cls := findClass_of_methodNamed B.named
  have hlocks := B.notSynchronized
  have hN := hE.1
  subst hsz
  have hD := hD0.self (sz := s.heap.size)
  generalize hAe : va_A [(a0, .inr (8, [.int a0_0, .int a0_1, .int a0_2, .int a0_3, .ref a0_4, .int a0_5, .int a0_6, .int a0_7, .int a0_8, .int a0_9, .int a0_10, .long a0_11, .int a0_12, .int a0_13, .int a0_14, .int a0_15, .int a0_16, .int a0_17, .ref a0_18, .ref a0_19, .ref a0_20, .ref a0_21, .ref a0_22, .ref a0_23, .ref a0_24, .ref a0_25, .ref a0_26, .ref a0_27, .ref a0_28, .ref a0_29, .ref a0_30, .ref a0_31, .ref a0_32, .ref a0_33, .ref a0_34, .ref a0_35, .long a0_36, .int a0_37, .ref a0_38, .ref a0_39, .int a0_40, .ref a0_41, .ref a0_42, .ref a0_43]))] s.heap.size = A at hD hE ⊢
  have hA : ∀ q : Nat, s.heap.size ≤ q → A q := fun q h => by rw [← hAe]; exact Or.inr h
  have hS : va_S A s.heap s.heap [] := va_S.rf
  replace hP : va_P (dC, dI) vwCl [(a0, .inr (8, [.int a0_0, .int a0_1, .int a0_2, .int a0_3, .ref a0_4, .int a0_5, .int a0_6, .int a0_7, .int a0_8, .int a0_9, .int a0_10, .long a0_11, .int a0_12, .int a0_13, .int a0_14, .int a0_15, .int a0_16, .int a0_17, .ref a0_18, .ref a0_19, .ref a0_20, .ref a0_21, .ref a0_22, .ref a0_23, .ref a0_24, .ref a0_25, .ref a0_26, .ref a0_27, .ref a0_28, .ref a0_29, .ref a0_30, .ref a0_31, .ref a0_32, .ref a0_33, .ref a0_34, .ref a0_35, .long a0_36, .int a0_37, .ref a0_38, .ref a0_39, .int a0_40, .ref a0_41, .ref a0_42, .ref a0_43]))] s.heap := hP
  have hl := lv_entry ([.ref a0, .int a1, .int a2]) (n := 3) (Nat.le_of_ble_eq_true rfl)
  rw [lg_entry_eq]
  generalize (lg_sl ([.ref a0, .int a1, .int a2]) ++ List.replicate (3 - (lg_sl ([.ref a0, .int a1, .int a2])).length) Slot.unset).toArray = ls at hl ⊢
  have hl : lv_has ls 3 [(0, .ref a0), (1, .int a1), (2, .int a2)] := hl
  have b_a1 := i32b a1
  have b_a2 := i32b a2
  have b_a0_0 := i32b a0_0
  have b_a0_1 := i32b a0_1
  have b_a0_2 := i32b a0_2
  have b_a0_3 := i32b a0_3
  have b_a0_9 := i32b a0_9
  have b_a0_10 := i32b a0_10
  have b_a0_12 := i32b a0_12
  have b_a0_13 := i32b a0_13
  have b_a0_14 := i32b a0_14
  have b_a0_15 := i32b a0_15
  have b_a0_16 := i32b a0_16
  refine lv_aload_n hx hb dX9_must_0 rfl (lv_at hl 0 rfl) ?_
  refine lv_iload_n hx hb dX9_must_1 rfl (lv_at hl 1 rfl) ?_
  refine lv_iload_n hx hb dX9_must_2 rfl (lv_at hl 2 rfl) ?_
  refine lv_aload_n hx hb dX9_must_3 rfl (lv_at hl 0 rfl) ?_
  refine va_get (D := (dC, dI)) (ci := 8) (v := .int a0_7) (C := RX9) (T := TX9) (N := 44) hx hb hts inlX9 hown hK hP 0 rgL1_f9e15c6 rfl 7 (by decide) (hts (.fieldLink RX9 154 "ClosedUntilModel" "from" "I") qw_416) (fun _ h9 => h9) rfl dX9_must_4 ?_
  have hPc := hP
  have hKc := hK
  have hDc := hD
  have hFc := freeW hDc hS hA
  refine va_calli (va_runV (As := [.int a1, .int a2, .int a0_7]) (rest := []) ⟨hx, hb, hml, hown, hts⟩ (k_X9_mustAt l dC dI g s.heap.size (a0) (a1) (a2) (a0_7) (a0_0) (a0_1) (a0_2) (a0_3) (a0_4) (a0_5) (a0_6) (a0_7) (a0_8) (a0_9) (a0_10) (a0_11) (a0_12) (a0_13) (a0_14) (a0_15) (a0_16) (a0_17) (a0_18) (a0_19) (a0_20) (a0_21) (a0_22) (a0_23) (a0_24) (a0_25) (a0_26) (a0_27) (a0_28) (a0_29) (a0_30) (a0_31) (a0_32) (a0_33) (a0_34) (a0_35) (a0_36) (a0_37) (a0_38) (a0_39) (a0_40) (a0_41) (a0_42) (a0_43) (by omega) (by omega) (by omega) (by omega) (by omega) (by omega) (by omega) (by omega)) (cwV 3 hts (gwV qw_418 qw_419 qw_420 qw_386 qw_417) rfl rfl rfl (by decide +kernel) ⟨Nat.le_of_ble_eq_true rfl, Nat.le_of_ble_eq_true rfl⟩) ⟨fun a U g9 mk q => ⟨q.1, q.2.1, q.2.2.1, va_K.moved (u := U) (U := U.calling g9 mk a) (Vm.Alike.refl U.vm) q.2.2.2.1, q.2.2.2.2.1, Ev.bl q.2.2.2.2.2⟩, va_recv hK hP (ci := 8) (q0 := 0) rfl rgL1_f9e15c6, fun U hU hW => ⟨rfl, by rw [hU], atB hU hPc, va_K.moved hW.alike hKc, hDc.weaken (fun _ _ _ _ => trivial), hE.go hS hFc hU hW⟩⟩ rfl rfl hl.1 rfl (lv_room (Nat.le_of_ble_eq_true rfl)) dX9_must_7 ⟨Nat.le_of_ble_eq_true rfl, Nat.le_of_ble_eq_true rfl⟩) hS (fun q _ h => hFc q h) hFc (fun r2 u1 t H1 locs ht hvm h_u1 hB hz1 hk1 hS => ?_)
  obtain ⟨za0_12_3, za0_13_4, hF5, hF6, hP1, hK1, hD1⟩ := hB
  have hK1 := va_K.moved hvm.symm hK1
  have hJ9 := rgJ1_5dd387d hP hD hk1 hFc (atH ht hP1) hD1
  clear hP hD hPc hKc hDc hFc hP1 hD1 hk1 hz1
  obtain ⟨hP, hD⟩ := hJ9
  clear hK1
  generalize H1 = H at hP hS ⊢
  refine W.widen (k := 0) (n := 0) (Nat.le_of_ble_eq_true rfl) (Nat.le_of_ble_eq_true rfl) ?_
  have h_r2 := congrArg Int32.toInt h_u1
  have hz_r2 : r2 = 0 ∨ r2 = 1 := h_u1 ▸ hF5
  have b_r2 := z01 hz_r2
  have hz_r2 : r2 = 0 ∨ r2 = 1 := by first | assumption | exact h_r2.1 | (rcases (show r2.toInt = 0 ∨ r2.toInt = 1 by omega) with q | q; exact Or.inl (Int32.toInt_inj.mp q); exact Or.inr (Int32.toInt_inj.mp q))
  refine W.widen (k := 0) (n := 0) (Nat.le_of_ble_eq_true rfl) (Nat.le_of_ble_eq_true rfl) ?_
  have hP9 := hP
  have hD9 := hD
  have hK9 := hK
  have hf9_0 : (r2 = 0 ∨ r2 = 1) := hz_r2
  have hf9_1 : (r2.toInt = 1 → a1.toInt ≠ 0) := by omega
  exact W.zret (v := r2) hx hb hr (narB (by assumption)) (fun t ht hW => ⟨⟨r2, r2, rfl, rfl, za0_12_3, za0_13_4, hf9_0, hf9_1, atB ht hP9, va_K.moved hW.alike hK9, hD9⟩, hS.F ht⟩) hS.2.2 dX9_must_10
set_option maxHeartbeats 4000000 in
set_option maxRecDepth 100000 in
theorem k_X9_is (l : Launch) (dC : Nat → ClassId) (dI : Nat → Nat → Nat) (g : Gv) (a0 : Nat) (sk : Nat) (a0_0 : Int32) (a0_1 : Int32) (a0_2 : Int32) (a0_3 : Int32) (a0_4 : Nat) (a0_5 : Int32) (a0_6 : Int32) (a0_7 : Int32) (a0_8 : Int32) (a0_9 : Int32) (a0_10 : Int32) (a0_11 : Int64) (a0_12 : Int32) (a0_13 : Int32) (a0_14 : Int32) (a0_15 : Int32) (a0_16 : Int32) (a0_17 : Int32) (a0_18 : Nat) (a0_19 : Nat) (a0_20 : Nat) (a0_21 : Nat) (a0_22 : Nat) (a0_23 : Nat) (a0_24 : Nat) (a0_25 : Nat) (a0_26 : Nat) (a0_27 : Nat) (a0_28 : Nat) (a0_29 : Nat) (a0_30 : Nat) (a0_31 : Nat) (a0_32 : Nat) (a0_33 : Nat) (a0_34 : Nat) (a0_35 : Nat) (a0_36 : Int64) (a0_37 : Int32) (a0_38 : Nat) (a0_39 : Nat) (a0_40 : Int32) (a0_41 : Nat) (a0_42 : Nat) (a0_43 : Nat) (h_a0_5 : 0 ≤ a0_5.toInt ∧ a0_5.toInt ≤ 1000) (h_a0_6 : 0 ≤ a0_6.toInt ∧ a0_6.toInt ≤ 1000) (h_a0_7 : 0 ≤ a0_7.toInt ∧ a0_7.toInt ≤ 1000) (h_a0_8 : 0 ≤ a0_8.toInt ∧ a0_8.toInt ≤ 1000) (h_a0_17 : 0 ≤ a0_17.toInt ∧ a0_17.toInt ≤ 1) (h_a0_37 : (-1) ≤ a0_37.toInt ∧ a0_37.toInt ≤ 23) (h_a0_40 : 0 ≤ a0_40.toInt ∧ a0_40.toInt ≤ 12) (hsk : sk < 12) : Met l yX9_is (.code yX9_is cX9_is 2 (some .boolean) :: TBL) ({ frames := 5, cells := 0, slots := 0, locals := 183 }) (va_Pc [.ref a0, .ref (g.2.2.2.2.2.1 sk)] (fun U => va_P (dC, dI) vwCl [(a0, .inr (8, [.int a0_0, .int a0_1, .int a0_2, .int a0_3, .ref a0_4, .int a0_5, .int a0_6, .int a0_7, .int a0_8, .int a0_9, .int a0_10, .long a0_11, .int a0_12, .int a0_13, .int a0_14, .int a0_15, .int a0_16, .int a0_17, .ref a0_18, .ref a0_19, .ref a0_20, .ref a0_21, .ref a0_22, .ref a0_23, .ref a0_24, .ref a0_25, .ref a0_26, .ref a0_27, .ref a0_28, .ref a0_29, .ref a0_30, .ref a0_31, .ref a0_32, .ref a0_33, .ref a0_34, .ref a0_35, .long a0_36, .int a0_37, .ref a0_38, .ref a0_39, .int a0_40, .ref a0_41, .ref a0_42, .ref a0_43]))] U.heap ∧ va_K (dC, dI) vwCl [] U ∧ Ev g (fun _ => False) U)) (vp_Si (fun (r : Int32) => (r = 0 ∨ r = 1))) 0 0 (fun _ => False) := by
  refine Met.ofW (cc := cX9_is) (maxL := 2) (ret := (some .boolean)) (by decide) rfl ?_
  intro p e s m args below meth c s₁ B hml hv
  obtain ⟨rfl, hP, hK, hE⟩ := hv
  have hx := B.exec
  have hb := B.bytes
  have hr := B.returns
  have hts0 := atoms_spec (ws := (.code yX9_is cX9_is 2 (some .boolean) :: TBL)) B.pre
  have hts := fun (w : Cond) (h : w ∈ TBL) => hts0 w (List.mem_cons_of_mem _ h)
  have hown : s.vm.findClass RX9 = some m.cls := findClass_of_methodNamed B.named
  have hlocks := B.notSynchronized
  have hN := hE.1
  have hS : va_S (fun _ => False) s.heap s.heap [] := va_S.rf
  replace hP : va_P (dC, dI) vwCl [(a0, .inr (8, [.int a0_0, .int a0_1, .int a0_2, .int a0_3, .ref a0_4, .int a0_5, .int a0_6, .int a0_7, .int a0_8, .int a0_9, .int a0_10, .long a0_11, .int a0_12, .int a0_13, .int a0_14, .int a0_15, .int a0_16, .int a0_17, .ref a0_18, .ref a0_19, .ref a0_20, .ref a0_21, .ref a0_22, .ref a0_23, .ref a0_24, .ref a0_25, .ref a0_26, .ref a0_27, .ref a0_28, .ref a0_29, .ref a0_30, .ref a0_31, .ref a0_32, .ref a0_33, .ref a0_34, .ref a0_35, .long a0_36, .int a0_37, .ref a0_38, .ref a0_39, .int a0_40, .ref a0_41, .ref a0_42, .ref a0_43]))] s.heap := hP
  have hl := lv_entry ([.ref a0, .ref (g.2.2.2.2.2.1 sk)]) (n := 2) (Nat.le_of_ble_eq_true rfl)
  rw [lg_entry_eq]
  generalize (lg_sl ([.ref a0, .ref (g.2.2.2.2.2.1 sk)]) ++ List.replicate (2 - (lg_sl ([.ref a0, .ref (g.2.2.2.2.2.1 sk)])).length) Slot.unset).toArray = ls at hl ⊢
  have hl : lv_has ls 2 [(0, .ref a0), (1, .ref (g.2.2.2.2.2.1 sk))] := hl
  have b_a0_0 := i32b a0_0
  have b_a0_1 := i32b a0_1
  have b_a0_2 := i32b a0_2
  have b_a0_3 := i32b a0_3
  have b_a0_9 := i32b a0_9
  have b_a0_10 := i32b a0_10
  have b_a0_12 := i32b a0_12
  have b_a0_13 := i32b a0_13
  have b_a0_14 := i32b a0_14
  have b_a0_15 := i32b a0_15
  have b_a0_16 := i32b a0_16
  refine lv_aload_n hx hb dX9_is_0 rfl (lv_at hl 0 rfl) ?_
  refine va_get (D := (dC, dI)) (ci := 8) (v := .int a0_9) (C := RX9) (T := TX9) (N := 44) hx hb hts inlX9 hown hK hP 0 rgL1_f9e15c6 rfl 9 (by decide) (hts (.fieldLink RX9 160 "ClosedUntilModel" "token" "I") qw_421) (fun _ h9 => h9) rfl dX9_is_1 ?_
  refine lv_iconst (v := 1) hx hb dX9_is_4 (by decide) ?_
  refine lv_icmp_ne (tgt := 24) hx hb dX9_is_5 (by decide) (fun c5_1 => ?_) (fun c5_1 => ?_)
  · have c5_1 : ¬ (a0_9.toInt = 1) := mt (cv_eq rfl (by decide)).mpr c5_1
    refine lv_iconst (v := 0) hx hb dX9_is_24 (by decide) ?_
    exact W.zret (v := 0) hx hb hr rfl (fun t ht hW => ⟨0, rfl, (by decide), ht⟩) (fun _ h => absurd h List.not_mem_nil) dX9_is_25
  · have c5_1 : a0_9.toInt = 1 := (cv_eq rfl (by decide)).mp c5_1
    refine lv_aload_n hx hb dX9_is_8 rfl (lv_at hl 0 rfl) ?_
    refine va_get (D := (dC, dI)) (ci := 8) (v := .long a0_11) (C := RX9) (T := TX9) (N := 44) hx hb hts inlX9 hown hK hP 0 rgL1_f9e15c6 rfl 11 (by decide) (hts (.fieldLink RX9 166 "ClosedUntilModel" "word" "J") qw_422) (fun _ h9 => h9) rfl dX9_is_9 ?_
    refine lv_aload_n hx hb dX9_is_12 rfl (lv_at hl 1 rfl) ?_
    have hPc := (rgP1_e1bfc9f hP)
    have hKc := hK
    refine vp_callSl ((va_runS (As := [.ref (g.2.2.2.2.2.1 sk)]) (rest := [.long a0_11]) ⟨hx, hb, hml, hown, hts⟩ (k_X9_spelled l dC dI g (sk) (by first | assumption | decide)) (va_cwS 1 hts (gwS qw_424 qw_425 qw_386 qw_423) rfl rfl rfl (by decide +kernel) ⟨Nat.le_of_ble_eq_true rfl, Nat.le_of_ble_eq_true rfl⟩) ⟨fun a U g9 mk q => ⟨q.1, q.2.1, va_K.moved (u := U) (U := U.calling g9 mk a) (Vm.Alike.refl U.vm) q.2.2.1, Ev.bl q.2.2.2⟩, fun U hU hW => ⟨rfl, atB hU hPc, va_K.moved hW.alike hKc, hE.go hS (fun _ h => h.elim) hU hW⟩⟩ rfl rfl hl.1 rfl (lv_room (Nat.le_of_ble_eq_true rfl)) dX9_is_13 ⟨Nat.le_of_ble_eq_true rfl, Nat.le_of_ble_eq_true rfl⟩)).run (fun r2 h_r2 => ?_)
    refine W.lcmp hx hb dX9_is_16 ?_
    refine lv_topi (fun x3 e_x3 => ?_)
    refine lv_if_ne (tgt := 24) hx hb dX9_is_17 (by decide) (fun c17_4 => ?_) (fun c17_4 => ?_)
    · have c17_4 : ¬ (x3.toInt = 0) := mt (cv_eq rfl (by decide)).mpr c17_4
      refine lv_iconst (v := 0) hx hb dX9_is_24 (by decide) ?_
      exact W.zret (v := 0) hx hb hr rfl (fun t ht hW => ⟨0, rfl, (by decide), ht⟩) (fun _ h => absurd h List.not_mem_nil) dX9_is_25
    · have c17_4 : x3.toInt = 0 := (cv_eq rfl (by decide)).mp c17_4
      refine lv_iconst (v := 1) hx hb dX9_is_20 (by decide) ?_
      refine lv_goto (tgt := 25) hx hb dX9_is_21 (by decide) ?_
      exact W.zret (v := 1) hx hb hr rfl (fun t ht hW => ⟨1, rfl, (by decide), ht⟩) (fun _ h => absurd h List.not_mem_nil) dX9_is_25
set_option maxHeartbeats 4000000 in
set_option maxRecDepth 100000 in
theorem k_X9_isOwn (l : Launch) (dC : Nat → ClassId) (dI : Nat → Nat → Nat) (g : Gv) (a0 : Nat) (a0_0 : Int32) (a0_1 : Int32) (a0_2 : Int32) (a0_3 : Int32) (a0_4 : Nat) (a0_5 : Int32) (a0_6 : Int32) (a0_7 : Int32) (a0_8 : Int32) (a0_9 : Int32) (a0_10 : Int32) (a0_11 : Int64) (a0_12 : Int32) (a0_13 : Int32) (a0_14 : Int32) (a0_15 : Int32) (a0_16 : Int32) (a0_17 : Int32) (a0_18 : Nat) (a0_19 : Nat) (a0_20 : Nat) (a0_21 : Nat) (a0_22 : Nat) (a0_23 : Nat) (a0_24 : Nat) (a0_25 : Nat) (a0_26 : Nat) (a0_27 : Nat) (a0_28 : Nat) (a0_29 : Nat) (a0_30 : Nat) (a0_31 : Nat) (a0_32 : Nat) (a0_33 : Nat) (a0_34 : Nat) (a0_35 : Nat) (a0_36 : Int64) (a0_37 : Int32) (a0_38 : Nat) (a0_39 : Nat) (a0_40 : Int32) (a0_41 : Nat) (a0_42 : Nat) (a0_43 : Nat) (h_a0_5 : 0 ≤ a0_5.toInt ∧ a0_5.toInt ≤ 1000) (h_a0_6 : 0 ≤ a0_6.toInt ∧ a0_6.toInt ≤ 1000) (h_a0_7 : 0 ≤ a0_7.toInt ∧ a0_7.toInt ≤ 1000) (h_a0_8 : 0 ≤ a0_8.toInt ∧ a0_8.toInt ≤ 1000) (h_a0_17 : 0 ≤ a0_17.toInt ∧ a0_17.toInt ≤ 1) (h_a0_37 : (-1) ≤ a0_37.toInt ∧ a0_37.toInt ≤ 23) (h_a0_40 : 0 ≤ a0_40.toInt ∧ a0_40.toInt ≤ 12) : Met l yX9_isOwn (.code yX9_isOwn cX9_isOwn 1 (some .boolean) :: TBL) ({ frames := 6, cells := 0, slots := 0, locals := 204 }) (va_Pc [.ref a0] (fun U => va_P (dC, dI) vwCl [(a0, .inr (8, [.int a0_0, .int a0_1, .int a0_2, .int a0_3, .ref a0_4, .int a0_5, .int a0_6, .int a0_7, .int a0_8, .int a0_9, .int a0_10, .long a0_11, .int a0_12, .int a0_13, .int a0_14, .int a0_15, .int a0_16, .int a0_17, .ref a0_18, .ref a0_19, .ref a0_20, .ref a0_21, .ref a0_22, .ref a0_23, .ref a0_24, .ref a0_25, .ref a0_26, .ref a0_27, .ref a0_28, .ref a0_29, .ref a0_30, .ref a0_31, .ref a0_32, .ref a0_33, .ref a0_34, .ref a0_35, .long a0_36, .int a0_37, .ref a0_38, .ref a0_39, .int a0_40, .ref a0_41, .ref a0_42, .ref a0_43]))] U.heap ∧ va_K (dC, dI) vwCl [] U ∧ Ev g (fun _ => False) U)) (vp_Si (fun (r : Int32) => (r = 0 ∨ r = 1))) 0 0 (fun _ => False) := by
  refine Met.ofW (cc := cX9_isOwn) (maxL := 1) (ret := (some .boolean)) (by decide) rfl ?_
  intro p e s m args below meth c s₁ B hml hv
  obtain ⟨rfl, hP, hK, hE⟩ := hv
  have hx := B.exec
  have hb := B.bytes
  have hr := B.returns
  have hts0 := atoms_spec (ws := (.code yX9_isOwn cX9_isOwn 1 (some .boolean) :: TBL)) B.pre
  have hts := fun (w : Cond) (h : w ∈ TBL) => hts0 w (List.mem_cons_of_mem _ h)
  have hown : s.vm.findClass RX9 = some m.cls := findClass_of_methodNamed B.named
  have hlocks := B.notSynchronized
  have hN := hE.1
  have hS : va_S (fun _ => False) s.heap s.heap [] := va_S.rf
  replace hP : va_P (dC, dI) vwCl [(a0, .inr (8, [.int a0_0, .int a0_1, .int a0_2, .int a0_3, .ref a0_4, .int a0_5, .int a0_6, .int a0_7, .int a0_8, .int a0_9, .int a0_10, .long a0_11, .int a0_12, .int a0_13, .int a0_14, .int a0_15, .int a0_16, .int a0_17, .ref a0_18, .ref a0_19, .ref a0_20, .ref a0_21, .ref a0_22, .ref a0_23, .ref a0_24, .ref a0_25, .ref a0_26, .ref a0_27, .ref a0_28, .ref a0_29, .ref a0_30, .ref a0_31, .ref a0_32, .ref a0_33, .ref a0_34, .ref a0_35, .long a0_36, .int a0_37, .ref a0_38, .ref a0_39, .int a0_40, .ref a0_41, .ref a0_42, .ref a0_43]))] s.heap := hP
  have hl := lv_entry ([.ref a0]) (n := 1) (Nat.le_of_ble_eq_true rfl)
  rw [lg_entry_eq]
  generalize (lg_sl ([.ref a0]) ++ List.replicate (1 - (lg_sl ([.ref a0])).length) Slot.unset).toArray = ls at hl ⊢
  have hl : lv_has ls 1 [(0, .ref a0)] := hl
  have b_a0_0 := i32b a0_0
  have b_a0_1 := i32b a0_1
  have b_a0_2 := i32b a0_2
  have b_a0_3 := i32b a0_3
  have b_a0_9 := i32b a0_9
  have b_a0_10 := i32b a0_10
  have b_a0_12 := i32b a0_12
  have b_a0_13 := i32b a0_13
  have b_a0_14 := i32b a0_14
  have b_a0_15 := i32b a0_15
  have b_a0_16 := i32b a0_16
  refine lv_aload_n hx hb dX9_isOwn_0 rfl (lv_at hl 0 rfl) ?_
  refine va_ldcS hx hb hown (show vk_R RX9 205 "person" (g.2.2.2.2.2.1 0) s from hE.2.2.2.2.2.2.2.2.2.2.2.2.2.2.2.2 0 (by decide)) dX9_isOwn_1 ?_
  have hPc := hP
  have hKc := hK
  refine vp_callSi ((va_runV (As := [.ref (g.2.2.2.2.2.1 0)]) (rest := []) ⟨hx, hb, hml, hown, hts⟩ (k_X9_is l dC dI g (a0) (0) (a0_0) (a0_1) (a0_2) (a0_3) (a0_4) (a0_5) (a0_6) (a0_7) (a0_8) (a0_9) (a0_10) (a0_11) (a0_12) (a0_13) (a0_14) (a0_15) (a0_16) (a0_17) (a0_18) (a0_19) (a0_20) (a0_21) (a0_22) (a0_23) (a0_24) (a0_25) (a0_26) (a0_27) (a0_28) (a0_29) (a0_30) (a0_31) (a0_32) (a0_33) (a0_34) (a0_35) (a0_36) (a0_37) (a0_38) (a0_39) (a0_40) (a0_41) (a0_42) (a0_43) (by omega) (by omega) (by omega) (by omega) (by omega) (by omega) (by omega) (by first | assumption | decide)) (cwV 1 hts (gwV qw_427 qw_428 qw_429 qw_386 qw_426) rfl rfl rfl (by decide +kernel) ⟨Nat.le_of_ble_eq_true rfl, Nat.le_of_ble_eq_true rfl⟩) ⟨fun a U g9 mk q => ⟨q.1, q.2.1, va_K.moved (u := U) (U := U.calling g9 mk a) (Vm.Alike.refl U.vm) q.2.2.1, Ev.bl q.2.2.2⟩, va_recv hK hP (ci := 8) (q0 := 0) rfl rgL1_f9e15c6, fun U hU hW => ⟨rfl, atB hU hPc, va_K.moved hW.alike hKc, hE.go hS (fun _ h => h.elim) hU hW⟩⟩ rfl rfl hl.1 rfl (lv_room (Nat.le_of_ble_eq_true rfl)) dX9_isOwn_3 ⟨Nat.le_of_ble_eq_true rfl, Nat.le_of_ble_eq_true rfl⟩)).run (fun r1 h_r1 => ?_)
  have h_r1 : (r1 = 0 ∨ r1 = 1) := h_r1
  have b_r1 := z01 (show r1 = 0 ∨ r1 = 1 from h_r1)
  refine lv_if_ne (tgt := 108) hx hb dX9_isOwn_6 (by decide) (fun c6_2 => ?_) (fun c6_2 => ?_)
  · have c6_2 : ¬ (r1.toInt = 0) := mt (cv_eq rfl (by decide)).mpr c6_2
    refine lv_iconst (v := 1) hx hb dX9_isOwn_108 (by decide) ?_
    refine lv_goto (tgt := 113) hx hb dX9_isOwn_109 (by decide) ?_
    exact W.zret (v := 1) hx hb hr rfl (fun t ht hW => ⟨1, rfl, (by decide), ht⟩) (fun _ h => absurd h List.not_mem_nil) dX9_isOwn_113
  · have c6_2 : r1.toInt = 0 := (cv_eq rfl (by decide)).mp c6_2
    refine lv_aload_n hx hb dX9_isOwn_9 rfl (lv_at hl 0 rfl) ?_
    refine va_ldcS hx hb hown (show vk_R RX9 211 "born" (g.2.2.2.2.2.1 1) s from hE.2.2.2.2.2.2.2.2.2.2.2.2.2.2.2.2 1 (by decide)) dX9_isOwn_10 ?_
    have hPc := hP
    have hKc := hK
    refine vp_callSi ((va_runV (As := [.ref (g.2.2.2.2.2.1 1)]) (rest := []) ⟨hx, hb, hml, hown, hts⟩ (k_X9_is l dC dI g (a0) (1) (a0_0) (a0_1) (a0_2) (a0_3) (a0_4) (a0_5) (a0_6) (a0_7) (a0_8) (a0_9) (a0_10) (a0_11) (a0_12) (a0_13) (a0_14) (a0_15) (a0_16) (a0_17) (a0_18) (a0_19) (a0_20) (a0_21) (a0_22) (a0_23) (a0_24) (a0_25) (a0_26) (a0_27) (a0_28) (a0_29) (a0_30) (a0_31) (a0_32) (a0_33) (a0_34) (a0_35) (a0_36) (a0_37) (a0_38) (a0_39) (a0_40) (a0_41) (a0_42) (a0_43) (by omega) (by omega) (by omega) (by omega) (by omega) (by omega) (by omega) (by first | assumption | decide)) (cwV 1 hts (gwV qw_427 qw_428 qw_429 qw_386 qw_426) rfl rfl rfl (by decide +kernel) ⟨Nat.le_of_ble_eq_true rfl, Nat.le_of_ble_eq_true rfl⟩) ⟨fun a U g9 mk q => ⟨q.1, q.2.1, va_K.moved (u := U) (U := U.calling g9 mk a) (Vm.Alike.refl U.vm) q.2.2.1, Ev.bl q.2.2.2⟩, va_recv hK hP (ci := 8) (q0 := 0) rfl rgL1_f9e15c6, fun U hU hW => ⟨rfl, atB hU hPc, va_K.moved hW.alike hKc, hE.go hS (fun _ h => h.elim) hU hW⟩⟩ rfl rfl hl.1 rfl (lv_room (Nat.le_of_ble_eq_true rfl)) dX9_isOwn_12 ⟨Nat.le_of_ble_eq_true rfl, Nat.le_of_ble_eq_true rfl⟩)).run (fun r3 h_r3 => ?_)
    have h_r3 : (r3 = 0 ∨ r3 = 1) := h_r3
    have b_r3 := z01 (show r3 = 0 ∨ r3 = 1 from h_r3)
    refine lv_if_ne (tgt := 108) hx hb dX9_isOwn_15 (by decide) (fun c15_4 => ?_) (fun c15_4 => ?_)
    · have c15_4 : ¬ (r3.toInt = 0) := mt (cv_eq rfl (by decide)).mpr c15_4
      refine lv_iconst (v := 1) hx hb dX9_isOwn_108 (by decide) ?_
      refine lv_goto (tgt := 113) hx hb dX9_isOwn_109 (by decide) ?_
      exact W.zret (v := 1) hx hb hr rfl (fun t ht hW => ⟨1, rfl, (by decide), ht⟩) (fun _ h => absurd h List.not_mem_nil) dX9_isOwn_113
    · have c15_4 : r3.toInt = 0 := (cv_eq rfl (by decide)).mp c15_4
      refine lv_aload_n hx hb dX9_isOwn_18 rfl (lv_at hl 0 rfl) ?_
      refine va_ldcS hx hb hown (show vk_R RX9 213 "died" (g.2.2.2.2.2.1 2) s from hE.2.2.2.2.2.2.2.2.2.2.2.2.2.2.2.2 2 (by decide)) dX9_isOwn_19 ?_
      have hPc := hP
      have hKc := hK
      refine vp_callSi ((va_runV (As := [.ref (g.2.2.2.2.2.1 2)]) (rest := []) ⟨hx, hb, hml, hown, hts⟩ (k_X9_is l dC dI g (a0) (2) (a0_0) (a0_1) (a0_2) (a0_3) (a0_4) (a0_5) (a0_6) (a0_7) (a0_8) (a0_9) (a0_10) (a0_11) (a0_12) (a0_13) (a0_14) (a0_15) (a0_16) (a0_17) (a0_18) (a0_19) (a0_20) (a0_21) (a0_22) (a0_23) (a0_24) (a0_25) (a0_26) (a0_27) (a0_28) (a0_29) (a0_30) (a0_31) (a0_32) (a0_33) (a0_34) (a0_35) (a0_36) (a0_37) (a0_38) (a0_39) (a0_40) (a0_41) (a0_42) (a0_43) (by omega) (by omega) (by omega) (by omega) (by omega) (by omega) (by omega) (by first | assumption | decide)) (cwV 1 hts (gwV qw_427 qw_428 qw_429 qw_386 qw_426) rfl rfl rfl (by decide +kernel) ⟨Nat.le_of_ble_eq_true rfl, Nat.le_of_ble_eq_true rfl⟩) ⟨fun a U g9 mk q => ⟨q.1, q.2.1, va_K.moved (u := U) (U := U.calling g9 mk a) (Vm.Alike.refl U.vm) q.2.2.1, Ev.bl q.2.2.2⟩, va_recv hK hP (ci := 8) (q0 := 0) rfl rgL1_f9e15c6, fun U hU hW => ⟨rfl, atB hU hPc, va_K.moved hW.alike hKc, hE.go hS (fun _ h => h.elim) hU hW⟩⟩ rfl rfl hl.1 rfl (lv_room (Nat.le_of_ble_eq_true rfl)) dX9_isOwn_21 ⟨Nat.le_of_ble_eq_true rfl, Nat.le_of_ble_eq_true rfl⟩)).run (fun r5 h_r5 => ?_)
      have h_r5 : (r5 = 0 ∨ r5 = 1) := h_r5
      have b_r5 := z01 (show r5 = 0 ∨ r5 = 1 from h_r5)
      refine lv_if_ne (tgt := 108) hx hb dX9_isOwn_24 (by decide) (fun c24_6 => ?_) (fun c24_6 => ?_)
      · have c24_6 : ¬ (r5.toInt = 0) := mt (cv_eq rfl (by decide)).mpr c24_6
        refine lv_iconst (v := 1) hx hb dX9_isOwn_108 (by decide) ?_
        refine lv_goto (tgt := 113) hx hb dX9_isOwn_109 (by decide) ?_
        exact W.zret (v := 1) hx hb hr rfl (fun t ht hW => ⟨1, rfl, (by decide), ht⟩) (fun _ h => absurd h List.not_mem_nil) dX9_isOwn_113
      · have c24_6 : r5.toInt = 0 := (cv_eq rfl (by decide)).mp c24_6
        refine lv_aload_n hx hb dX9_isOwn_27 rfl (lv_at hl 0 rfl) ?_
        refine va_ldcS hx hb hown (show vk_R RX9 215 "deposit" (g.2.2.2.2.2.1 3) s from hE.2.2.2.2.2.2.2.2.2.2.2.2.2.2.2.2 3 (by decide)) dX9_isOwn_28 ?_
        have hPc := hP
        have hKc := hK
        refine vp_callSi ((va_runV (As := [.ref (g.2.2.2.2.2.1 3)]) (rest := []) ⟨hx, hb, hml, hown, hts⟩ (k_X9_is l dC dI g (a0) (3) (a0_0) (a0_1) (a0_2) (a0_3) (a0_4) (a0_5) (a0_6) (a0_7) (a0_8) (a0_9) (a0_10) (a0_11) (a0_12) (a0_13) (a0_14) (a0_15) (a0_16) (a0_17) (a0_18) (a0_19) (a0_20) (a0_21) (a0_22) (a0_23) (a0_24) (a0_25) (a0_26) (a0_27) (a0_28) (a0_29) (a0_30) (a0_31) (a0_32) (a0_33) (a0_34) (a0_35) (a0_36) (a0_37) (a0_38) (a0_39) (a0_40) (a0_41) (a0_42) (a0_43) (by omega) (by omega) (by omega) (by omega) (by omega) (by omega) (by omega) (by first | assumption | decide)) (cwV 1 hts (gwV qw_427 qw_428 qw_429 qw_386 qw_426) rfl rfl rfl (by decide +kernel) ⟨Nat.le_of_ble_eq_true rfl, Nat.le_of_ble_eq_true rfl⟩) ⟨fun a U g9 mk q => ⟨q.1, q.2.1, va_K.moved (u := U) (U := U.calling g9 mk a) (Vm.Alike.refl U.vm) q.2.2.1, Ev.bl q.2.2.2⟩, va_recv hK hP (ci := 8) (q0 := 0) rfl rgL1_f9e15c6, fun U hU hW => ⟨rfl, atB hU hPc, va_K.moved hW.alike hKc, hE.go hS (fun _ h => h.elim) hU hW⟩⟩ rfl rfl hl.1 rfl (lv_room (Nat.le_of_ble_eq_true rfl)) dX9_isOwn_30 ⟨Nat.le_of_ble_eq_true rfl, Nat.le_of_ble_eq_true rfl⟩)).run (fun r7 h_r7 => ?_)
        have h_r7 : (r7 = 0 ∨ r7 = 1) := h_r7
        have b_r7 := z01 (show r7 = 0 ∨ r7 = 1 from h_r7)
        refine lv_if_ne (tgt := 108) hx hb dX9_isOwn_33 (by decide) (fun c33_8 => ?_) (fun c33_8 => ?_)
        · have c33_8 : ¬ (r7.toInt = 0) := mt (cv_eq rfl (by decide)).mpr c33_8
          refine lv_iconst (v := 1) hx hb dX9_isOwn_108 (by decide) ?_
          refine lv_goto (tgt := 113) hx hb dX9_isOwn_109 (by decide) ?_
          exact W.zret (v := 1) hx hb hr rfl (fun t ht hW => ⟨1, rfl, (by decide), ht⟩) (fun _ h => absurd h List.not_mem_nil) dX9_isOwn_113
        · have c33_8 : r7.toInt = 0 := (cv_eq rfl (by decide)).mp c33_8
          refine lv_aload_n hx hb dX9_isOwn_36 rfl (lv_at hl 0 rfl) ?_
          refine va_ldcS hx hb hown (show vk_R RX9 217 "piece" (g.2.2.2.2.2.1 4) s from hE.2.2.2.2.2.2.2.2.2.2.2.2.2.2.2.2 4 (by decide)) dX9_isOwn_37 ?_
          have hPc := hP
          have hKc := hK
          refine vp_callSi ((va_runV (As := [.ref (g.2.2.2.2.2.1 4)]) (rest := []) ⟨hx, hb, hml, hown, hts⟩ (k_X9_is l dC dI g (a0) (4) (a0_0) (a0_1) (a0_2) (a0_3) (a0_4) (a0_5) (a0_6) (a0_7) (a0_8) (a0_9) (a0_10) (a0_11) (a0_12) (a0_13) (a0_14) (a0_15) (a0_16) (a0_17) (a0_18) (a0_19) (a0_20) (a0_21) (a0_22) (a0_23) (a0_24) (a0_25) (a0_26) (a0_27) (a0_28) (a0_29) (a0_30) (a0_31) (a0_32) (a0_33) (a0_34) (a0_35) (a0_36) (a0_37) (a0_38) (a0_39) (a0_40) (a0_41) (a0_42) (a0_43) (by omega) (by omega) (by omega) (by omega) (by omega) (by omega) (by omega) (by first | assumption | decide)) (cwV 1 hts (gwV qw_427 qw_428 qw_429 qw_386 qw_426) rfl rfl rfl (by decide +kernel) ⟨Nat.le_of_ble_eq_true rfl, Nat.le_of_ble_eq_true rfl⟩) ⟨fun a U g9 mk q => ⟨q.1, q.2.1, va_K.moved (u := U) (U := U.calling g9 mk a) (Vm.Alike.refl U.vm) q.2.2.1, Ev.bl q.2.2.2⟩, va_recv hK hP (ci := 8) (q0 := 0) rfl rgL1_f9e15c6, fun U hU hW => ⟨rfl, atB hU hPc, va_K.moved hW.alike hKc, hE.go hS (fun _ h => h.elim) hU hW⟩⟩ rfl rfl hl.1 rfl (lv_room (Nat.le_of_ble_eq_true rfl)) dX9_isOwn_39 ⟨Nat.le_of_ble_eq_true rfl, Nat.le_of_ble_eq_true rfl⟩)).run (fun r9 h_r9 => ?_)
          have h_r9 : (r9 = 0 ∨ r9 = 1) := h_r9
          have b_r9 := z01 (show r9 = 0 ∨ r9 = 1 from h_r9)
          refine lv_if_ne (tgt := 108) hx hb dX9_isOwn_42 (by decide) (fun c42_10 => ?_) (fun c42_10 => ?_)
          · have c42_10 : ¬ (r9.toInt = 0) := mt (cv_eq rfl (by decide)).mpr c42_10
            refine lv_iconst (v := 1) hx hb dX9_isOwn_108 (by decide) ?_
            refine lv_goto (tgt := 113) hx hb dX9_isOwn_109 (by decide) ?_
            exact W.zret (v := 1) hx hb hr rfl (fun t ht hW => ⟨1, rfl, (by decide), ht⟩) (fun _ h => absurd h List.not_mem_nil) dX9_isOwn_113
          · have c42_10 : r9.toInt = 0 := (cv_eq rfl (by decide)).mp c42_10
            refine lv_aload_n hx hb dX9_isOwn_45 rfl (lv_at hl 0 rfl) ?_
            refine va_ldcS hx hb hown (show vk_R RX9 219 "in" (g.2.2.2.2.2.1 5) s from hE.2.2.2.2.2.2.2.2.2.2.2.2.2.2.2.2 5 (by decide)) dX9_isOwn_46 ?_
            have hPc := hP
            have hKc := hK
            refine vp_callSi ((va_runV (As := [.ref (g.2.2.2.2.2.1 5)]) (rest := []) ⟨hx, hb, hml, hown, hts⟩ (k_X9_is l dC dI g (a0) (5) (a0_0) (a0_1) (a0_2) (a0_3) (a0_4) (a0_5) (a0_6) (a0_7) (a0_8) (a0_9) (a0_10) (a0_11) (a0_12) (a0_13) (a0_14) (a0_15) (a0_16) (a0_17) (a0_18) (a0_19) (a0_20) (a0_21) (a0_22) (a0_23) (a0_24) (a0_25) (a0_26) (a0_27) (a0_28) (a0_29) (a0_30) (a0_31) (a0_32) (a0_33) (a0_34) (a0_35) (a0_36) (a0_37) (a0_38) (a0_39) (a0_40) (a0_41) (a0_42) (a0_43) (by omega) (by omega) (by omega) (by omega) (by omega) (by omega) (by omega) (by first | assumption | decide)) (cwV 1 hts (gwV qw_427 qw_428 qw_429 qw_386 qw_426) rfl rfl rfl (by decide +kernel) ⟨Nat.le_of_ble_eq_true rfl, Nat.le_of_ble_eq_true rfl⟩) ⟨fun a U g9 mk q => ⟨q.1, q.2.1, va_K.moved (u := U) (U := U.calling g9 mk a) (Vm.Alike.refl U.vm) q.2.2.1, Ev.bl q.2.2.2⟩, va_recv hK hP (ci := 8) (q0 := 0) rfl rgL1_f9e15c6, fun U hU hW => ⟨rfl, atB hU hPc, va_K.moved hW.alike hKc, hE.go hS (fun _ h => h.elim) hU hW⟩⟩ rfl rfl hl.1 rfl (lv_room (Nat.le_of_ble_eq_true rfl)) dX9_isOwn_48 ⟨Nat.le_of_ble_eq_true rfl, Nat.le_of_ble_eq_true rfl⟩)).run (fun r11 h_r11 => ?_)
            have h_r11 : (r11 = 0 ∨ r11 = 1) := h_r11
            have b_r11 := z01 (show r11 = 0 ∨ r11 = 1 from h_r11)
            refine lv_if_ne (tgt := 108) hx hb dX9_isOwn_51 (by decide) (fun c51_12 => ?_) (fun c51_12 => ?_)
            · have c51_12 : ¬ (r11.toInt = 0) := mt (cv_eq rfl (by decide)).mpr c51_12
              refine lv_iconst (v := 1) hx hb dX9_isOwn_108 (by decide) ?_
              refine lv_goto (tgt := 113) hx hb dX9_isOwn_109 (by decide) ?_
              exact W.zret (v := 1) hx hb hr rfl (fun t ht hW => ⟨1, rfl, (by decide), ht⟩) (fun _ h => absurd h List.not_mem_nil) dX9_isOwn_113
            · have c51_12 : r11.toInt = 0 := (cv_eq rfl (by decide)).mp c51_12
              refine lv_aload_n hx hb dX9_isOwn_54 rfl (lv_at hl 0 rfl) ?_
              refine va_ldcS hx hb hown (show vk_R RX9 221 "of" (g.2.2.2.2.2.1 6) s from hE.2.2.2.2.2.2.2.2.2.2.2.2.2.2.2.2 6 (by decide)) dX9_isOwn_55 ?_
              have hPc := hP
              have hKc := hK
              refine vp_callSi ((va_runV (As := [.ref (g.2.2.2.2.2.1 6)]) (rest := []) ⟨hx, hb, hml, hown, hts⟩ (k_X9_is l dC dI g (a0) (6) (a0_0) (a0_1) (a0_2) (a0_3) (a0_4) (a0_5) (a0_6) (a0_7) (a0_8) (a0_9) (a0_10) (a0_11) (a0_12) (a0_13) (a0_14) (a0_15) (a0_16) (a0_17) (a0_18) (a0_19) (a0_20) (a0_21) (a0_22) (a0_23) (a0_24) (a0_25) (a0_26) (a0_27) (a0_28) (a0_29) (a0_30) (a0_31) (a0_32) (a0_33) (a0_34) (a0_35) (a0_36) (a0_37) (a0_38) (a0_39) (a0_40) (a0_41) (a0_42) (a0_43) (by omega) (by omega) (by omega) (by omega) (by omega) (by omega) (by omega) (by first | assumption | decide)) (cwV 1 hts (gwV qw_427 qw_428 qw_429 qw_386 qw_426) rfl rfl rfl (by decide +kernel) ⟨Nat.le_of_ble_eq_true rfl, Nat.le_of_ble_eq_true rfl⟩) ⟨fun a U g9 mk q => ⟨q.1, q.2.1, va_K.moved (u := U) (U := U.calling g9 mk a) (Vm.Alike.refl U.vm) q.2.2.1, Ev.bl q.2.2.2⟩, va_recv hK hP (ci := 8) (q0 := 0) rfl rgL1_f9e15c6, fun U hU hW => ⟨rfl, atB hU hPc, va_K.moved hW.alike hKc, hE.go hS (fun _ h => h.elim) hU hW⟩⟩ rfl rfl hl.1 rfl (lv_room (Nat.le_of_ble_eq_true rfl)) dX9_isOwn_57 ⟨Nat.le_of_ble_eq_true rfl, Nat.le_of_ble_eq_true rfl⟩)).run (fun r13 h_r13 => ?_)
              have h_r13 : (r13 = 0 ∨ r13 = 1) := h_r13
              have b_r13 := z01 (show r13 = 0 ∨ r13 = 1 from h_r13)
              refine lv_if_ne (tgt := 108) hx hb dX9_isOwn_60 (by decide) (fun c60_14 => ?_) (fun c60_14 => ?_)
              · have c60_14 : ¬ (r13.toInt = 0) := mt (cv_eq rfl (by decide)).mpr c60_14
                refine lv_iconst (v := 1) hx hb dX9_isOwn_108 (by decide) ?_
                refine lv_goto (tgt := 113) hx hb dX9_isOwn_109 (by decide) ?_
                exact W.zret (v := 1) hx hb hr rfl (fun t ht hW => ⟨1, rfl, (by decide), ht⟩) (fun _ h => absurd h List.not_mem_nil) dX9_isOwn_113
              · have c60_14 : r13.toInt = 0 := (cv_eq rfl (by decide)).mp c60_14
                refine lv_aload_n hx hb dX9_isOwn_63 rfl (lv_at hl 0 rfl) ?_
                refine va_ldcS hx hb hown (show vk_R RX9 223 "from" (g.2.2.2.2.2.1 7) s from hE.2.2.2.2.2.2.2.2.2.2.2.2.2.2.2.2 7 (by decide)) dX9_isOwn_64 ?_
                have hPc := hP
                have hKc := hK
                refine vp_callSi ((va_runV (As := [.ref (g.2.2.2.2.2.1 7)]) (rest := []) ⟨hx, hb, hml, hown, hts⟩ (k_X9_is l dC dI g (a0) (7) (a0_0) (a0_1) (a0_2) (a0_3) (a0_4) (a0_5) (a0_6) (a0_7) (a0_8) (a0_9) (a0_10) (a0_11) (a0_12) (a0_13) (a0_14) (a0_15) (a0_16) (a0_17) (a0_18) (a0_19) (a0_20) (a0_21) (a0_22) (a0_23) (a0_24) (a0_25) (a0_26) (a0_27) (a0_28) (a0_29) (a0_30) (a0_31) (a0_32) (a0_33) (a0_34) (a0_35) (a0_36) (a0_37) (a0_38) (a0_39) (a0_40) (a0_41) (a0_42) (a0_43) (by omega) (by omega) (by omega) (by omega) (by omega) (by omega) (by omega) (by first | assumption | decide)) (cwV 1 hts (gwV qw_427 qw_428 qw_429 qw_386 qw_426) rfl rfl rfl (by decide +kernel) ⟨Nat.le_of_ble_eq_true rfl, Nat.le_of_ble_eq_true rfl⟩) ⟨fun a U g9 mk q => ⟨q.1, q.2.1, va_K.moved (u := U) (U := U.calling g9 mk a) (Vm.Alike.refl U.vm) q.2.2.1, Ev.bl q.2.2.2⟩, va_recv hK hP (ci := 8) (q0 := 0) rfl rgL1_f9e15c6, fun U hU hW => ⟨rfl, atB hU hPc, va_K.moved hW.alike hKc, hE.go hS (fun _ h => h.elim) hU hW⟩⟩ rfl rfl hl.1 rfl (lv_room (Nat.le_of_ble_eq_true rfl)) dX9_isOwn_66 ⟨Nat.le_of_ble_eq_true rfl, Nat.le_of_ble_eq_true rfl⟩)).run (fun r15 h_r15 => ?_)
                have h_r15 : (r15 = 0 ∨ r15 = 1) := h_r15
                have b_r15 := z01 (show r15 = 0 ∨ r15 = 1 from h_r15)
                refine lv_if_ne (tgt := 108) hx hb dX9_isOwn_69 (by decide) (fun c69_16 => ?_) (fun c69_16 => ?_)
                · have c69_16 : ¬ (r15.toInt = 0) := mt (cv_eq rfl (by decide)).mpr c69_16
                  refine lv_iconst (v := 1) hx hb dX9_isOwn_108 (by decide) ?_
                  refine lv_goto (tgt := 113) hx hb dX9_isOwn_109 (by decide) ?_
                  exact W.zret (v := 1) hx hb hr rfl (fun t ht hW => ⟨1, rfl, (by decide), ht⟩) (fun _ h => absurd h List.not_mem_nil) dX9_isOwn_113
                · have c69_16 : r15.toInt = 0 := (cv_eq rfl (by decide)).mp c69_16
                  refine lv_aload_n hx hb dX9_isOwn_72 rfl (lv_at hl 0 rfl) ?_
                  refine va_ldcS hx hb hown (show vk_R RX9 224 "close" (g.2.2.2.2.2.1 8) s from hE.2.2.2.2.2.2.2.2.2.2.2.2.2.2.2.2 8 (by decide)) dX9_isOwn_73 ?_
                  have hPc := hP
                  have hKc := hK
                  refine vp_callSi ((va_runV (As := [.ref (g.2.2.2.2.2.1 8)]) (rest := []) ⟨hx, hb, hml, hown, hts⟩ (k_X9_is l dC dI g (a0) (8) (a0_0) (a0_1) (a0_2) (a0_3) (a0_4) (a0_5) (a0_6) (a0_7) (a0_8) (a0_9) (a0_10) (a0_11) (a0_12) (a0_13) (a0_14) (a0_15) (a0_16) (a0_17) (a0_18) (a0_19) (a0_20) (a0_21) (a0_22) (a0_23) (a0_24) (a0_25) (a0_26) (a0_27) (a0_28) (a0_29) (a0_30) (a0_31) (a0_32) (a0_33) (a0_34) (a0_35) (a0_36) (a0_37) (a0_38) (a0_39) (a0_40) (a0_41) (a0_42) (a0_43) (by omega) (by omega) (by omega) (by omega) (by omega) (by omega) (by omega) (by first | assumption | decide)) (cwV 1 hts (gwV qw_427 qw_428 qw_429 qw_386 qw_426) rfl rfl rfl (by decide +kernel) ⟨Nat.le_of_ble_eq_true rfl, Nat.le_of_ble_eq_true rfl⟩) ⟨fun a U g9 mk q => ⟨q.1, q.2.1, va_K.moved (u := U) (U := U.calling g9 mk a) (Vm.Alike.refl U.vm) q.2.2.1, Ev.bl q.2.2.2⟩, va_recv hK hP (ci := 8) (q0 := 0) rfl rgL1_f9e15c6, fun U hU hW => ⟨rfl, atB hU hPc, va_K.moved hW.alike hKc, hE.go hS (fun _ h => h.elim) hU hW⟩⟩ rfl rfl hl.1 rfl (lv_room (Nat.le_of_ble_eq_true rfl)) dX9_isOwn_75 ⟨Nat.le_of_ble_eq_true rfl, Nat.le_of_ble_eq_true rfl⟩)).run (fun r17 h_r17 => ?_)
                  have h_r17 : (r17 = 0 ∨ r17 = 1) := h_r17
                  have b_r17 := z01 (show r17 = 0 ∨ r17 = 1 from h_r17)
                  refine lv_if_ne (tgt := 108) hx hb dX9_isOwn_78 (by decide) (fun c78_18 => ?_) (fun c78_18 => ?_)
                  · have c78_18 : ¬ (r17.toInt = 0) := mt (cv_eq rfl (by decide)).mpr c78_18
                    refine lv_iconst (v := 1) hx hb dX9_isOwn_108 (by decide) ?_
                    refine lv_goto (tgt := 113) hx hb dX9_isOwn_109 (by decide) ?_
                    exact W.zret (v := 1) hx hb hr rfl (fun t ht hW => ⟨1, rfl, (by decide), ht⟩) (fun _ h => absurd h List.not_mem_nil) dX9_isOwn_113
                  · have c78_18 : r17.toInt = 0 := (cv_eq rfl (by decide)).mp c78_18
                    refine lv_aload_n hx hb dX9_isOwn_81 rfl (lv_at hl 0 rfl) ?_
                    refine va_ldcS hx hb hown (show vk_R RX9 226 "content" (g.2.2.2.2.2.1 9) s from hE.2.2.2.2.2.2.2.2.2.2.2.2.2.2.2.2 9 (by decide)) dX9_isOwn_82 ?_
                    have hPc := hP
                    have hKc := hK
                    refine vp_callSi ((va_runV (As := [.ref (g.2.2.2.2.2.1 9)]) (rest := []) ⟨hx, hb, hml, hown, hts⟩ (k_X9_is l dC dI g (a0) (9) (a0_0) (a0_1) (a0_2) (a0_3) (a0_4) (a0_5) (a0_6) (a0_7) (a0_8) (a0_9) (a0_10) (a0_11) (a0_12) (a0_13) (a0_14) (a0_15) (a0_16) (a0_17) (a0_18) (a0_19) (a0_20) (a0_21) (a0_22) (a0_23) (a0_24) (a0_25) (a0_26) (a0_27) (a0_28) (a0_29) (a0_30) (a0_31) (a0_32) (a0_33) (a0_34) (a0_35) (a0_36) (a0_37) (a0_38) (a0_39) (a0_40) (a0_41) (a0_42) (a0_43) (by omega) (by omega) (by omega) (by omega) (by omega) (by omega) (by omega) (by first | assumption | decide)) (cwV 1 hts (gwV qw_427 qw_428 qw_429 qw_386 qw_426) rfl rfl rfl (by decide +kernel) ⟨Nat.le_of_ble_eq_true rfl, Nat.le_of_ble_eq_true rfl⟩) ⟨fun a U g9 mk q => ⟨q.1, q.2.1, va_K.moved (u := U) (U := U.calling g9 mk a) (Vm.Alike.refl U.vm) q.2.2.1, Ev.bl q.2.2.2⟩, va_recv hK hP (ci := 8) (q0 := 0) rfl rgL1_f9e15c6, fun U hU hW => ⟨rfl, atB hU hPc, va_K.moved hW.alike hKc, hE.go hS (fun _ h => h.elim) hU hW⟩⟩ rfl rfl hl.1 rfl (lv_room (Nat.le_of_ble_eq_true rfl)) dX9_isOwn_84 ⟨Nat.le_of_ble_eq_true rfl, Nat.le_of_ble_eq_true rfl⟩)).run (fun r19 h_r19 => ?_)
                    have h_r19 : (r19 = 0 ∨ r19 = 1) := h_r19
                    have b_r19 := z01 (show r19 = 0 ∨ r19 = 1 from h_r19)
                    refine lv_if_ne (tgt := 108) hx hb dX9_isOwn_87 (by decide) (fun c87_20 => ?_) (fun c87_20 => ?_)
                    · have c87_20 : ¬ (r19.toInt = 0) := mt (cv_eq rfl (by decide)).mpr c87_20
                      refine lv_iconst (v := 1) hx hb dX9_isOwn_108 (by decide) ?_
                      refine lv_goto (tgt := 113) hx hb dX9_isOwn_109 (by decide) ?_
                      exact W.zret (v := 1) hx hb hr rfl (fun t ht hW => ⟨1, rfl, (by decide), ht⟩) (fun _ h => absurd h List.not_mem_nil) dX9_isOwn_113
                    · have c87_20 : r19.toInt = 0 := (cv_eq rfl (by decide)).mp c87_20
                      refine lv_aload_n hx hb dX9_isOwn_90 rfl (lv_at hl 0 rfl) ?_
                      refine va_ldcS hx hb hown (show vk_R RX9 228 "until" (g.2.2.2.2.2.1 10) s from hE.2.2.2.2.2.2.2.2.2.2.2.2.2.2.2.2 10 (by decide)) dX9_isOwn_91 ?_
                      have hPc := hP
                      have hKc := hK
                      refine vp_callSi ((va_runV (As := [.ref (g.2.2.2.2.2.1 10)]) (rest := []) ⟨hx, hb, hml, hown, hts⟩ (k_X9_is l dC dI g (a0) (10) (a0_0) (a0_1) (a0_2) (a0_3) (a0_4) (a0_5) (a0_6) (a0_7) (a0_8) (a0_9) (a0_10) (a0_11) (a0_12) (a0_13) (a0_14) (a0_15) (a0_16) (a0_17) (a0_18) (a0_19) (a0_20) (a0_21) (a0_22) (a0_23) (a0_24) (a0_25) (a0_26) (a0_27) (a0_28) (a0_29) (a0_30) (a0_31) (a0_32) (a0_33) (a0_34) (a0_35) (a0_36) (a0_37) (a0_38) (a0_39) (a0_40) (a0_41) (a0_42) (a0_43) (by omega) (by omega) (by omega) (by omega) (by omega) (by omega) (by omega) (by first | assumption | decide)) (cwV 1 hts (gwV qw_427 qw_428 qw_429 qw_386 qw_426) rfl rfl rfl (by decide +kernel) ⟨Nat.le_of_ble_eq_true rfl, Nat.le_of_ble_eq_true rfl⟩) ⟨fun a U g9 mk q => ⟨q.1, q.2.1, va_K.moved (u := U) (U := U.calling g9 mk a) (Vm.Alike.refl U.vm) q.2.2.1, Ev.bl q.2.2.2⟩, va_recv hK hP (ci := 8) (q0 := 0) rfl rgL1_f9e15c6, fun U hU hW => ⟨rfl, atB hU hPc, va_K.moved hW.alike hKc, hE.go hS (fun _ h => h.elim) hU hW⟩⟩ rfl rfl hl.1 rfl (lv_room (Nat.le_of_ble_eq_true rfl)) dX9_isOwn_93 ⟨Nat.le_of_ble_eq_true rfl, Nat.le_of_ble_eq_true rfl⟩)).run (fun r21 h_r21 => ?_)
                      have h_r21 : (r21 = 0 ∨ r21 = 1) := h_r21
                      have b_r21 := z01 (show r21 = 0 ∨ r21 = 1 from h_r21)
                      refine lv_if_ne (tgt := 108) hx hb dX9_isOwn_96 (by decide) (fun c96_22 => ?_) (fun c96_22 => ?_)
                      · have c96_22 : ¬ (r21.toInt = 0) := mt (cv_eq rfl (by decide)).mpr c96_22
                        refine lv_iconst (v := 1) hx hb dX9_isOwn_108 (by decide) ?_
                        refine lv_goto (tgt := 113) hx hb dX9_isOwn_109 (by decide) ?_
                        exact W.zret (v := 1) hx hb hr rfl (fun t ht hW => ⟨1, rfl, (by decide), ht⟩) (fun _ h => absurd h List.not_mem_nil) dX9_isOwn_113
                      · have c96_22 : r21.toInt = 0 := (cv_eq rfl (by decide)).mp c96_22
                        refine lv_aload_n hx hb dX9_isOwn_99 rfl (lv_at hl 0 rfl) ?_
                        refine va_ldcS hx hb hown (show vk_R RX9 230 "whole" (g.2.2.2.2.2.1 11) s from hE.2.2.2.2.2.2.2.2.2.2.2.2.2.2.2.2 11 (by decide)) dX9_isOwn_100 ?_
                        have hPc := hP
                        have hKc := hK
                        refine vp_callSi ((va_runV (As := [.ref (g.2.2.2.2.2.1 11)]) (rest := []) ⟨hx, hb, hml, hown, hts⟩ (k_X9_is l dC dI g (a0) (11) (a0_0) (a0_1) (a0_2) (a0_3) (a0_4) (a0_5) (a0_6) (a0_7) (a0_8) (a0_9) (a0_10) (a0_11) (a0_12) (a0_13) (a0_14) (a0_15) (a0_16) (a0_17) (a0_18) (a0_19) (a0_20) (a0_21) (a0_22) (a0_23) (a0_24) (a0_25) (a0_26) (a0_27) (a0_28) (a0_29) (a0_30) (a0_31) (a0_32) (a0_33) (a0_34) (a0_35) (a0_36) (a0_37) (a0_38) (a0_39) (a0_40) (a0_41) (a0_42) (a0_43) (by omega) (by omega) (by omega) (by omega) (by omega) (by omega) (by omega) (by first | assumption | decide)) (cwV 1 hts (gwV qw_427 qw_428 qw_429 qw_386 qw_426) rfl rfl rfl (by decide +kernel) ⟨Nat.le_of_ble_eq_true rfl, Nat.le_of_ble_eq_true rfl⟩) ⟨fun a U g9 mk q => ⟨q.1, q.2.1, va_K.moved (u := U) (U := U.calling g9 mk a) (Vm.Alike.refl U.vm) q.2.2.1, Ev.bl q.2.2.2⟩, va_recv hK hP (ci := 8) (q0 := 0) rfl rgL1_f9e15c6, fun U hU hW => ⟨rfl, atB hU hPc, va_K.moved hW.alike hKc, hE.go hS (fun _ h => h.elim) hU hW⟩⟩ rfl rfl hl.1 rfl (lv_room (Nat.le_of_ble_eq_true rfl)) dX9_isOwn_102 ⟨Nat.le_of_ble_eq_true rfl, Nat.le_of_ble_eq_true rfl⟩)).run (fun r23 h_r23 => ?_)
                        have h_r23 : (r23 = 0 ∨ r23 = 1) := h_r23
                        have b_r23 := z01 (show r23 = 0 ∨ r23 = 1 from h_r23)
                        refine lv_if_eq (tgt := 112) hx hb dX9_isOwn_105 (by decide) (fun c105_24 => ?_) (fun c105_24 => ?_)
                        · have c105_24 : r23.toInt = 0 := (cv_eq rfl (by decide)).mp c105_24
                          refine lv_iconst (v := 0) hx hb dX9_isOwn_112 (by decide) ?_
                          exact W.zret (v := 0) hx hb hr rfl (fun t ht hW => ⟨0, rfl, (by decide), ht⟩) (fun _ h => absurd h List.not_mem_nil) dX9_isOwn_113
                        · have c105_24 : ¬ (r23.toInt = 0) := mt (cv_eq rfl (by decide)).mpr c105_24
                          refine lv_iconst (v := 1) hx hb dX9_isOwn_108 (by decide) ?_
                          refine lv_goto (tgt := 113) hx hb dX9_isOwn_109 (by decide) ?_
                          exact W.zret (v := 1) hx hb hr rfl (fun t ht hW => ⟨1, rfl, (by decide), ht⟩) (fun _ h => absurd h List.not_mem_nil) dX9_isOwn_113
set_option maxHeartbeats 4000000 in
set_option maxRecDepth 100000 in
theorem k_X9_isName (l : Launch) (dC : Nat → ClassId) (dI : Nat → Nat → Nat) (g : Gv) (a0 : Nat) (a0_0 : Int32) (a0_1 : Int32) (a0_2 : Int32) (a0_3 : Int32) (a0_4 : Nat) (a0_5 : Int32) (a0_6 : Int32) (a0_7 : Int32) (a0_8 : Int32) (a0_9 : Int32) (a0_10 : Int32) (a0_11 : Int64) (a0_12 : Int32) (a0_13 : Int32) (a0_14 : Int32) (a0_15 : Int32) (a0_16 : Int32) (a0_17 : Int32) (a0_18 : Nat) (a0_19 : Nat) (a0_20 : Nat) (a0_21 : Nat) (a0_22 : Nat) (a0_23 : Nat) (a0_24 : Nat) (a0_25 : Nat) (a0_26 : Nat) (a0_27 : Nat) (a0_28 : Nat) (a0_29 : Nat) (a0_30 : Nat) (a0_31 : Nat) (a0_32 : Nat) (a0_33 : Nat) (a0_34 : Nat) (a0_35 : Nat) (a0_36 : Int64) (a0_37 : Int32) (a0_38 : Nat) (a0_39 : Nat) (a0_40 : Int32) (a0_41 : Nat) (a0_42 : Nat) (a0_43 : Nat) (h_a0_5 : 0 ≤ a0_5.toInt ∧ a0_5.toInt ≤ 1000) (h_a0_6 : 0 ≤ a0_6.toInt ∧ a0_6.toInt ≤ 1000) (h_a0_7 : 0 ≤ a0_7.toInt ∧ a0_7.toInt ≤ 1000) (h_a0_8 : 0 ≤ a0_8.toInt ∧ a0_8.toInt ≤ 1000) (h_a0_17 : 0 ≤ a0_17.toInt ∧ a0_17.toInt ≤ 1) (h_a0_37 : (-1) ≤ a0_37.toInt ∧ a0_37.toInt ≤ 23) (h_a0_40 : 0 ≤ a0_40.toInt ∧ a0_40.toInt ≤ 12) : Met l yX9_isName (.code yX9_isName cX9_isName 1 (some .boolean) :: TBL) ({ frames := 7, cells := 0, slots := 0, locals := 224 }) (va_Pc [.ref a0] (fun U => va_P (dC, dI) vwCl [(a0, .inr (8, [.int a0_0, .int a0_1, .int a0_2, .int a0_3, .ref a0_4, .int a0_5, .int a0_6, .int a0_7, .int a0_8, .int a0_9, .int a0_10, .long a0_11, .int a0_12, .int a0_13, .int a0_14, .int a0_15, .int a0_16, .int a0_17, .ref a0_18, .ref a0_19, .ref a0_20, .ref a0_21, .ref a0_22, .ref a0_23, .ref a0_24, .ref a0_25, .ref a0_26, .ref a0_27, .ref a0_28, .ref a0_29, .ref a0_30, .ref a0_31, .ref a0_32, .ref a0_33, .ref a0_34, .ref a0_35, .long a0_36, .int a0_37, .ref a0_38, .ref a0_39, .int a0_40, .ref a0_41, .ref a0_42, .ref a0_43]))] U.heap ∧ va_K (dC, dI) vwCl [] U ∧ Ev g (fun _ => False) U)) (vp_Si (fun (r : Int32) => (r = 0 ∨ r = 1))) 0 0 (fun _ => False) := by
  refine Met.ofW (cc := cX9_isName) (maxL := 1) (ret := (some .boolean)) (by decide) rfl ?_
  intro p e s m args below meth c s₁ B hml hv
  obtain ⟨rfl, hP, hK, hE⟩ := hv
  have hx := B.exec
  have hb := B.bytes
  have hr := B.returns
  have hts0 := atoms_spec (ws := (.code yX9_isName cX9_isName 1 (some .boolean) :: TBL)) B.pre
  have hts := fun (w : Cond) (h : w ∈ TBL) => hts0 w (List.mem_cons_of_mem _ h)
  have hown : s.vm.findClass RX9 = some m.cls := findClass_of_methodNamed B.named
  have hlocks := B.notSynchronized
  have hN := hE.1
  have hS : va_S (fun _ => False) s.heap s.heap [] := va_S.rf
  replace hP : va_P (dC, dI) vwCl [(a0, .inr (8, [.int a0_0, .int a0_1, .int a0_2, .int a0_3, .ref a0_4, .int a0_5, .int a0_6, .int a0_7, .int a0_8, .int a0_9, .int a0_10, .long a0_11, .int a0_12, .int a0_13, .int a0_14, .int a0_15, .int a0_16, .int a0_17, .ref a0_18, .ref a0_19, .ref a0_20, .ref a0_21, .ref a0_22, .ref a0_23, .ref a0_24, .ref a0_25, .ref a0_26, .ref a0_27, .ref a0_28, .ref a0_29, .ref a0_30, .ref a0_31, .ref a0_32, .ref a0_33, .ref a0_34, .ref a0_35, .long a0_36, .int a0_37, .ref a0_38, .ref a0_39, .int a0_40, .ref a0_41, .ref a0_42, .ref a0_43]))] s.heap := hP
  have hl := lv_entry ([.ref a0]) (n := 1) (Nat.le_of_ble_eq_true rfl)
  rw [lg_entry_eq]
  generalize (lg_sl ([.ref a0]) ++ List.replicate (1 - (lg_sl ([.ref a0])).length) Slot.unset).toArray = ls at hl ⊢
  have hl : lv_has ls 1 [(0, .ref a0)] := hl
  have b_a0_0 := i32b a0_0
  have b_a0_1 := i32b a0_1
  have b_a0_2 := i32b a0_2
  have b_a0_3 := i32b a0_3
  have b_a0_9 := i32b a0_9
  have b_a0_10 := i32b a0_10
  have b_a0_12 := i32b a0_12
  have b_a0_13 := i32b a0_13
  have b_a0_14 := i32b a0_14
  have b_a0_15 := i32b a0_15
  have b_a0_16 := i32b a0_16
  refine lv_aload_n hx hb dX9_isName_0 rfl (lv_at hl 0 rfl) ?_
  refine va_get (D := (dC, dI)) (ci := 8) (v := .int a0_9) (C := RX9) (T := TX9) (N := 44) hx hb hts inlX9 hown hK hP 0 rgL1_f9e15c6 rfl 9 (by decide) (hts (.fieldLink RX9 160 "ClosedUntilModel" "token" "I") qw_421) (fun _ h9 => h9) rfl dX9_isName_1 ?_
  refine lv_iconst (v := 1) hx hb dX9_isName_4 (by decide) ?_
  refine lv_icmp_ne (tgt := 19) hx hb dX9_isName_5 (by decide) (fun c5_1 => ?_) (fun c5_1 => ?_)
  · have c5_1 : ¬ (a0_9.toInt = 1) := mt (cv_eq rfl (by decide)).mpr c5_1
    refine lv_iconst (v := 0) hx hb dX9_isName_19 (by decide) ?_
    exact W.zret (v := 0) hx hb hr rfl (fun t ht hW => ⟨0, rfl, (by decide), ht⟩) (fun _ h => absurd h List.not_mem_nil) dX9_isName_20
  · have c5_1 : a0_9.toInt = 1 := (cv_eq rfl (by decide)).mp c5_1
    refine lv_aload_n hx hb dX9_isName_8 rfl (lv_at hl 0 rfl) ?_
    have hPc := hP
    have hKc := hK
    refine vp_callSi ((va_runV (As := []) (rest := []) ⟨hx, hb, hml, hown, hts⟩ (k_X9_isOwn l dC dI g (a0) (a0_0) (a0_1) (a0_2) (a0_3) (a0_4) (a0_5) (a0_6) (a0_7) (a0_8) (a0_9) (a0_10) (a0_11) (a0_12) (a0_13) (a0_14) (a0_15) (a0_16) (a0_17) (a0_18) (a0_19) (a0_20) (a0_21) (a0_22) (a0_23) (a0_24) (a0_25) (a0_26) (a0_27) (a0_28) (a0_29) (a0_30) (a0_31) (a0_32) (a0_33) (a0_34) (a0_35) (a0_36) (a0_37) (a0_38) (a0_39) (a0_40) (a0_41) (a0_42) (a0_43) (by omega) (by omega) (by omega) (by omega) (by omega) (by omega) (by omega)) (cwV 0 hts (gwV qw_431 qw_432 qw_433 qw_386 qw_430) rfl rfl rfl (by decide +kernel) ⟨Nat.le_of_ble_eq_true rfl, Nat.le_of_ble_eq_true rfl⟩) ⟨fun a U g9 mk q => ⟨q.1, q.2.1, va_K.moved (u := U) (U := U.calling g9 mk a) (Vm.Alike.refl U.vm) q.2.2.1, Ev.bl q.2.2.2⟩, va_recv hK hP (ci := 8) (q0 := 0) rfl rgL1_f9e15c6, fun U hU hW => ⟨rfl, atB hU hPc, va_K.moved hW.alike hKc, hE.go hS (fun _ h => h.elim) hU hW⟩⟩ rfl rfl hl.1 rfl (lv_room (Nat.le_of_ble_eq_true rfl)) dX9_isName_9 ⟨Nat.le_of_ble_eq_true rfl, Nat.le_of_ble_eq_true rfl⟩)).run (fun r2 h_r2 => ?_)
    have h_r2 : (r2 = 0 ∨ r2 = 1) := h_r2
    have b_r2 := z01 (show r2 = 0 ∨ r2 = 1 from h_r2)
    refine lv_if_ne (tgt := 19) hx hb dX9_isName_12 (by decide) (fun c12_3 => ?_) (fun c12_3 => ?_)
    · have c12_3 : ¬ (r2.toInt = 0) := mt (cv_eq rfl (by decide)).mpr c12_3
      refine lv_iconst (v := 0) hx hb dX9_isName_19 (by decide) ?_
      exact W.zret (v := 0) hx hb hr rfl (fun t ht hW => ⟨0, rfl, (by decide), ht⟩) (fun _ h => absurd h List.not_mem_nil) dX9_isName_20
    · have c12_3 : r2.toInt = 0 := (cv_eq rfl (by decide)).mp c12_3
      refine lv_iconst (v := 1) hx hb dX9_isName_15 (by decide) ?_
      refine lv_goto (tgt := 20) hx hb dX9_isName_16 (by decide) ?_
      exact W.zret (v := 1) hx hb hr rfl (fun t ht hW => ⟨1, rfl, (by decide), ht⟩) (fun _ h => absurd h List.not_mem_nil) dX9_isName_20
set_option maxHeartbeats 4000000 in
set_option maxRecDepth 100000 in
theorem k_X9_personNamed (l : Launch) (dC : Nat → ClassId) (dI : Nat → Nat → Nat) (g : Gv) (a0 : Nat) (a0_0 : Int32) (a0_1 : Int32) (a0_2 : Int32) (a0_3 : Int32) (a0_4 : Nat) (a0_5 : Int32) (a0_6 : Int32) (a0_7 : Int32) (a0_8 : Int32) (a0_9 : Int32) (a0_10 : Int32) (a0_11 : Int64) (a0_12 : Int32) (a0_13 : Int32) (a0_14 : Int32) (a0_15 : Int32) (a0_16 : Int32) (a0_17 : Int32) (a0_18 : Nat) (a0_19 : Nat) (a0_20 : Nat) (a0_21 : Nat) (a0_22 : Nat) (a0_23 : Nat) (a0_24 : Nat) (a0_25 : Nat) (a0_26 : Nat) (a0_27 : Nat) (a0_28 : Nat) (a0_29 : Nat) (a0_30 : Nat) (a0_31 : Nat) (a0_32 : Nat) (a0_33 : Nat) (a0_34 : Nat) (a0_35 : Nat) (a0_36 : Int64) (a0_37 : Int32) (a0_38 : Nat) (a0_39 : Nat) (a0_40 : Int32) (a0_41 : Nat) (a0_42 : Nat) (a0_43 : Nat) (a0_18_c : ClassId) (a0_18_f : Nat → Int32) (a0_22_c : ClassId) (a0_22_f : Nat → Int64) (h_a0_5 : 0 ≤ a0_5.toInt ∧ a0_5.toInt ≤ 1000) (h_a0_6 : 0 ≤ a0_6.toInt ∧ a0_6.toInt ≤ 1000) (h_a0_7 : 0 ≤ a0_7.toInt ∧ a0_7.toInt ≤ 1000) (h_a0_8 : 0 ≤ a0_8.toInt ∧ a0_8.toInt ≤ 1000) (h_a0_17 : 0 ≤ a0_17.toInt ∧ a0_17.toInt ≤ 1) (h_a0_37 : (-1) ≤ a0_37.toInt ∧ a0_37.toInt ≤ 23) (h_a0_40 : 0 ≤ a0_40.toInt ∧ a0_40.toInt ≤ 12) (h_a0_18_f : vr 0 8 a0_18_f) : Met l yX9_personNamed (.code yX9_personNamed cX9_personNamed 2 (some .int) :: TBL) ({ frames := 0, cells := 0, slots := 0, locals := 0 }) (va_Pc [.ref a0] (fun U => va_P (dC, dI) vwCl [(a0, .inr (8, [.int a0_0, .int a0_1, .int a0_2, .int a0_3, .ref a0_4, .int a0_5, .int a0_6, .int a0_7, .int a0_8, .int a0_9, .int a0_10, .long a0_11, .int a0_12, .int a0_13, .int a0_14, .int a0_15, .int a0_16, .int a0_17, .ref a0_18, .ref a0_19, .ref a0_20, .ref a0_21, .ref a0_22, .ref a0_23, .ref a0_24, .ref a0_25, .ref a0_26, .ref a0_27, .ref a0_28, .ref a0_29, .ref a0_30, .ref a0_31, .ref a0_32, .ref a0_33, .ref a0_34, .ref a0_35, .long a0_36, .int a0_37, .ref a0_38, .ref a0_39, .int a0_40, .ref a0_41, .ref a0_42, .ref a0_43])), (a0_18, .inl (a0_18_c, 2, .inl a0_18_f)), (a0_22, .inl (a0_22_c, 16, .inr (.inl a0_22_f)))] U.heap ∧ va_K (dC, dI) vwCl [(a0_18_c, .int), (a0_22_c, .long)] U ∧ Ev g (fun _ => False) U)) (vp_Si (fun (r : Int32) => (-1 ≤ r.toInt ∧ r.toInt < (a0_18_f a0_17.toNatClampNeg).toInt))) 0 0 (fun _ => False) := by
  refine Met.ofW (cc := cX9_personNamed) (maxL := 2) (ret := (some .int)) (by decide) rfl ?_
  intro p e s m args below meth c s₁ B hml hv
  obtain ⟨rfl, hP, hK, hE⟩ := hv
  have hx := B.exec
  have hb := B.bytes
  have hr := B.returns
  have hts0 := atoms_spec (ws := (.code yX9_personNamed cX9_personNamed 2 (some .int) :: TBL)) B.pre
  have hts := fun (w : Cond) (h : w ∈ TBL) => hts0 w (List.mem_cons_of_mem _ h)
  have hown : s.vm.findClass RX9 = some m.cls := findClass_of_methodNamed B.named
  have hlocks := B.notSynchronized
  have hN := hE.1
  have hS : va_S (fun _ => False) s.heap s.heap [] := va_S.rf
  replace hP : va_P (dC, dI) vwCl [(a0, .inr (8, [.int a0_0, .int a0_1, .int a0_2, .int a0_3, .ref a0_4, .int a0_5, .int a0_6, .int a0_7, .int a0_8, .int a0_9, .int a0_10, .long a0_11, .int a0_12, .int a0_13, .int a0_14, .int a0_15, .int a0_16, .int a0_17, .ref a0_18, .ref a0_19, .ref a0_20, .ref a0_21, .ref a0_22, .ref a0_23, .ref a0_24, .ref a0_25, .ref a0_26, .ref a0_27, .ref a0_28, .ref a0_29, .ref a0_30, .ref a0_31, .ref a0_32, .ref a0_33, .ref a0_34, .ref a0_35, .long a0_36, .int a0_37, .ref a0_38, .ref a0_39, .int a0_40, .ref a0_41, .ref a0_42, .ref a0_43])), (a0_18, .inl (a0_18_c, 2, .inl a0_18_f)), (a0_22, .inl (a0_22_c, 16, .inr (.inl a0_22_f)))] s.heap := hP
  have hl := lv_entry ([.ref a0]) (n := 2) (Nat.le_of_ble_eq_true rfl)
  rw [lg_entry_eq]
  generalize (lg_sl ([.ref a0]) ++ List.replicate (2 - (lg_sl ([.ref a0])).length) Slot.unset).toArray = ls at hl ⊢
  have hl : lv_has ls 2 [(0, .ref a0)] := hl
  have b_a0_0 := i32b a0_0
  have b_a0_1 := i32b a0_1
  have b_a0_2 := i32b a0_2
  have b_a0_3 := i32b a0_3
  have b_a0_9 := i32b a0_9
  have b_a0_10 := i32b a0_10
  have b_a0_12 := i32b a0_12
  have b_a0_13 := i32b a0_13
  have b_a0_14 := i32b a0_14
  have b_a0_15 := i32b a0_15
  have b_a0_16 := i32b a0_16
  have hpl18 := vr_at h_a0_18_f (k := a0_17.toNatClampNeg) rfl
  refine lv_iconst (v := 0) hx hb dX9_personNamed_0 (by decide) ?_
  refine lv_istore_n (lv' := [(1, .int 0), (0, .ref a0)]) hx hb dX9_personNamed_1 rfl hl (by decide) rfl (fun ls hl => ?_)
  have qc0 : (0 : Int32).toInt = 0 := by decide
  refine wloop (fun n H locs ls => ∃ (l2_1 : Int32), n = (2147483647 - l2_1.toInt).toNat ∧ (0 ≤ l2_1.toInt) ∧ lv_has ls 2 [(1, .int l2_1), (0, .ref a0)] ∧ H = s.heap ∧ locs = []) ?_ ((2147483647 - (0 : Int32).toInt).toNat) _ _ _ ⟨0, rfl, (by omega), lv_sub hl [0, 1] rfl, rfl, rfl⟩
  intro n2 H locs ls hI ih2
  obtain ⟨l2_1, hn2, g_l2_1, hl, rfl, rfl⟩ := hI
  have b_l2_1 := i32b l2_1
  refine lv_iload_n hx hb dX9_personNamed_2 rfl (lv_at hl 0 rfl) ?_
  refine lv_aload_n hx hb dX9_personNamed_3 rfl (lv_at hl 1 rfl) ?_
  refine va_get (D := (dC, dI)) (ci := 8) (v := .ref a0_18) (C := RX9) (T := TX9) (N := 44) hx hb hts inlX9 hown hK hP 0 rgL3_619f1f5 rfl 18 (by decide) (hts (.fieldLink RX9 13 "ClosedUntilModel" "people" "[I") qw_434) (fun _ h9 => h9) rfl dX9_personNamed_4 ?_
  refine lv_aload_n hx hb dX9_personNamed_7 rfl (lv_at hl 1 rfl) ?_
  refine va_get (D := (dC, dI)) (ci := 8) (v := .int a0_17) (C := RX9) (T := TX9) (N := 44) hx hb hts inlX9 hown hK hP 0 rgL3_619f1f5 rfl 17 (by decide) (hts (.fieldLink RX9 256 "ClosedUntilModel" "bench" "I") qw_435) (fun _ h9 => h9) rfl dX9_personNamed_8 ?_
  refine va_iald hx hb hK hP 1 0 rgL3_6f2f016 rgT2_453da77 (vinI (by omega) (by omega)) dX9_personNamed_11 ?_
  refine lv_topi (fun x1 e_x1 => ?_)
  have q_x1 := congrArg Int32.toInt e_x1
  have b_x1 : 0 ≤ x1.toInt ∧ x1.toInt ≤ 8 := vr_at (lo := 0) (hi := 8) (f := a0_18_f) h_a0_18_f e_x1
  refine lv_icmp_ge (tgt := 45) hx hb dX9_personNamed_12 (by decide) (fun c12_2 => ?_) (fun c12_2 => ?_)
  · have c12_2 : x1.toInt ≤ l2_1.toInt := (cv_le rfl rfl).mp c12_2
    refine lv_iconst (v := (-1)) hx hb dX9_personNamed_45 (by decide) ?_
    exact W.iret (v := (-1)) hx hb hr (fun t ht hW => ⟨(-1), rfl, (by have q := (show ((-1) : Int32).toInt = (-1) by decide); omega), ht⟩) (fun _ h => absurd h List.not_mem_nil) dX9_personNamed_46
  · have c12_2 : ¬ (x1.toInt ≤ l2_1.toInt) := mt (cv_le rfl rfl).mpr c12_2
    refine lv_aload_n hx hb dX9_personNamed_15 rfl (lv_at hl 1 rfl) ?_
    refine va_get (D := (dC, dI)) (ci := 8) (v := .ref a0_22) (C := RX9) (T := TX9) (N := 44) hx hb hts inlX9 hown hK hP 0 rgL3_619f1f5 rfl 22 (by decide) (hts (.fieldLink RX9 26 "ClosedUntilModel" "personName" "[J") qw_436) (fun _ h9 => h9) rfl dX9_personNamed_16 ?_
    refine lv_bipush (v := 8) hx hb dX9_personNamed_19 (by decide) ?_
    refine lv_aload_n hx hb dX9_personNamed_21 rfl (lv_at hl 1 rfl) ?_
    refine va_get (D := (dC, dI)) (ci := 8) (v := .int a0_17) (C := RX9) (T := TX9) (N := 44) hx hb hts inlX9 hown hK hP 0 rgL3_619f1f5 rfl 17 (by decide) (hts (.fieldLink RX9 256 "ClosedUntilModel" "bench" "I") qw_435) (fun _ h9 => h9) rfl dX9_personNamed_22 ?_
    refine lv_imul hx hb dX9_personNamed_25 ?_
    refine lv_topi (fun x3 e_x3 => ?_)
    try have e_x3 := ti_mul e_x3 (show (8 : Int32).toInt = 8 by decide) rfl (by omega)
    refine lv_iload_n hx hb dX9_personNamed_26 rfl (lv_at hl 0 rfl) ?_
    refine lv_iadd hx hb dX9_personNamed_27 ?_
    refine lv_topi (fun x4 e_x4 => ?_)
    try have e_x4 := ti_add e_x4 rfl rfl (by omega)
    refine va_lald hx hb hK hP 2 1 rgL3_2e0c0f7 rgT2_d592b55 (vinI (by omega) (by omega)) dX9_personNamed_28 ?_
    refine lv_topl (fun x5 e_x5 => ?_)
    refine lv_aload_n hx hb dX9_personNamed_29 rfl (lv_at hl 1 rfl) ?_
    refine va_get (D := (dC, dI)) (ci := 8) (v := .long a0_11) (C := RX9) (T := TX9) (N := 44) hx hb hts inlX9 hown hK hP 0 rgL3_619f1f5 rfl 11 (by decide) (hts (.fieldLink RX9 166 "ClosedUntilModel" "word" "J") qw_422) (fun _ h9 => h9) rfl dX9_personNamed_30 ?_
    refine W.lcmp hx hb dX9_personNamed_33 ?_
    refine lv_topi (fun x6 e_x6 => ?_)
    refine lv_if_ne (tgt := 39) hx hb dX9_personNamed_34 (by decide) (fun c34_7 => ?_) (fun c34_7 => ?_)
    · have c34_7 : ¬ (x6.toInt = 0) := mt (cv_eq rfl (by decide)).mpr c34_7
      obtain ⟨x8, e_x8⟩ : ∃ y : Int32, y = l2_1 + 1 := ⟨_, rfl⟩
      refine lv_iinc (v := x8) (lv' := [(1, .int x8), (0, .ref a0)]) hx hb dX9_personNamed_39 hl (k := 0) rfl (by rw [e_x8]; rfl) (by decide) rfl (fun ls hl => ?_)
      try have e_x8 := ti_add e_x8 rfl (show (1 : Int32).toInt = 1 by decide) (by omega)
      refine lv_goto (tgt := 2) hx hb dX9_personNamed_42 (by decide) ?_
      exact ih2 ((2147483647 - x8.toInt).toNat) _ _ _ (by omega) ⟨x8, rfl, (by omega), lv_sub hl [0, 1] rfl, rfl, rfl⟩
    · have c34_7 : x6.toInt = 0 := (cv_eq rfl (by decide)).mp c34_7
      refine lv_iload_n hx hb dX9_personNamed_37 rfl (lv_at hl 0 rfl) ?_
      exact W.iret (v := l2_1) hx hb hr (fun t ht hW => ⟨l2_1, rfl, (by omega), ht⟩) (fun _ h => absurd h List.not_mem_nil) dX9_personNamed_38
set_option maxHeartbeats 4000000 in
set_option maxRecDepth 100000 in
theorem k_X9_depositNamed (l : Launch) (dC : Nat → ClassId) (dI : Nat → Nat → Nat) (g : Gv) (a0 : Nat) (a0_0 : Int32) (a0_1 : Int32) (a0_2 : Int32) (a0_3 : Int32) (a0_4 : Nat) (a0_5 : Int32) (a0_6 : Int32) (a0_7 : Int32) (a0_8 : Int32) (a0_9 : Int32) (a0_10 : Int32) (a0_11 : Int64) (a0_12 : Int32) (a0_13 : Int32) (a0_14 : Int32) (a0_15 : Int32) (a0_16 : Int32) (a0_17 : Int32) (a0_18 : Nat) (a0_19 : Nat) (a0_20 : Nat) (a0_21 : Nat) (a0_22 : Nat) (a0_23 : Nat) (a0_24 : Nat) (a0_25 : Nat) (a0_26 : Nat) (a0_27 : Nat) (a0_28 : Nat) (a0_29 : Nat) (a0_30 : Nat) (a0_31 : Nat) (a0_32 : Nat) (a0_33 : Nat) (a0_34 : Nat) (a0_35 : Nat) (a0_36 : Int64) (a0_37 : Int32) (a0_38 : Nat) (a0_39 : Nat) (a0_40 : Int32) (a0_41 : Nat) (a0_42 : Nat) (a0_43 : Nat) (a0_19_c : ClassId) (a0_19_f : Nat → Int32) (a0_25_c : ClassId) (a0_25_f : Nat → Int64) (h_a0_5 : 0 ≤ a0_5.toInt ∧ a0_5.toInt ≤ 1000) (h_a0_6 : 0 ≤ a0_6.toInt ∧ a0_6.toInt ≤ 1000) (h_a0_7 : 0 ≤ a0_7.toInt ∧ a0_7.toInt ≤ 1000) (h_a0_8 : 0 ≤ a0_8.toInt ∧ a0_8.toInt ≤ 1000) (h_a0_17 : 0 ≤ a0_17.toInt ∧ a0_17.toInt ≤ 1) (h_a0_37 : (-1) ≤ a0_37.toInt ∧ a0_37.toInt ≤ 23) (h_a0_40 : 0 ≤ a0_40.toInt ∧ a0_40.toInt ≤ 12) (h_a0_19_f : vr 0 4 a0_19_f) : Met l yX9_depositNamed (.code yX9_depositNamed cX9_depositNamed 2 (some .int) :: TBL) ({ frames := 0, cells := 0, slots := 0, locals := 0 }) (va_Pc [.ref a0] (fun U => va_P (dC, dI) vwCl [(a0, .inr (8, [.int a0_0, .int a0_1, .int a0_2, .int a0_3, .ref a0_4, .int a0_5, .int a0_6, .int a0_7, .int a0_8, .int a0_9, .int a0_10, .long a0_11, .int a0_12, .int a0_13, .int a0_14, .int a0_15, .int a0_16, .int a0_17, .ref a0_18, .ref a0_19, .ref a0_20, .ref a0_21, .ref a0_22, .ref a0_23, .ref a0_24, .ref a0_25, .ref a0_26, .ref a0_27, .ref a0_28, .ref a0_29, .ref a0_30, .ref a0_31, .ref a0_32, .ref a0_33, .ref a0_34, .ref a0_35, .long a0_36, .int a0_37, .ref a0_38, .ref a0_39, .int a0_40, .ref a0_41, .ref a0_42, .ref a0_43])), (a0_19, .inl (a0_19_c, 2, .inl a0_19_f)), (a0_25, .inl (a0_25_c, 8, .inr (.inl a0_25_f)))] U.heap ∧ va_K (dC, dI) vwCl [(a0_19_c, .int), (a0_25_c, .long)] U ∧ Ev g (fun _ => False) U)) (vp_Si (fun (r : Int32) => (-1 ≤ r.toInt ∧ r.toInt < (a0_19_f a0_17.toNatClampNeg).toInt))) 0 0 (fun _ => False) := by
  refine Met.ofW (cc := cX9_depositNamed) (maxL := 2) (ret := (some .int)) (by decide) rfl ?_
  intro p e s m args below meth c s₁ B hml hv
  obtain ⟨rfl, hP, hK, hE⟩ := hv
  have hx := B.exec
  have hb := B.bytes
  have hr := B.returns
  have hts0 := atoms_spec (ws := (.code yX9_depositNamed cX9_depositNamed 2 (some .int) :: TBL)) B.pre
  have hts := fun (w : Cond) (h : w ∈ TBL) => hts0 w (List.mem_cons_of_mem _ h)
  have hown : s.vm.findClass RX9 = some m.cls := findClass_of_methodNamed B.named
  have hlocks := B.notSynchronized
  have hN := hE.1
  have hS : va_S (fun _ => False) s.heap s.heap [] := va_S.rf
  replace hP : va_P (dC, dI) vwCl [(a0, .inr (8, [.int a0_0, .int a0_1, .int a0_2, .int a0_3, .ref a0_4, .int a0_5, .int a0_6, .int a0_7, .int a0_8, .int a0_9, .int a0_10, .long a0_11, .int a0_12, .int a0_13, .int a0_14, .int a0_15, .int a0_16, .int a0_17, .ref a0_18, .ref a0_19, .ref a0_20, .ref a0_21, .ref a0_22, .ref a0_23, .ref a0_24, .ref a0_25, .ref a0_26, .ref a0_27, .ref a0_28, .ref a0_29, .ref a0_30, .ref a0_31, .ref a0_32, .ref a0_33, .ref a0_34, .ref a0_35, .long a0_36, .int a0_37, .ref a0_38, .ref a0_39, .int a0_40, .ref a0_41, .ref a0_42, .ref a0_43])), (a0_19, .inl (a0_19_c, 2, .inl a0_19_f)), (a0_25, .inl (a0_25_c, 8, .inr (.inl a0_25_f)))] s.heap := hP
  have hl := lv_entry ([.ref a0]) (n := 2) (Nat.le_of_ble_eq_true rfl)
  rw [lg_entry_eq]
  generalize (lg_sl ([.ref a0]) ++ List.replicate (2 - (lg_sl ([.ref a0])).length) Slot.unset).toArray = ls at hl ⊢
  have hl : lv_has ls 2 [(0, .ref a0)] := hl
  have b_a0_0 := i32b a0_0
  have b_a0_1 := i32b a0_1
  have b_a0_2 := i32b a0_2
  have b_a0_3 := i32b a0_3
  have b_a0_9 := i32b a0_9
  have b_a0_10 := i32b a0_10
  have b_a0_12 := i32b a0_12
  have b_a0_13 := i32b a0_13
  have b_a0_14 := i32b a0_14
  have b_a0_15 := i32b a0_15
  have b_a0_16 := i32b a0_16
  have hpl19 := vr_at h_a0_19_f (k := a0_17.toNatClampNeg) rfl
  refine lv_iconst (v := 0) hx hb dX9_depositNamed_0 (by decide) ?_
  refine lv_istore_n (lv' := [(1, .int 0), (0, .ref a0)]) hx hb dX9_depositNamed_1 rfl hl (by decide) rfl (fun ls hl => ?_)
  have qc0 : (0 : Int32).toInt = 0 := by decide
  refine wloop (fun n H locs ls => ∃ (l2_1 : Int32), n = (2147483647 - l2_1.toInt).toNat ∧ (0 ≤ l2_1.toInt) ∧ lv_has ls 2 [(1, .int l2_1), (0, .ref a0)] ∧ H = s.heap ∧ locs = []) ?_ ((2147483647 - (0 : Int32).toInt).toNat) _ _ _ ⟨0, rfl, (by omega), lv_sub hl [0, 1] rfl, rfl, rfl⟩
  intro n2 H locs ls hI ih2
  obtain ⟨l2_1, hn2, g_l2_1, hl, rfl, rfl⟩ := hI
  have b_l2_1 := i32b l2_1
  refine lv_iload_n hx hb dX9_depositNamed_2 rfl (lv_at hl 0 rfl) ?_
  refine lv_aload_n hx hb dX9_depositNamed_3 rfl (lv_at hl 1 rfl) ?_
  refine va_get (D := (dC, dI)) (ci := 8) (v := .ref a0_19) (C := RX9) (T := TX9) (N := 44) hx hb hts inlX9 hown hK hP 0 rgL3_619f1f5 rfl 19 (by decide) (hts (.fieldLink RX9 17 "ClosedUntilModel" "deposits" "[I") qw_437) (fun _ h9 => h9) rfl dX9_depositNamed_4 ?_
  refine lv_aload_n hx hb dX9_depositNamed_7 rfl (lv_at hl 1 rfl) ?_
  refine va_get (D := (dC, dI)) (ci := 8) (v := .int a0_17) (C := RX9) (T := TX9) (N := 44) hx hb hts inlX9 hown hK hP 0 rgL3_619f1f5 rfl 17 (by decide) (hts (.fieldLink RX9 256 "ClosedUntilModel" "bench" "I") qw_435) (fun _ h9 => h9) rfl dX9_depositNamed_8 ?_
  refine va_iald hx hb hK hP 1 0 rgL3_6f2f016 rgT2_453da77 (vinI (by omega) (by omega)) dX9_depositNamed_11 ?_
  refine lv_topi (fun x1 e_x1 => ?_)
  have q_x1 := congrArg Int32.toInt e_x1
  have b_x1 : 0 ≤ x1.toInt ∧ x1.toInt ≤ 4 := vr_at (lo := 0) (hi := 4) (f := a0_19_f) h_a0_19_f e_x1
  refine lv_icmp_ge (tgt := 44) hx hb dX9_depositNamed_12 (by decide) (fun c12_2 => ?_) (fun c12_2 => ?_)
  · have c12_2 : x1.toInt ≤ l2_1.toInt := (cv_le rfl rfl).mp c12_2
    refine lv_iconst (v := (-1)) hx hb dX9_depositNamed_44 (by decide) ?_
    exact W.iret (v := (-1)) hx hb hr (fun t ht hW => ⟨(-1), rfl, (by have q := (show ((-1) : Int32).toInt = (-1) by decide); omega), ht⟩) (fun _ h => absurd h List.not_mem_nil) dX9_depositNamed_45
  · have c12_2 : ¬ (x1.toInt ≤ l2_1.toInt) := mt (cv_le rfl rfl).mpr c12_2
    refine lv_aload_n hx hb dX9_depositNamed_15 rfl (lv_at hl 1 rfl) ?_
    refine va_get (D := (dC, dI)) (ci := 8) (v := .ref a0_25) (C := RX9) (T := TX9) (N := 44) hx hb hts inlX9 hown hK hP 0 rgL3_619f1f5 rfl 25 (by decide) (hts (.fieldLink RX9 36 "ClosedUntilModel" "depositName" "[J") qw_438) (fun _ h9 => h9) rfl dX9_depositNamed_16 ?_
    refine lv_iconst (v := 4) hx hb dX9_depositNamed_19 (by decide) ?_
    refine lv_aload_n hx hb dX9_depositNamed_20 rfl (lv_at hl 1 rfl) ?_
    refine va_get (D := (dC, dI)) (ci := 8) (v := .int a0_17) (C := RX9) (T := TX9) (N := 44) hx hb hts inlX9 hown hK hP 0 rgL3_619f1f5 rfl 17 (by decide) (hts (.fieldLink RX9 256 "ClosedUntilModel" "bench" "I") qw_435) (fun _ h9 => h9) rfl dX9_depositNamed_21 ?_
    refine lv_imul hx hb dX9_depositNamed_24 ?_
    refine lv_topi (fun x3 e_x3 => ?_)
    try have e_x3 := ti_mul e_x3 (show (4 : Int32).toInt = 4 by decide) rfl (by omega)
    refine lv_iload_n hx hb dX9_depositNamed_25 rfl (lv_at hl 0 rfl) ?_
    refine lv_iadd hx hb dX9_depositNamed_26 ?_
    refine lv_topi (fun x4 e_x4 => ?_)
    try have e_x4 := ti_add e_x4 rfl rfl (by omega)
    refine va_lald hx hb hK hP 2 1 rgL3_2e0c0f7 rgT2_d592b55 (vinI (by omega) (by omega)) dX9_depositNamed_27 ?_
    refine lv_topl (fun x5 e_x5 => ?_)
    refine lv_aload_n hx hb dX9_depositNamed_28 rfl (lv_at hl 1 rfl) ?_
    refine va_get (D := (dC, dI)) (ci := 8) (v := .long a0_11) (C := RX9) (T := TX9) (N := 44) hx hb hts inlX9 hown hK hP 0 rgL3_619f1f5 rfl 11 (by decide) (hts (.fieldLink RX9 166 "ClosedUntilModel" "word" "J") qw_422) (fun _ h9 => h9) rfl dX9_depositNamed_29 ?_
    refine W.lcmp hx hb dX9_depositNamed_32 ?_
    refine lv_topi (fun x6 e_x6 => ?_)
    refine lv_if_ne (tgt := 38) hx hb dX9_depositNamed_33 (by decide) (fun c33_7 => ?_) (fun c33_7 => ?_)
    · have c33_7 : ¬ (x6.toInt = 0) := mt (cv_eq rfl (by decide)).mpr c33_7
      obtain ⟨x8, e_x8⟩ : ∃ y : Int32, y = l2_1 + 1 := ⟨_, rfl⟩
      refine lv_iinc (v := x8) (lv' := [(1, .int x8), (0, .ref a0)]) hx hb dX9_depositNamed_38 hl (k := 0) rfl (by rw [e_x8]; rfl) (by decide) rfl (fun ls hl => ?_)
      try have e_x8 := ti_add e_x8 rfl (show (1 : Int32).toInt = 1 by decide) (by omega)
      refine lv_goto (tgt := 2) hx hb dX9_depositNamed_41 (by decide) ?_
      exact ih2 ((2147483647 - x8.toInt).toNat) _ _ _ (by omega) ⟨x8, rfl, (by omega), lv_sub hl [0, 1] rfl, rfl, rfl⟩
    · have c33_7 : x6.toInt = 0 := (cv_eq rfl (by decide)).mp c33_7
      refine lv_iload_n hx hb dX9_depositNamed_36 rfl (lv_at hl 0 rfl) ?_
      exact W.iret (v := l2_1) hx hb hr (fun t ht hW => ⟨l2_1, rfl, (by omega), ht⟩) (fun _ h => absurd h List.not_mem_nil) dX9_depositNamed_37
set_option maxHeartbeats 4000000 in
set_option maxRecDepth 100000 in
theorem k_X9_pieceNamed (l : Launch) (dC : Nat → ClassId) (dI : Nat → Nat → Nat) (g : Gv) (a0 : Nat) (a0_0 : Int32) (a0_1 : Int32) (a0_2 : Int32) (a0_3 : Int32) (a0_4 : Nat) (a0_5 : Int32) (a0_6 : Int32) (a0_7 : Int32) (a0_8 : Int32) (a0_9 : Int32) (a0_10 : Int32) (a0_11 : Int64) (a0_12 : Int32) (a0_13 : Int32) (a0_14 : Int32) (a0_15 : Int32) (a0_16 : Int32) (a0_17 : Int32) (a0_18 : Nat) (a0_19 : Nat) (a0_20 : Nat) (a0_21 : Nat) (a0_22 : Nat) (a0_23 : Nat) (a0_24 : Nat) (a0_25 : Nat) (a0_26 : Nat) (a0_27 : Nat) (a0_28 : Nat) (a0_29 : Nat) (a0_30 : Nat) (a0_31 : Nat) (a0_32 : Nat) (a0_33 : Nat) (a0_34 : Nat) (a0_35 : Nat) (a0_36 : Int64) (a0_37 : Int32) (a0_38 : Nat) (a0_39 : Nat) (a0_40 : Int32) (a0_41 : Nat) (a0_42 : Nat) (a0_43 : Nat) (a0_20_c : ClassId) (a0_20_f : Nat → Int32) (a0_27_c : ClassId) (a0_27_f : Nat → Int64) (h_a0_5 : 0 ≤ a0_5.toInt ∧ a0_5.toInt ≤ 1000) (h_a0_6 : 0 ≤ a0_6.toInt ∧ a0_6.toInt ≤ 1000) (h_a0_7 : 0 ≤ a0_7.toInt ∧ a0_7.toInt ≤ 1000) (h_a0_8 : 0 ≤ a0_8.toInt ∧ a0_8.toInt ≤ 1000) (h_a0_17 : 0 ≤ a0_17.toInt ∧ a0_17.toInt ≤ 1) (h_a0_37 : (-1) ≤ a0_37.toInt ∧ a0_37.toInt ≤ 23) (h_a0_40 : 0 ≤ a0_40.toInt ∧ a0_40.toInt ≤ 12) (h_a0_20_f : vr 0 24 a0_20_f) : Met l yX9_pieceNamed (.code yX9_pieceNamed cX9_pieceNamed 2 (some .int) :: TBL) ({ frames := 0, cells := 0, slots := 0, locals := 0 }) (va_Pc [.ref a0] (fun U => va_P (dC, dI) vwCl [(a0, .inr (8, [.int a0_0, .int a0_1, .int a0_2, .int a0_3, .ref a0_4, .int a0_5, .int a0_6, .int a0_7, .int a0_8, .int a0_9, .int a0_10, .long a0_11, .int a0_12, .int a0_13, .int a0_14, .int a0_15, .int a0_16, .int a0_17, .ref a0_18, .ref a0_19, .ref a0_20, .ref a0_21, .ref a0_22, .ref a0_23, .ref a0_24, .ref a0_25, .ref a0_26, .ref a0_27, .ref a0_28, .ref a0_29, .ref a0_30, .ref a0_31, .ref a0_32, .ref a0_33, .ref a0_34, .ref a0_35, .long a0_36, .int a0_37, .ref a0_38, .ref a0_39, .int a0_40, .ref a0_41, .ref a0_42, .ref a0_43])), (a0_20, .inl (a0_20_c, 2, .inl a0_20_f)), (a0_27, .inl (a0_27_c, 48, .inr (.inl a0_27_f)))] U.heap ∧ va_K (dC, dI) vwCl [(a0_20_c, .int), (a0_27_c, .long)] U ∧ Ev g (fun _ => False) U)) (vp_Si (fun (r : Int32) => (-1 ≤ r.toInt ∧ r.toInt < (a0_20_f a0_17.toNatClampNeg).toInt))) 0 0 (fun _ => False) := by
  refine Met.ofW (cc := cX9_pieceNamed) (maxL := 2) (ret := (some .int)) (by decide) rfl ?_
  intro p e s m args below meth c s₁ B hml hv
  obtain ⟨rfl, hP, hK, hE⟩ := hv
  have hx := B.exec
  have hb := B.bytes
  have hr := B.returns
  have hts0 := atoms_spec (ws := (.code yX9_pieceNamed cX9_pieceNamed 2 (some .int) :: TBL)) B.pre
  have hts := fun (w : Cond) (h : w ∈ TBL) => hts0 w (List.mem_cons_of_mem _ h)
  have hown : s.vm.findClass RX9 = some m.cls := findClass_of_methodNamed B.named
  have hlocks := B.notSynchronized
  have hN := hE.1
  have hS : va_S (fun _ => False) s.heap s.heap [] := va_S.rf
  replace hP : va_P (dC, dI) vwCl [(a0, .inr (8, [.int a0_0, .int a0_1, .int a0_2, .int a0_3, .ref a0_4, .int a0_5, .int a0_6, .int a0_7, .int a0_8, .int a0_9, .int a0_10, .long a0_11, .int a0_12, .int a0_13, .int a0_14, .int a0_15, .int a0_16, .int a0_17, .ref a0_18, .ref a0_19, .ref a0_20, .ref a0_21, .ref a0_22, .ref a0_23, .ref a0_24, .ref a0_25, .ref a0_26, .ref a0_27, .ref a0_28, .ref a0_29, .ref a0_30, .ref a0_31, .ref a0_32, .ref a0_33, .ref a0_34, .ref a0_35, .long a0_36, .int a0_37, .ref a0_38, .ref a0_39, .int a0_40, .ref a0_41, .ref a0_42, .ref a0_43])), (a0_20, .inl (a0_20_c, 2, .inl a0_20_f)), (a0_27, .inl (a0_27_c, 48, .inr (.inl a0_27_f)))] s.heap := hP
  have hl := lv_entry ([.ref a0]) (n := 2) (Nat.le_of_ble_eq_true rfl)
  rw [lg_entry_eq]
  generalize (lg_sl ([.ref a0]) ++ List.replicate (2 - (lg_sl ([.ref a0])).length) Slot.unset).toArray = ls at hl ⊢
  have hl : lv_has ls 2 [(0, .ref a0)] := hl
  have b_a0_0 := i32b a0_0
  have b_a0_1 := i32b a0_1
  have b_a0_2 := i32b a0_2
  have b_a0_3 := i32b a0_3
  have b_a0_9 := i32b a0_9
  have b_a0_10 := i32b a0_10
  have b_a0_12 := i32b a0_12
  have b_a0_13 := i32b a0_13
  have b_a0_14 := i32b a0_14
  have b_a0_15 := i32b a0_15
  have b_a0_16 := i32b a0_16
  have hpl20 := vr_at h_a0_20_f (k := a0_17.toNatClampNeg) rfl
  refine lv_iconst (v := 0) hx hb dX9_pieceNamed_0 (by decide) ?_
  refine lv_istore_n (lv' := [(1, .int 0), (0, .ref a0)]) hx hb dX9_pieceNamed_1 rfl hl (by decide) rfl (fun ls hl => ?_)
  have qc0 : (0 : Int32).toInt = 0 := by decide
  refine wloop (fun n H locs ls => ∃ (l2_1 : Int32), n = (2147483647 - l2_1.toInt).toNat ∧ (0 ≤ l2_1.toInt) ∧ lv_has ls 2 [(1, .int l2_1), (0, .ref a0)] ∧ H = s.heap ∧ locs = []) ?_ ((2147483647 - (0 : Int32).toInt).toNat) _ _ _ ⟨0, rfl, (by omega), lv_sub hl [0, 1] rfl, rfl, rfl⟩
  intro n2 H locs ls hI ih2
  obtain ⟨l2_1, hn2, g_l2_1, hl, rfl, rfl⟩ := hI
  have b_l2_1 := i32b l2_1
  refine lv_iload_n hx hb dX9_pieceNamed_2 rfl (lv_at hl 0 rfl) ?_
  refine lv_aload_n hx hb dX9_pieceNamed_3 rfl (lv_at hl 1 rfl) ?_
  refine va_get (D := (dC, dI)) (ci := 8) (v := .ref a0_20) (C := RX9) (T := TX9) (N := 44) hx hb hts inlX9 hown hK hP 0 rgL3_619f1f5 rfl 20 (by decide) (hts (.fieldLink RX9 20 "ClosedUntilModel" "pieces" "[I") qw_439) (fun _ h9 => h9) rfl dX9_pieceNamed_4 ?_
  refine lv_aload_n hx hb dX9_pieceNamed_7 rfl (lv_at hl 1 rfl) ?_
  refine va_get (D := (dC, dI)) (ci := 8) (v := .int a0_17) (C := RX9) (T := TX9) (N := 44) hx hb hts inlX9 hown hK hP 0 rgL3_619f1f5 rfl 17 (by decide) (hts (.fieldLink RX9 256 "ClosedUntilModel" "bench" "I") qw_435) (fun _ h9 => h9) rfl dX9_pieceNamed_8 ?_
  refine va_iald hx hb hK hP 1 0 rgL3_6f2f016 rgT2_453da77 (vinI (by omega) (by omega)) dX9_pieceNamed_11 ?_
  refine lv_topi (fun x1 e_x1 => ?_)
  have q_x1 := congrArg Int32.toInt e_x1
  have b_x1 : 0 ≤ x1.toInt ∧ x1.toInt ≤ 24 := vr_at (lo := 0) (hi := 24) (f := a0_20_f) h_a0_20_f e_x1
  refine lv_icmp_ge (tgt := 45) hx hb dX9_pieceNamed_12 (by decide) (fun c12_2 => ?_) (fun c12_2 => ?_)
  · have c12_2 : x1.toInt ≤ l2_1.toInt := (cv_le rfl rfl).mp c12_2
    refine lv_iconst (v := (-1)) hx hb dX9_pieceNamed_45 (by decide) ?_
    exact W.iret (v := (-1)) hx hb hr (fun t ht hW => ⟨(-1), rfl, (by have q := (show ((-1) : Int32).toInt = (-1) by decide); omega), ht⟩) (fun _ h => absurd h List.not_mem_nil) dX9_pieceNamed_46
  · have c12_2 : ¬ (x1.toInt ≤ l2_1.toInt) := mt (cv_le rfl rfl).mpr c12_2
    refine lv_aload_n hx hb dX9_pieceNamed_15 rfl (lv_at hl 1 rfl) ?_
    refine va_get (D := (dC, dI)) (ci := 8) (v := .ref a0_27) (C := RX9) (T := TX9) (N := 44) hx hb hts inlX9 hown hK hP 0 rgL3_619f1f5 rfl 27 (by decide) (hts (.fieldLink RX9 42 "ClosedUntilModel" "pieceName" "[J") qw_440) (fun _ h9 => h9) rfl dX9_pieceNamed_16 ?_
    refine lv_bipush (v := 24) hx hb dX9_pieceNamed_19 (by decide) ?_
    refine lv_aload_n hx hb dX9_pieceNamed_21 rfl (lv_at hl 1 rfl) ?_
    refine va_get (D := (dC, dI)) (ci := 8) (v := .int a0_17) (C := RX9) (T := TX9) (N := 44) hx hb hts inlX9 hown hK hP 0 rgL3_619f1f5 rfl 17 (by decide) (hts (.fieldLink RX9 256 "ClosedUntilModel" "bench" "I") qw_435) (fun _ h9 => h9) rfl dX9_pieceNamed_22 ?_
    refine lv_imul hx hb dX9_pieceNamed_25 ?_
    refine lv_topi (fun x3 e_x3 => ?_)
    try have e_x3 := ti_mul e_x3 (show (24 : Int32).toInt = 24 by decide) rfl (by omega)
    refine lv_iload_n hx hb dX9_pieceNamed_26 rfl (lv_at hl 0 rfl) ?_
    refine lv_iadd hx hb dX9_pieceNamed_27 ?_
    refine lv_topi (fun x4 e_x4 => ?_)
    try have e_x4 := ti_add e_x4 rfl rfl (by omega)
    refine va_lald hx hb hK hP 2 1 rgL3_2e0c0f7 rgT2_d592b55 (vinI (by omega) (by omega)) dX9_pieceNamed_28 ?_
    refine lv_topl (fun x5 e_x5 => ?_)
    refine lv_aload_n hx hb dX9_pieceNamed_29 rfl (lv_at hl 1 rfl) ?_
    refine va_get (D := (dC, dI)) (ci := 8) (v := .long a0_11) (C := RX9) (T := TX9) (N := 44) hx hb hts inlX9 hown hK hP 0 rgL3_619f1f5 rfl 11 (by decide) (hts (.fieldLink RX9 166 "ClosedUntilModel" "word" "J") qw_422) (fun _ h9 => h9) rfl dX9_pieceNamed_30 ?_
    refine W.lcmp hx hb dX9_pieceNamed_33 ?_
    refine lv_topi (fun x6 e_x6 => ?_)
    refine lv_if_ne (tgt := 39) hx hb dX9_pieceNamed_34 (by decide) (fun c34_7 => ?_) (fun c34_7 => ?_)
    · have c34_7 : ¬ (x6.toInt = 0) := mt (cv_eq rfl (by decide)).mpr c34_7
      obtain ⟨x8, e_x8⟩ : ∃ y : Int32, y = l2_1 + 1 := ⟨_, rfl⟩
      refine lv_iinc (v := x8) (lv' := [(1, .int x8), (0, .ref a0)]) hx hb dX9_pieceNamed_39 hl (k := 0) rfl (by rw [e_x8]; rfl) (by decide) rfl (fun ls hl => ?_)
      try have e_x8 := ti_add e_x8 rfl (show (1 : Int32).toInt = 1 by decide) (by omega)
      refine lv_goto (tgt := 2) hx hb dX9_pieceNamed_42 (by decide) ?_
      exact ih2 ((2147483647 - x8.toInt).toNat) _ _ _ (by omega) ⟨x8, rfl, (by omega), lv_sub hl [0, 1] rfl, rfl, rfl⟩
    · have c34_7 : x6.toInt = 0 := (cv_eq rfl (by decide)).mp c34_7
      refine lv_iload_n hx hb dX9_pieceNamed_37 rfl (lv_at hl 0 rfl) ?_
      exact W.iret (v := l2_1) hx hb hr (fun t ht hW => ⟨l2_1, rfl, (by omega), ht⟩) (fun _ h => absurd h List.not_mem_nil) dX9_pieceNamed_38
