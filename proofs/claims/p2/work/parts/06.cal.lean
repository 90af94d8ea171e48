theorem dX0_has_0 : decode cX0_has 0 = .ok (.iload_n 0, 1) := by decide +kernel
theorem dX0_has_1 : decode cX0_has 1 = .ok (.ifCond .lt 13, 3) := by decide +kernel
theorem dX0_has_4 : decode cX0_has 4 = .ok (.iload_n 0, 1) := by decide +kernel
theorem dX0_has_5 : decode cX0_has 5 = .ok (.ldc 9, 2) := by decide +kernel
theorem dX0_has_7 : decode cX0_has 7 = .ok (.if_icmp .ge 7, 3) := by decide +kernel
theorem dX0_has_10 : decode cX0_has 10 = .ok (.iconst 1, 1) := by decide +kernel
theorem dX0_has_11 : decode cX0_has 11 = .ok (.goto 4, 3) := by decide +kernel
theorem dX0_has_14 : decode cX0_has 14 = .ok (.iconst 0, 1) := by decide +kernel
theorem dX0_has_15 : decode cX0_has 15 = .ok (.ireturn, 1) := by decide +kernel
theorem dX0_monthLength_0 : decode cX0_monthLength 0 = .ok (.iload_n 1, 1) := by decide +kernel
theorem dX0_monthLength_1 : decode cX0_monthLength 1 = .ok (.iconst 1, 1) := by decide +kernel
theorem dX0_monthLength_2 : decode cX0_monthLength 2 = .ok (.if_icmp .lt 11, 3) := by decide +kernel
theorem dX0_monthLength_5 : decode cX0_monthLength 5 = .ok (.iload_n 1, 1) := by decide +kernel
theorem dX0_monthLength_6 : decode cX0_monthLength 6 = .ok (.getstatic 10, 3) := by decide +kernel
theorem dX0_monthLength_9 : decode cX0_monthLength 9 = .ok (.arraylength, 1) := by decide +kernel
theorem dX0_monthLength_10 : decode cX0_monthLength 10 = .ok (.if_icmp .le 5, 3) := by decide +kernel
theorem dX0_monthLength_13 : decode cX0_monthLength 13 = .ok (.iconst 0, 1) := by decide +kernel
theorem dX0_monthLength_14 : decode cX0_monthLength 14 = .ok (.ireturn, 1) := by decide +kernel
theorem dX0_monthLength_15 : decode cX0_monthLength 15 = .ok (.iload_n 0, 1) := by decide +kernel
theorem dX0_monthLength_16 : decode cX0_monthLength 16 = .ok (.iconst 4, 1) := by decide +kernel
theorem dX0_monthLength_17 : decode cX0_monthLength 17 = .ok (.irem, 1) := by decide +kernel
theorem dX0_monthLength_18 : decode cX0_monthLength 18 = .ok (.ifCond .ne 22, 3) := by decide +kernel
theorem dX0_monthLength_21 : decode cX0_monthLength 21 = .ok (.iload_n 0, 1) := by decide +kernel
theorem dX0_monthLength_22 : decode cX0_monthLength 22 = .ok (.bipush 100, 2) := by decide +kernel
theorem dX0_monthLength_24 : decode cX0_monthLength 24 = .ok (.irem, 1) := by decide +kernel
theorem dX0_monthLength_25 : decode cX0_monthLength 25 = .ok (.ifCond .ne 11, 3) := by decide +kernel
theorem dX0_monthLength_28 : decode cX0_monthLength 28 = .ok (.iload_n 0, 1) := by decide +kernel
theorem dX0_monthLength_29 : decode cX0_monthLength 29 = .ok (.sipush 400, 3) := by decide +kernel
theorem dX0_monthLength_32 : decode cX0_monthLength 32 = .ok (.irem, 1) := by decide +kernel
theorem dX0_monthLength_33 : decode cX0_monthLength 33 = .ok (.ifCond .ne 7, 3) := by decide +kernel
theorem dX0_monthLength_36 : decode cX0_monthLength 36 = .ok (.iconst 1, 1) := by decide +kernel
theorem dX0_monthLength_37 : decode cX0_monthLength 37 = .ok (.goto 4, 3) := by decide +kernel
theorem dX0_monthLength_40 : decode cX0_monthLength 40 = .ok (.iconst 0, 1) := by decide +kernel
theorem dX0_monthLength_41 : decode cX0_monthLength 41 = .ok (.istore_n 2, 1) := by decide +kernel
theorem dX0_monthLength_42 : decode cX0_monthLength 42 = .ok (.getstatic 10, 3) := by decide +kernel
theorem dX0_monthLength_45 : decode cX0_monthLength 45 = .ok (.iload_n 1, 1) := by decide +kernel
theorem dX0_monthLength_46 : decode cX0_monthLength 46 = .ok (.iconst 1, 1) := by decide +kernel
theorem dX0_monthLength_47 : decode cX0_monthLength 47 = .ok (.isub, 1) := by decide +kernel
theorem dX0_monthLength_48 : decode cX0_monthLength 48 = .ok (.iaload, 1) := by decide +kernel
theorem dX0_monthLength_49 : decode cX0_monthLength 49 = .ok (.istore_n 3, 1) := by decide +kernel
theorem dX0_monthLength_50 : decode cX0_monthLength 50 = .ok (.iload_n 1, 1) := by decide +kernel
theorem dX0_monthLength_51 : decode cX0_monthLength 51 = .ok (.iconst 2, 1) := by decide +kernel
theorem dX0_monthLength_52 : decode cX0_monthLength 52 = .ok (.if_icmp .ne 13, 3) := by decide +kernel
theorem dX0_monthLength_55 : decode cX0_monthLength 55 = .ok (.iload_n 2, 1) := by decide +kernel
theorem dX0_monthLength_56 : decode cX0_monthLength 56 = .ok (.ifCond .eq 9, 3) := by decide +kernel
theorem dX0_monthLength_59 : decode cX0_monthLength 59 = .ok (.iload_n 3, 1) := by decide +kernel
theorem dX0_monthLength_60 : decode cX0_monthLength 60 = .ok (.iconst 1, 1) := by decide +kernel
theorem dX0_monthLength_61 : decode cX0_monthLength 61 = .ok (.iadd, 1) := by decide +kernel
theorem dX0_monthLength_62 : decode cX0_monthLength 62 = .ok (.goto 4, 3) := by decide +kernel
theorem dX0_monthLength_65 : decode cX0_monthLength 65 = .ok (.iload_n 3, 1) := by decide +kernel
theorem dX0_monthLength_66 : decode cX0_monthLength 66 = .ok (.ireturn, 1) := by decide +kernel
theorem dX0_startOf_0 : decode cX0_startOf 0 = .ok (.iload_n 0, 1) := by decide +kernel
theorem dX0_startOf_1 : decode cX0_startOf 1 = .ok (.iconst 1, 1) := by decide +kernel
theorem dX0_startOf_2 : decode cX0_startOf 2 = .ok (.isub, 1) := by decide +kernel
theorem dX0_startOf_3 : decode cX0_startOf 3 = .ok (.istore_n 1, 1) := by decide +kernel
theorem dX0_startOf_4 : decode cX0_startOf 4 = .ok (.iload_n 1, 1) := by decide +kernel
theorem dX0_startOf_5 : decode cX0_startOf 5 = .ok (.iconst 4, 1) := by decide +kernel
theorem dX0_startOf_6 : decode cX0_startOf 6 = .ok (.idiv, 1) := by decide +kernel
theorem dX0_startOf_7 : decode cX0_startOf 7 = .ok (.iload_n 1, 1) := by decide +kernel
theorem dX0_startOf_8 : decode cX0_startOf 8 = .ok (.bipush 100, 2) := by decide +kernel
theorem dX0_startOf_10 : decode cX0_startOf 10 = .ok (.idiv, 1) := by decide +kernel
theorem dX0_startOf_11 : decode cX0_startOf 11 = .ok (.isub, 1) := by decide +kernel
theorem dX0_startOf_12 : decode cX0_startOf 12 = .ok (.iload_n 1, 1) := by decide +kernel
theorem dX0_startOf_13 : decode cX0_startOf 13 = .ok (.sipush 400, 3) := by decide +kernel
theorem dX0_startOf_16 : decode cX0_startOf 16 = .ok (.idiv, 1) := by decide +kernel
theorem dX0_startOf_17 : decode cX0_startOf 17 = .ok (.iadd, 1) := by decide +kernel
theorem dX0_startOf_18 : decode cX0_startOf 18 = .ok (.sipush 412, 3) := by decide +kernel
theorem dX0_startOf_21 : decode cX0_startOf 21 = .ok (.isub, 1) := by decide +kernel
theorem dX0_startOf_22 : decode cX0_startOf 22 = .ok (.istore_n 2, 1) := by decide +kernel
theorem dX0_startOf_23 : decode cX0_startOf 23 = .ok (.sipush 365, 3) := by decide +kernel
theorem dX0_startOf_26 : decode cX0_startOf 26 = .ok (.iload_n 0, 1) := by decide +kernel
theorem dX0_startOf_27 : decode cX0_startOf 27 = .ok (.sipush 1700, 3) := by decide +kernel
theorem dX0_startOf_30 : decode cX0_startOf 30 = .ok (.isub, 1) := by decide +kernel
theorem dX0_startOf_31 : decode cX0_startOf 31 = .ok (.imul, 1) := by decide +kernel
theorem dX0_startOf_32 : decode cX0_startOf 32 = .ok (.iload_n 2, 1) := by decide +kernel
theorem dX0_startOf_33 : decode cX0_startOf 33 = .ok (.iadd, 1) := by decide +kernel
theorem dX0_startOf_34 : decode cX0_startOf 34 = .ok (.ireturn, 1) := by decide +kernel
theorem dX0_numberOf_0 : decode cX0_numberOf 0 = .ok (.iload_n 0, 1) := by decide +kernel
theorem dX0_numberOf_1 : decode cX0_numberOf 1 = .ok (.sipush 1700, 3) := by decide +kernel
theorem dX0_numberOf_4 : decode cX0_numberOf 4 = .ok (.if_icmp .lt 10, 3) := by decide +kernel
theorem dX0_numberOf_7 : decode cX0_numberOf 7 = .ok (.iload_n 0, 1) := by decide +kernel
theorem dX0_numberOf_8 : decode cX0_numberOf 8 = .ok (.sipush 2299, 3) := by decide +kernel
theorem dX0_numberOf_11 : decode cX0_numberOf 11 = .ok (.if_icmp .le 5, 3) := by decide +kernel
theorem dX0_numberOf_14 : decode cX0_numberOf 14 = .ok (.iconst (-1), 1) := by decide +kernel
theorem dX0_numberOf_15 : decode cX0_numberOf 15 = .ok (.ireturn, 1) := by decide +kernel
theorem dX0_numberOf_16 : decode cX0_numberOf 16 = .ok (.iload_n 2, 1) := by decide +kernel
theorem dX0_numberOf_17 : decode cX0_numberOf 17 = .ok (.iconst 1, 1) := by decide +kernel
theorem dX0_numberOf_18 : decode cX0_numberOf 18 = .ok (.if_icmp .lt 12, 3) := by decide +kernel
theorem dX0_numberOf_21 : decode cX0_numberOf 21 = .ok (.iload_n 2, 1) := by decide +kernel
theorem dX0_numberOf_22 : decode cX0_numberOf 22 = .ok (.iload_n 0, 1) := by decide +kernel
theorem dX0_numberOf_23 : decode cX0_numberOf 23 = .ok (.iload_n 1, 1) := by decide +kernel
theorem dX0_numberOf_24 : decode cX0_numberOf 24 = .ok (.invokestatic 16, 3) := by decide +kernel
theorem dX0_numberOf_27 : decode cX0_numberOf 27 = .ok (.if_icmp .le 5, 3) := by decide +kernel
theorem dX0_numberOf_30 : decode cX0_numberOf 30 = .ok (.iconst (-1), 1) := by decide +kernel
theorem dX0_numberOf_31 : decode cX0_numberOf 31 = .ok (.ireturn, 1) := by decide +kernel
theorem dX0_numberOf_32 : decode cX0_numberOf 32 = .ok (.iload_n 0, 1) := by decide +kernel
theorem dX0_numberOf_33 : decode cX0_numberOf 33 = .ok (.invokestatic 20, 3) := by decide +kernel
theorem dX0_numberOf_36 : decode cX0_numberOf 36 = .ok (.istore_n 3, 1) := by decide +kernel
theorem dX0_numberOf_37 : decode cX0_numberOf 37 = .ok (.iconst 1, 1) := by decide +kernel
theorem dX0_numberOf_38 : decode cX0_numberOf 38 = .ok (.istore 4, 2) := by decide +kernel
theorem dX0_numberOf_40 : decode cX0_numberOf 40 = .ok (.iload 4, 2) := by decide +kernel
theorem dX0_numberOf_42 : decode cX0_numberOf 42 = .ok (.iload_n 1, 1) := by decide +kernel
theorem dX0_numberOf_43 : decode cX0_numberOf 43 = .ok (.if_icmp .ge 18, 3) := by decide +kernel
theorem dX0_numberOf_46 : decode cX0_numberOf 46 = .ok (.iload_n 3, 1) := by decide +kernel
theorem dX0_numberOf_47 : decode cX0_numberOf 47 = .ok (.iload_n 0, 1) := by decide +kernel
theorem dX0_numberOf_48 : decode cX0_numberOf 48 = .ok (.iload 4, 2) := by decide +kernel
theorem dX0_numberOf_50 : decode cX0_numberOf 50 = .ok (.invokestatic 16, 3) := by decide +kernel
theorem dX0_numberOf_53 : decode cX0_numberOf 53 = .ok (.iadd, 1) := by decide +kernel
theorem dX0_numberOf_54 : decode cX0_numberOf 54 = .ok (.istore_n 3, 1) := by decide +kernel
theorem dX0_numberOf_55 : decode cX0_numberOf 55 = .ok (.iinc 4 1, 3) := by decide +kernel
theorem dX0_numberOf_58 : decode cX0_numberOf 58 = .ok (.goto (-18), 3) := by decide +kernel
theorem dX0_numberOf_61 : decode cX0_numberOf 61 = .ok (.iload_n 3, 1) := by decide +kernel
theorem dX0_numberOf_62 : decode cX0_numberOf 62 = .ok (.iload_n 2, 1) := by decide +kernel
theorem dX0_numberOf_63 : decode cX0_numberOf 63 = .ok (.iadd, 1) := by decide +kernel
theorem dX0_numberOf_64 : decode cX0_numberOf 64 = .ok (.iconst 1, 1) := by decide +kernel
theorem dX0_numberOf_65 : decode cX0_numberOf 65 = .ok (.isub, 1) := by decide +kernel
theorem dX0_numberOf_66 : decode cX0_numberOf 66 = .ok (.ireturn, 1) := by decide +kernel
theorem dX0_yearOf_0 : decode cX0_yearOf 0 = .ok (.sipush 1700, 3) := by decide +kernel
theorem dX0_yearOf_3 : decode cX0_yearOf 3 = .ok (.iload_n 0, 1) := by decide +kernel
theorem dX0_yearOf_4 : decode cX0_yearOf 4 = .ok (.sipush 366, 3) := by decide +kernel
theorem dX0_yearOf_7 : decode cX0_yearOf 7 = .ok (.idiv, 1) := by decide +kernel
theorem dX0_yearOf_8 : decode cX0_yearOf 8 = .ok (.iadd, 1) := by decide +kernel
theorem dX0_yearOf_9 : decode cX0_yearOf 9 = .ok (.istore_n 1, 1) := by decide +kernel
theorem dX0_yearOf_10 : decode cX0_yearOf 10 = .ok (.iconst 0, 1) := by decide +kernel
theorem dX0_yearOf_11 : decode cX0_yearOf 11 = .ok (.istore_n 2, 1) := by decide +kernel
theorem dX0_yearOf_12 : decode cX0_yearOf 12 = .ok (.iload_n 2, 1) := by decide +kernel
theorem dX0_yearOf_13 : decode cX0_yearOf 13 = .ok (.iconst 2, 1) := by decide +kernel
theorem dX0_yearOf_14 : decode cX0_yearOf 14 = .ok (.if_icmp .ge 22, 3) := by decide +kernel
theorem dX0_yearOf_17 : decode cX0_yearOf 17 = .ok (.iload_n 1, 1) := by decide +kernel
theorem dX0_yearOf_18 : decode cX0_yearOf 18 = .ok (.iconst 1, 1) := by decide +kernel
theorem dX0_yearOf_19 : decode cX0_yearOf 19 = .ok (.iadd, 1) := by decide +kernel
theorem dX0_yearOf_20 : decode cX0_yearOf 20 = .ok (.invokestatic 20, 3) := by decide +kernel
theorem dX0_yearOf_23 : decode cX0_yearOf 23 = .ok (.iload_n 0, 1) := by decide +kernel
theorem dX0_yearOf_24 : decode cX0_yearOf 24 = .ok (.if_icmp .gt 12, 3) := by decide +kernel
theorem dX0_yearOf_27 : decode cX0_yearOf 27 = .ok (.iinc 1 1, 3) := by decide +kernel
theorem dX0_yearOf_30 : decode cX0_yearOf 30 = .ok (.iinc 2 1, 3) := by decide +kernel
theorem dX0_yearOf_33 : decode cX0_yearOf 33 = .ok (.goto (-21), 3) := by decide +kernel
theorem dX0_yearOf_36 : decode cX0_yearOf 36 = .ok (.iload_n 1, 1) := by decide +kernel
theorem dX0_yearOf_37 : decode cX0_yearOf 37 = .ok (.ireturn, 1) := by decide +kernel
theorem dX0_monthAndDay_0 : decode cX0_monthAndDay 0 = .ok (.iload_n 0, 1) := by decide +kernel
theorem dX0_monthAndDay_1 : decode cX0_monthAndDay 1 = .ok (.iload_n 1, 1) := by decide +kernel
theorem dX0_monthAndDay_2 : decode cX0_monthAndDay 2 = .ok (.invokestatic 20, 3) := by decide +kernel
theorem dX0_monthAndDay_5 : decode cX0_monthAndDay 5 = .ok (.isub, 1) := by decide +kernel
theorem dX0_monthAndDay_6 : decode cX0_monthAndDay 6 = .ok (.istore_n 2, 1) := by decide +kernel
theorem dX0_monthAndDay_7 : decode cX0_monthAndDay 7 = .ok (.iconst 1, 1) := by decide +kernel
theorem dX0_monthAndDay_8 : decode cX0_monthAndDay 8 = .ok (.istore_n 3, 1) := by decide +kernel
theorem dX0_monthAndDay_9 : decode cX0_monthAndDay 9 = .ok (.iload_n 3, 1) := by decide +kernel
theorem dX0_monthAndDay_10 : decode cX0_monthAndDay 10 = .ok (.getstatic 10, 3) := by decide +kernel
theorem dX0_monthAndDay_13 : decode cX0_monthAndDay 13 = .ok (.arraylength, 1) := by decide +kernel
theorem dX0_monthAndDay_14 : decode cX0_monthAndDay 14 = .ok (.if_icmp .ge 26, 3) := by decide +kernel
theorem dX0_monthAndDay_17 : decode cX0_monthAndDay 17 = .ok (.iload_n 2, 1) := by decide +kernel
theorem dX0_monthAndDay_18 : decode cX0_monthAndDay 18 = .ok (.iload_n 1, 1) := by decide +kernel
theorem dX0_monthAndDay_19 : decode cX0_monthAndDay 19 = .ok (.iload_n 3, 1) := by decide +kernel
theorem dX0_monthAndDay_20 : decode cX0_monthAndDay 20 = .ok (.invokestatic 16, 3) := by decide +kernel
theorem dX0_monthAndDay_23 : decode cX0_monthAndDay 23 = .ok (.if_icmp .lt 17, 3) := by decide +kernel
theorem dX0_monthAndDay_26 : decode cX0_monthAndDay 26 = .ok (.iload_n 2, 1) := by decide +kernel
theorem dX0_monthAndDay_27 : decode cX0_monthAndDay 27 = .ok (.iload_n 1, 1) := by decide +kernel
theorem dX0_monthAndDay_28 : decode cX0_monthAndDay 28 = .ok (.iload_n 3, 1) := by decide +kernel
theorem dX0_monthAndDay_29 : decode cX0_monthAndDay 29 = .ok (.invokestatic 16, 3) := by decide +kernel
theorem dX0_monthAndDay_32 : decode cX0_monthAndDay 32 = .ok (.isub, 1) := by decide +kernel
theorem dX0_monthAndDay_33 : decode cX0_monthAndDay 33 = .ok (.istore_n 2, 1) := by decide +kernel
theorem dX0_monthAndDay_34 : decode cX0_monthAndDay 34 = .ok (.iinc 3 1, 3) := by decide +kernel
theorem dX0_monthAndDay_37 : decode cX0_monthAndDay 37 = .ok (.goto (-28), 3) := by decide +kernel
theorem dX0_monthAndDay_40 : decode cX0_monthAndDay 40 = .ok (.iload_n 3, 1) := by decide +kernel
theorem dX0_monthAndDay_41 : decode cX0_monthAndDay 41 = .ok (.bipush 32, 2) := by decide +kernel
theorem dX0_monthAndDay_43 : decode cX0_monthAndDay 43 = .ok (.imul, 1) := by decide +kernel
theorem dX0_monthAndDay_44 : decode cX0_monthAndDay 44 = .ok (.iload_n 2, 1) := by decide +kernel
theorem dX0_monthAndDay_45 : decode cX0_monthAndDay 45 = .ok (.iadd, 1) := by decide +kernel
theorem dX0_monthAndDay_46 : decode cX0_monthAndDay 46 = .ok (.iconst 1, 1) := by decide +kernel
theorem dX0_monthAndDay_47 : decode cX0_monthAndDay 47 = .ok (.iadd, 1) := by decide +kernel
theorem dX0_monthAndDay_48 : decode cX0_monthAndDay 48 = .ok (.ireturn, 1) := by decide +kernel
theorem dX0_monthOf_0 : decode cX0_monthOf 0 = .ok (.iload_n 0, 1) := by decide +kernel
theorem dX0_monthOf_1 : decode cX0_monthOf 1 = .ok (.iload_n 0, 1) := by decide +kernel
theorem dX0_monthOf_2 : decode cX0_monthOf 2 = .ok (.invokestatic 24, 3) := by decide +kernel
theorem dX0_monthOf_5 : decode cX0_monthOf 5 = .ok (.invokestatic 27, 3) := by decide +kernel
theorem dX0_monthOf_8 : decode cX0_monthOf 8 = .ok (.bipush 32, 2) := by decide +kernel
theorem dX0_monthOf_10 : decode cX0_monthOf 10 = .ok (.idiv, 1) := by decide +kernel
theorem dX0_monthOf_11 : decode cX0_monthOf 11 = .ok (.ireturn, 1) := by decide +kernel
theorem dX0_dayOfMonth_0 : decode cX0_dayOfMonth 0 = .ok (.iload_n 0, 1) := by decide +kernel
theorem dX0_dayOfMonth_1 : decode cX0_dayOfMonth 1 = .ok (.iload_n 0, 1) := by decide +kernel
theorem dX0_dayOfMonth_2 : decode cX0_dayOfMonth 2 = .ok (.invokestatic 24, 3) := by decide +kernel
theorem dX0_dayOfMonth_5 : decode cX0_dayOfMonth 5 = .ok (.invokestatic 27, 3) := by decide +kernel
theorem dX0_dayOfMonth_8 : decode cX0_dayOfMonth 8 = .ok (.bipush 32, 2) := by decide +kernel
theorem dX0_dayOfMonth_10 : decode cX0_dayOfMonth 10 = .ok (.irem, 1) := by decide +kernel
theorem dX0_dayOfMonth_11 : decode cX0_dayOfMonth 11 = .ok (.ireturn, 1) := by decide +kernel
theorem dX0_dayOfWeek_0 : decode cX0_dayOfWeek 0 = .ok (.iload_n 0, 1) := by decide +kernel
theorem dX0_dayOfWeek_1 : decode cX0_dayOfWeek 1 = .ok (.iconst 4, 1) := by decide +kernel
theorem dX0_dayOfWeek_2 : decode cX0_dayOfWeek 2 = .ok (.iadd, 1) := by decide +kernel
theorem dX0_dayOfWeek_3 : decode cX0_dayOfWeek 3 = .ok (.bipush 7, 2) := by decide +kernel
theorem dX0_dayOfWeek_5 : decode cX0_dayOfWeek 5 = .ok (.irem, 1) := by decide +kernel
theorem dX0_dayOfWeek_6 : decode cX0_dayOfWeek 6 = .ok (.ireturn, 1) := by decide +kernel
theorem dX0_yearsOn_0 : decode cX0_yearsOn 0 = .ok (.iload_n 0, 1) := by decide +kernel
theorem dX0_yearsOn_1 : decode cX0_yearsOn 1 = .ok (.ldc 9, 2) := by decide +kernel
theorem dX0_yearsOn_3 : decode cX0_yearsOn 3 = .ok (.if_icmp .lt 6, 3) := by decide +kernel
theorem dX0_yearsOn_6 : decode cX0_yearsOn 6 = .ok (.ldc 9, 2) := by decide +kernel
theorem dX0_yearsOn_8 : decode cX0_yearsOn 8 = .ok (.ireturn, 1) := by decide +kernel
theorem dX0_yearsOn_9 : decode cX0_yearsOn 9 = .ok (.iload_n 0, 1) := by decide +kernel
theorem dX0_yearsOn_10 : decode cX0_yearsOn 10 = .ok (.invokestatic 24, 3) := by decide +kernel
theorem dX0_yearsOn_13 : decode cX0_yearsOn 13 = .ok (.istore_n 2, 1) := by decide +kernel
theorem dX0_yearsOn_14 : decode cX0_yearsOn 14 = .ok (.iload_n 2, 1) := by decide +kernel
theorem dX0_yearsOn_15 : decode cX0_yearsOn 15 = .ok (.iload_n 1, 1) := by decide +kernel
theorem dX0_yearsOn_16 : decode cX0_yearsOn 16 = .ok (.iadd, 1) := by decide +kernel
theorem dX0_yearsOn_17 : decode cX0_yearsOn 17 = .ok (.istore_n 3, 1) := by decide +kernel
theorem dX0_yearsOn_18 : decode cX0_yearsOn 18 = .ok (.iload_n 3, 1) := by decide +kernel
theorem dX0_yearsOn_19 : decode cX0_yearsOn 19 = .ok (.sipush 1700, 3) := by decide +kernel
theorem dX0_yearsOn_22 : decode cX0_yearsOn 22 = .ok (.if_icmp .ge 5, 3) := by decide +kernel
theorem dX0_yearsOn_25 : decode cX0_yearsOn 25 = .ok (.iconst 0, 1) := by decide +kernel
theorem dX0_yearsOn_26 : decode cX0_yearsOn 26 = .ok (.ireturn, 1) := by decide +kernel
theorem dX0_yearsOn_27 : decode cX0_yearsOn 27 = .ok (.iload_n 3, 1) := by decide +kernel
theorem dX0_yearsOn_28 : decode cX0_yearsOn 28 = .ok (.sipush 2299, 3) := by decide +kernel
theorem dX0_yearsOn_31 : decode cX0_yearsOn 31 = .ok (.if_icmp .le 6, 3) := by decide +kernel
theorem dX0_yearsOn_34 : decode cX0_yearsOn 34 = .ok (.ldc 9, 2) := by decide +kernel
theorem dX0_yearsOn_36 : decode cX0_yearsOn 36 = .ok (.ireturn, 1) := by decide +kernel
theorem dX0_yearsOn_37 : decode cX0_yearsOn 37 = .ok (.iload_n 0, 1) := by decide +kernel
theorem dX0_yearsOn_38 : decode cX0_yearsOn 38 = .ok (.iload_n 2, 1) := by decide +kernel
theorem dX0_yearsOn_39 : decode cX0_yearsOn 39 = .ok (.invokestatic 27, 3) := by decide +kernel
theorem dX0_yearsOn_42 : decode cX0_yearsOn 42 = .ok (.istore 4, 2) := by decide +kernel
theorem dX0_yearsOn_44 : decode cX0_yearsOn 44 = .ok (.iload 4, 2) := by decide +kernel
theorem dX0_yearsOn_46 : decode cX0_yearsOn 46 = .ok (.bipush 32, 2) := by decide +kernel
theorem dX0_yearsOn_48 : decode cX0_yearsOn 48 = .ok (.idiv, 1) := by decide +kernel
theorem dX0_yearsOn_49 : decode cX0_yearsOn 49 = .ok (.istore 5, 2) := by decide +kernel
theorem dX0_yearsOn_51 : decode cX0_yearsOn 51 = .ok (.iload 4, 2) := by decide +kernel
theorem dX0_yearsOn_53 : decode cX0_yearsOn 53 = .ok (.bipush 32, 2) := by decide +kernel
theorem dX0_yearsOn_55 : decode cX0_yearsOn 55 = .ok (.irem, 1) := by decide +kernel
theorem dX0_yearsOn_56 : decode cX0_yearsOn 56 = .ok (.iload_n 3, 1) := by decide +kernel
theorem dX0_yearsOn_57 : decode cX0_yearsOn 57 = .ok (.iload 5, 2) := by decide +kernel
theorem dX0_yearsOn_59 : decode cX0_yearsOn 59 = .ok (.invokestatic 16, 3) := by decide +kernel
theorem dX0_yearsOn_62 : decode cX0_yearsOn 62 = .ok (.invokestatic 30, 3) := by decide +kernel
theorem dX0_yearsOn_65 : decode cX0_yearsOn 65 = .ok (.istore 6, 2) := by decide +kernel
theorem dX0_yearsOn_67 : decode cX0_yearsOn 67 = .ok (.iload_n 3, 1) := by decide +kernel
theorem dX0_yearsOn_68 : decode cX0_yearsOn 68 = .ok (.iload 5, 2) := by decide +kernel
theorem dX0_yearsOn_70 : decode cX0_yearsOn 70 = .ok (.iload 6, 2) := by decide +kernel
theorem dX0_yearsOn_72 : decode cX0_yearsOn 72 = .ok (.invokestatic 35, 3) := by decide +kernel
theorem dX0_yearsOn_75 : decode cX0_yearsOn 75 = .ok (.ireturn, 1) := by decide +kernel
theorem dX0_newYearBehind_0 : decode cX0_newYearBehind 0 = .ok (.iload_n 0, 1) := by decide +kernel
theorem dX0_newYearBehind_1 : decode cX0_newYearBehind 1 = .ok (.ldc 9, 2) := by decide +kernel
theorem dX0_newYearBehind_3 : decode cX0_newYearBehind 3 = .ok (.if_icmp .lt 8, 3) := by decide +kernel
theorem dX0_newYearBehind_6 : decode cX0_newYearBehind 6 = .ok (.ldc 9, 2) := by decide +kernel
theorem dX0_newYearBehind_8 : decode cX0_newYearBehind 8 = .ok (.goto 12, 3) := by decide +kernel
theorem dX0_newYearBehind_11 : decode cX0_newYearBehind 11 = .ok (.iload_n 0, 1) := by decide +kernel
theorem dX0_newYearBehind_12 : decode cX0_newYearBehind 12 = .ok (.invokestatic 24, 3) := by decide +kernel
theorem dX0_newYearBehind_15 : decode cX0_newYearBehind 15 = .ok (.iconst 1, 1) := by decide +kernel
theorem dX0_newYearBehind_16 : decode cX0_newYearBehind 16 = .ok (.iadd, 1) := by decide +kernel
theorem dX0_newYearBehind_17 : decode cX0_newYearBehind 17 = .ok (.invokestatic 20, 3) := by decide +kernel
theorem dX0_newYearBehind_20 : decode cX0_newYearBehind 20 = .ok (.ireturn, 1) := by decide +kernel
theorem qw_0 : (Cond.constant RX0 9 (219145) : Cond) ∈ TBL := List.mem_of_getElem? (i := 496) (by decide +kernel)
theorem qw_1 : (Cond.fieldLink RX0 10 "ClosedUntil$Calendar" "MONTH_LENGTHS" "[I" : Cond) ∈ TBL := List.mem_of_getElem? (i := 293) (by decide +kernel)
theorem qw_2 : (Cond.code yX0_monthLength cX0_monthLength 4 (some .int) : Cond) ∈ TBL := List.mem_of_getElem? (i := 292) (by decide +kernel)
theorem qw_3 : (Cond.initialized RX0 : Cond) ∈ TBL := List.mem_of_getElem? (i := 291) (by decide +kernel)
theorem qw_4 : (Cond.methodLink RX0 16 yX0_monthLength : Cond) ∈ TBL := List.mem_of_getElem? (i := 296) (by decide +kernel)
theorem qw_5 : (Cond.static yX0_monthLength : Cond) ∈ TBL := List.mem_of_getElem? (i := 290) (by decide +kernel)
theorem qw_6 : (Cond.code yX0_startOf cX0_startOf 3 (some .int) : Cond) ∈ TBL := List.mem_of_getElem? (i := 299) (by decide +kernel)
theorem qw_7 : (Cond.methodLink RX0 20 yX0_startOf : Cond) ∈ TBL := List.mem_of_getElem? (i := 297) (by decide +kernel)
theorem qw_8 : (Cond.static yX0_startOf : Cond) ∈ TBL := List.mem_of_getElem? (i := 298) (by decide +kernel)
theorem qw_9 : (Cond.code yX0_yearOf cX0_yearOf 3 (some .int) : Cond) ∈ TBL := List.mem_of_getElem? (i := 498) (by decide +kernel)
theorem qw_10 : (Cond.methodLink RX0 24 yX0_yearOf : Cond) ∈ TBL := List.mem_of_getElem? (i := 501) (by decide +kernel)
theorem qw_11 : (Cond.static yX0_yearOf : Cond) ∈ TBL := List.mem_of_getElem? (i := 497) (by decide +kernel)
theorem qw_12 : (Cond.code yX0_monthAndDay cX0_monthAndDay 4 (some .int) : Cond) ∈ TBL := List.mem_of_getElem? (i := 504) (by decide +kernel)
theorem qw_13 : (Cond.methodLink RX0 27 yX0_monthAndDay : Cond) ∈ TBL := List.mem_of_getElem? (i := 502) (by decide +kernel)
theorem qw_14 : (Cond.static yX0_monthAndDay : Cond) ∈ TBL := List.mem_of_getElem? (i := 503) (by decide +kernel)
theorem qw_15 : (Cond.initialized "java/lang/Math" : Cond) ∈ TBL := List.mem_of_getElem? (i := 232) (by decide +kernel)
theorem qw_16 : (Cond.methodLink RX0 30 Lib.Math.min.name : Cond) ∈ TBL := List.mem_of_getElem? (i := 532) (by decide +kernel)
theorem qw_17 : (Cond.static Lib.Math.min.name : Cond) ∈ TBL := List.mem_of_getElem? (i := 231) (by decide +kernel)
theorem qw_18 : (Cond.code Lib.Math.min.name Lib.Math.min.code 2 (some .int) : Cond) ∈ TBL := List.mem_of_getElem? (i := 233) (by decide +kernel)
theorem qw_19 : (Cond.code yX0_numberOf cX0_numberOf 5 (some .int) : Cond) ∈ TBL := List.mem_of_getElem? (i := 295) (by decide +kernel)
theorem qw_20 : (Cond.methodLink RX0 35 yX0_numberOf : Cond) ∈ TBL := List.mem_of_getElem? (i := 533) (by decide +kernel)
theorem qw_21 : (Cond.static yX0_numberOf : Cond) ∈ TBL := List.mem_of_getElem? (i := 294) (by decide +kernel)
set_option maxHeartbeats 4000000 in
set_option maxRecDepth 100000 in
theorem k_X0_has (l : Launch) (dC : Nat → ClassId) (dI : Nat → Nat → Nat) (g : Gv) (a0 : Int32)  : Met l yX0_has (.code yX0_has cX0_has 1 (some .boolean) :: TBL) ({ frames := 0, cells := 0, slots := 0, locals := 0 }) (va_Pc [.int a0] (fun U => va_P (dC, dI) vwCl [] U.heap ∧ va_K (dC, dI) vwCl [] U ∧ Ev g (fun _ => False) U)) (vp_Si (fun (r : Int32) => (r = 0 ∨ r = 1))) 0 0 (fun _ => False) := by
  refine Met.ofW (cc := cX0_has) (maxL := 1) (ret := (some .boolean)) (by decide) rfl ?_
  intro p e s m args below meth c s₁ B hml hv
  obtain ⟨rfl, hP, hK, hE⟩ := hv
  have hx := B.exec
  have hb := B.bytes
  have hr := B.returns
  have hts0 := atoms_spec (ws := (.code yX0_has cX0_has 1 (some .boolean) :: TBL)) B.pre
  have hts := fun (w : Cond) (h : w ∈ TBL) => hts0 w (List.mem_cons_of_mem _ h)
  have hown : s.vm.findClass RX0 = some m.cls := findClass_of_methodNamed B.named
  have hlocks := B.notSynchronized
  have hN := hE.1
  have hS : va_S (fun _ => False) s.heap s.heap [] := va_S.rf
  replace hP : va_P (dC, dI) vwCl [] s.heap := hP
  have hl := lv_entry ([.int a0]) (n := 1) (Nat.le_of_ble_eq_true rfl)
  rw [lg_entry_eq]
  generalize (lg_sl ([.int a0]) ++ List.replicate (1 - (lg_sl ([.int a0])).length) Slot.unset).toArray = ls at hl ⊢
  have hl : lv_has ls 1 [(0, .int a0)] := hl
  have b_a0 := i32b a0
  refine lv_iload_n hx hb dX0_has_0 rfl (lv_at hl 0 rfl) ?_
  refine lv_if_lt (tgt := 14) hx hb dX0_has_1 (by decide) (fun c1_1 => ?_) (fun c1_1 => ?_)
  · have c1_1 : a0.toInt < 0 := (cv_lt rfl (by decide)).mp c1_1
    refine lv_iconst (v := 0) hx hb dX0_has_14 (by decide) ?_
    exact W.zret (v := 0) hx hb hr rfl (fun t ht hW => ⟨0, rfl, (by decide), ht⟩) (fun _ h => absurd h List.not_mem_nil) dX0_has_15
  · have c1_1 : ¬ (a0.toInt < 0) := mt (cv_lt rfl (by decide)).mpr c1_1
    refine lv_iload_n hx hb dX0_has_4 rfl (lv_at hl 0 rfl) ?_
    refine lv_ldc (v := 219145) hx hb hown (hts (.constant RX0 9 (219145)) qw_0) dX0_has_5 ?_
    refine lv_icmp_ge (tgt := 14) hx hb dX0_has_7 (by decide) (fun c7_2 => ?_) (fun c7_2 => ?_)
    · have c7_2 : 219145 ≤ a0.toInt := (cv_le (by decide) rfl).mp c7_2
      refine lv_iconst (v := 0) hx hb dX0_has_14 (by decide) ?_
      exact W.zret (v := 0) hx hb hr rfl (fun t ht hW => ⟨0, rfl, (by decide), ht⟩) (fun _ h => absurd h List.not_mem_nil) dX0_has_15
    · have c7_2 : ¬ (219145 ≤ a0.toInt) := mt (cv_le (by decide) rfl).mpr c7_2
      refine lv_iconst (v := 1) hx hb dX0_has_10 (by decide) ?_
      refine lv_goto (tgt := 15) hx hb dX0_has_11 (by decide) ?_
      exact W.zret (v := 1) hx hb hr rfl (fun t ht hW => ⟨1, rfl, (by decide), ht⟩) (fun _ h => absurd h List.not_mem_nil) dX0_has_15
set_option maxHeartbeats 4000000 in
set_option maxRecDepth 100000 in
theorem k_X0_monthLength (l : Launch) (dC : Nat → ClassId) (dI : Nat → Nat → Nat) (g : Gv) (a0 : Int32) (a1 : Int32)  : Met l yX0_monthLength (.code yX0_monthLength cX0_monthLength 4 (some .int) :: TBL) ({ frames := 0, cells := 0, slots := 0, locals := 0 }) (va_Pc [.int a0, .int a1] (fun U => va_P (dC, dI) vwCl [] U.heap ∧ va_K (dC, dI) vwCl [] U ∧ Ev g (fun _ => False) U)) (vp_Si (fun (r : Int32) => True)) 0 0 (fun _ => False) := by
  refine Met.ofW (cc := cX0_monthLength) (maxL := 4) (ret := (some .int)) (by decide) rfl ?_
  intro p e s m args below meth c s₁ B hml hv
  obtain ⟨rfl, hP, hK, hE⟩ := hv
  have hx := B.exec
  have hb := B.bytes
  have hr := B.returns
  have hts0 := atoms_spec (ws := (.code yX0_monthLength cX0_monthLength 4 (some .int) :: TBL)) B.pre
  have hts := fun (w : Cond) (h : w ∈ TBL) => hts0 w (List.mem_cons_of_mem _ h)
  have hown : s.vm.findClass RX0 = some m.cls := findClass_of_methodNamed B.named
  have hlocks := B.notSynchronized
  have hN := hE.1
  have hS : va_S (fun _ => False) s.heap s.heap [] := va_S.rf
  replace hP : va_P (dC, dI) vwCl [] s.heap := hP
  have hl := lv_entry ([.int a0, .int a1]) (n := 4) (Nat.le_of_ble_eq_true rfl)
  rw [lg_entry_eq]
  generalize (lg_sl ([.int a0, .int a1]) ++ List.replicate (4 - (lg_sl ([.int a0, .int a1])).length) Slot.unset).toArray = ls at hl ⊢
  have hl : lv_has ls 4 [(0, .int a0), (1, .int a1)] := hl
  have b_a0 := i32b a0
  have b_a1 := i32b a1
  refine lv_iload_n hx hb dX0_monthLength_0 rfl (lv_at hl 1 rfl) ?_
  refine lv_iconst (v := 1) hx hb dX0_monthLength_1 (by decide) ?_
  refine lv_icmp_lt (tgt := 13) hx hb dX0_monthLength_2 (by decide) (fun c2_1 => ?_) (fun c2_1 => ?_)
  · have c2_1 : a1.toInt < 1 := (cv_lt rfl (by decide)).mp c2_1
    refine lv_iconst (v := 0) hx hb dX0_monthLength_13 (by decide) ?_
    exact W.iret (v := 0) hx hb hr (fun t ht hW => ⟨0, rfl, trivial, ht⟩) (fun _ h => absurd h List.not_mem_nil) dX0_monthLength_14
  · have c2_1 : ¬ (a1.toInt < 1) := mt (cv_lt rfl (by decide)).mpr c2_1
    refine lv_iload_n hx hb dX0_monthLength_5 rfl (lv_at hl 1 rfl) ?_
    refine va_gets hx hb hE.2.1 hS hown (hts (.fieldLink RX0 10 "ClosedUntil$Calendar" "MONTH_LENGTHS" "[I") qw_1) (fun _ h9 => h9) dX0_monthLength_6 ?_
    refine va_tlen hx hb hE.2.2.1 hS (v := 12) (by decide) dX0_monthLength_9 ?_
    refine lv_icmp_le (tgt := 15) hx hb dX0_monthLength_10 (by decide) (fun c10_2 => ?_) (fun c10_2 => ?_)
    · have c10_2 : a1.toInt ≤ 12 := (cv_le rfl (by decide)).mp c10_2
      refine lv_iload_n hx hb dX0_monthLength_15 rfl (lv_at hl 0 rfl) ?_
      refine lv_iconst (v := 4) hx hb dX0_monthLength_16 (by decide) ?_
      refine lv_irem hx hb dX0_monthLength_17 (by decide) ?_
      refine lv_topi (fun x3 e_x3 => ?_)
      refine lv_if_ne (tgt := 40) hx hb dX0_monthLength_18 (by decide) (fun c18_4 => ?_) (fun c18_4 => ?_)
      · have c18_4 : ¬ (x3.toInt = 0) := mt (cv_eq rfl (by decide)).mpr c18_4
        refine lv_iconst (v := 0) hx hb dX0_monthLength_40 (by decide) ?_
        refine lv_istore_n (lv' := [(2, .int 0), (0, .int a0), (1, .int a1)]) hx hb dX0_monthLength_41 rfl hl (by decide) rfl (fun ls hl => ?_)
        refine va_gets hx hb hE.2.1 hS hown (hts (.fieldLink RX0 10 "ClosedUntil$Calendar" "MONTH_LENGTHS" "[I") qw_1) (fun _ h9 => h9) dX0_monthLength_42 ?_
        refine lv_iload_n hx hb dX0_monthLength_45 rfl (lv_at hl 2 rfl) ?_
        refine lv_iconst (v := 1) hx hb dX0_monthLength_46 (by decide) ?_
        refine lv_isub hx hb dX0_monthLength_47 ?_
        refine lv_topi (fun x5 e_x5 => ?_)
        try have e_x5 := ti_sub e_x5 rfl (show (1 : Int32).toInt = 1 by decide) (by omega)
        refine va_ti hx hb hE.2.2.1 hS (vinI (by omega) (by omega)) (v := .int (mlL.getD x5.toNatClampNeg 0)) rfl dX0_monthLength_48 ?_
        refine lv_topi (fun x6 e_x6 => ?_)
        refine lv_istore_n (lv' := [(3, .int x6), (2, .int 0), (0, .int a0), (1, .int a1)]) hx hb dX0_monthLength_49 rfl hl (by decide) rfl (fun ls hl => ?_)
        refine lv_iload_n hx hb dX0_monthLength_50 rfl (lv_at hl 3 rfl) ?_
        refine lv_iconst (v := 2) hx hb dX0_monthLength_51 (by decide) ?_
        refine lv_icmp_ne (tgt := 65) hx hb dX0_monthLength_52 (by decide) (fun c52_7 => ?_) (fun c52_7 => ?_)
        · have c52_7 : ¬ (a1.toInt = 2) := mt (cv_eq rfl (by decide)).mpr c52_7
          refine lv_iload_n hx hb dX0_monthLength_65 rfl (lv_at hl 0 rfl) ?_
          exact W.iret (v := x6) hx hb hr (fun t ht hW => ⟨x6, rfl, trivial, ht⟩) (fun _ h => absurd h List.not_mem_nil) dX0_monthLength_66
        · have c52_7 : a1.toInt = 2 := (cv_eq rfl (by decide)).mp c52_7
          refine lv_iload_n hx hb dX0_monthLength_55 rfl (lv_at hl 1 rfl) ?_
          refine lv_if_eq (tgt := 65) hx hb dX0_monthLength_56 (by decide) (fun c56_8 => ?_) (fun c56_8 => by exfalso; exact absurd c56_8 (by decide))
          refine lv_iload_n hx hb dX0_monthLength_65 rfl (lv_at hl 0 rfl) ?_
          exact W.iret (v := x6) hx hb hr (fun t ht hW => ⟨x6, rfl, trivial, ht⟩) (fun _ h => absurd h List.not_mem_nil) dX0_monthLength_66
      · have c18_4 : x3.toInt = 0 := (cv_eq rfl (by decide)).mp c18_4
        refine lv_iload_n hx hb dX0_monthLength_21 rfl (lv_at hl 0 rfl) ?_
        refine lv_bipush (v := 100) hx hb dX0_monthLength_22 (by decide) ?_
        refine lv_irem hx hb dX0_monthLength_24 (by decide) ?_
        refine lv_topi (fun x9 e_x9 => ?_)
        refine lv_if_ne (tgt := 36) hx hb dX0_monthLength_25 (by decide) (fun c25_10 => ?_) (fun c25_10 => ?_)
        · have c25_10 : ¬ (x9.toInt = 0) := mt (cv_eq rfl (by decide)).mpr c25_10
          refine lv_iconst (v := 1) hx hb dX0_monthLength_36 (by decide) ?_
          refine lv_goto (tgt := 41) hx hb dX0_monthLength_37 (by decide) ?_
          refine lv_istore_n (lv' := [(2, .int 1), (0, .int a0), (1, .int a1)]) hx hb dX0_monthLength_41 rfl hl (by decide) rfl (fun ls hl => ?_)
          refine va_gets hx hb hE.2.1 hS hown (hts (.fieldLink RX0 10 "ClosedUntil$Calendar" "MONTH_LENGTHS" "[I") qw_1) (fun _ h9 => h9) dX0_monthLength_42 ?_
          refine lv_iload_n hx hb dX0_monthLength_45 rfl (lv_at hl 2 rfl) ?_
          refine lv_iconst (v := 1) hx hb dX0_monthLength_46 (by decide) ?_
          refine lv_isub hx hb dX0_monthLength_47 ?_
          refine lv_topi (fun x11 e_x11 => ?_)
          try have e_x11 := ti_sub e_x11 rfl (show (1 : Int32).toInt = 1 by decide) (by omega)
          refine va_ti hx hb hE.2.2.1 hS (vinI (by omega) (by omega)) (v := .int (mlL.getD x11.toNatClampNeg 0)) rfl dX0_monthLength_48 ?_
          refine lv_topi (fun x12 e_x12 => ?_)
          refine lv_istore_n (lv' := [(3, .int x12), (2, .int 1), (0, .int a0), (1, .int a1)]) hx hb dX0_monthLength_49 rfl hl (by decide) rfl (fun ls hl => ?_)
          refine lv_iload_n hx hb dX0_monthLength_50 rfl (lv_at hl 3 rfl) ?_
          refine lv_iconst (v := 2) hx hb dX0_monthLength_51 (by decide) ?_
          refine lv_icmp_ne (tgt := 65) hx hb dX0_monthLength_52 (by decide) (fun c52_13 => ?_) (fun c52_13 => ?_)
          · have c52_13 : ¬ (a1.toInt = 2) := mt (cv_eq rfl (by decide)).mpr c52_13
            refine lv_iload_n hx hb dX0_monthLength_65 rfl (lv_at hl 0 rfl) ?_
            exact W.iret (v := x12) hx hb hr (fun t ht hW => ⟨x12, rfl, trivial, ht⟩) (fun _ h => absurd h List.not_mem_nil) dX0_monthLength_66
          · have c52_13 : a1.toInt = 2 := (cv_eq rfl (by decide)).mp c52_13
            refine lv_iload_n hx hb dX0_monthLength_55 rfl (lv_at hl 1 rfl) ?_
            refine lv_if_eq (tgt := 65) hx hb dX0_monthLength_56 (by decide) (fun c56_14 => by exfalso; exact absurd c56_14 (by decide)) (fun c56_14 => ?_)
            refine lv_iload_n hx hb dX0_monthLength_59 rfl (lv_at hl 0 rfl) ?_
            refine lv_iconst (v := 1) hx hb dX0_monthLength_60 (by decide) ?_
            refine lv_iadd hx hb dX0_monthLength_61 ?_
            refine lv_topi (fun x15 e_x15 => ?_)
            try have e_x15 := ti_add e_x15 rfl (show (1 : Int32).toInt = 1 by decide) (by omega)
            refine lv_goto (tgt := 66) hx hb dX0_monthLength_62 (by decide) ?_
            exact W.iret (v := x15) hx hb hr (fun t ht hW => ⟨x15, rfl, trivial, ht⟩) (fun _ h => absurd h List.not_mem_nil) dX0_monthLength_66
        · have c25_10 : x9.toInt = 0 := (cv_eq rfl (by decide)).mp c25_10
          refine lv_iload_n hx hb dX0_monthLength_28 rfl (lv_at hl 0 rfl) ?_
          refine lv_sipush (v := 400) hx hb dX0_monthLength_29 (by decide) ?_
          refine lv_irem hx hb dX0_monthLength_32 (by decide) ?_
          refine lv_topi (fun x16 e_x16 => ?_)
          refine lv_if_ne (tgt := 40) hx hb dX0_monthLength_33 (by decide) (fun c33_17 => ?_) (fun c33_17 => ?_)
          · have c33_17 : ¬ (x16.toInt = 0) := mt (cv_eq rfl (by decide)).mpr c33_17
            refine lv_iconst (v := 0) hx hb dX0_monthLength_40 (by decide) ?_
            refine lv_istore_n (lv' := [(2, .int 0), (0, .int a0), (1, .int a1)]) hx hb dX0_monthLength_41 rfl hl (by decide) rfl (fun ls hl => ?_)
            refine va_gets hx hb hE.2.1 hS hown (hts (.fieldLink RX0 10 "ClosedUntil$Calendar" "MONTH_LENGTHS" "[I") qw_1) (fun _ h9 => h9) dX0_monthLength_42 ?_
            refine lv_iload_n hx hb dX0_monthLength_45 rfl (lv_at hl 2 rfl) ?_
            refine lv_iconst (v := 1) hx hb dX0_monthLength_46 (by decide) ?_
            refine lv_isub hx hb dX0_monthLength_47 ?_
            refine lv_topi (fun x18 e_x18 => ?_)
            try have e_x18 := ti_sub e_x18 rfl (show (1 : Int32).toInt = 1 by decide) (by omega)
            refine va_ti hx hb hE.2.2.1 hS (vinI (by omega) (by omega)) (v := .int (mlL.getD x18.toNatClampNeg 0)) rfl dX0_monthLength_48 ?_
            refine lv_topi (fun x19 e_x19 => ?_)
            refine lv_istore_n (lv' := [(3, .int x19), (2, .int 0), (0, .int a0), (1, .int a1)]) hx hb dX0_monthLength_49 rfl hl (by decide) rfl (fun ls hl => ?_)
            refine lv_iload_n hx hb dX0_monthLength_50 rfl (lv_at hl 3 rfl) ?_
            refine lv_iconst (v := 2) hx hb dX0_monthLength_51 (by decide) ?_
            refine lv_icmp_ne (tgt := 65) hx hb dX0_monthLength_52 (by decide) (fun c52_20 => ?_) (fun c52_20 => ?_)
            · have c52_20 : ¬ (a1.toInt = 2) := mt (cv_eq rfl (by decide)).mpr c52_20
              refine lv_iload_n hx hb dX0_monthLength_65 rfl (lv_at hl 0 rfl) ?_
              exact W.iret (v := x19) hx hb hr (fun t ht hW => ⟨x19, rfl, trivial, ht⟩) (fun _ h => absurd h List.not_mem_nil) dX0_monthLength_66
            · have c52_20 : a1.toInt = 2 := (cv_eq rfl (by decide)).mp c52_20
              refine lv_iload_n hx hb dX0_monthLength_55 rfl (lv_at hl 1 rfl) ?_
              refine lv_if_eq (tgt := 65) hx hb dX0_monthLength_56 (by decide) (fun c56_21 => ?_) (fun c56_21 => by exfalso; exact absurd c56_21 (by decide))
              refine lv_iload_n hx hb dX0_monthLength_65 rfl (lv_at hl 0 rfl) ?_
              exact W.iret (v := x19) hx hb hr (fun t ht hW => ⟨x19, rfl, trivial, ht⟩) (fun _ h => absurd h List.not_mem_nil) dX0_monthLength_66
          · have c33_17 : x16.toInt = 0 := (cv_eq rfl (by decide)).mp c33_17
            refine lv_iconst (v := 1) hx hb dX0_monthLength_36 (by decide) ?_
            refine lv_goto (tgt := 41) hx hb dX0_monthLength_37 (by decide) ?_
            refine lv_istore_n (lv' := [(2, .int 1), (0, .int a0), (1, .int a1)]) hx hb dX0_monthLength_41 rfl hl (by decide) rfl (fun ls hl => ?_)
            refine va_gets hx hb hE.2.1 hS hown (hts (.fieldLink RX0 10 "ClosedUntil$Calendar" "MONTH_LENGTHS" "[I") qw_1) (fun _ h9 => h9) dX0_monthLength_42 ?_
            refine lv_iload_n hx hb dX0_monthLength_45 rfl (lv_at hl 2 rfl) ?_
            refine lv_iconst (v := 1) hx hb dX0_monthLength_46 (by decide) ?_
            refine lv_isub hx hb dX0_monthLength_47 ?_
            refine lv_topi (fun x22 e_x22 => ?_)
            try have e_x22 := ti_sub e_x22 rfl (show (1 : Int32).toInt = 1 by decide) (by omega)
            refine va_ti hx hb hE.2.2.1 hS (vinI (by omega) (by omega)) (v := .int (mlL.getD x22.toNatClampNeg 0)) rfl dX0_monthLength_48 ?_
            refine lv_topi (fun x23 e_x23 => ?_)
            refine lv_istore_n (lv' := [(3, .int x23), (2, .int 1), (0, .int a0), (1, .int a1)]) hx hb dX0_monthLength_49 rfl hl (by decide) rfl (fun ls hl => ?_)
            refine lv_iload_n hx hb dX0_monthLength_50 rfl (lv_at hl 3 rfl) ?_
            refine lv_iconst (v := 2) hx hb dX0_monthLength_51 (by decide) ?_
            refine lv_icmp_ne (tgt := 65) hx hb dX0_monthLength_52 (by decide) (fun c52_24 => ?_) (fun c52_24 => ?_)
            · have c52_24 : ¬ (a1.toInt = 2) := mt (cv_eq rfl (by decide)).mpr c52_24
              refine lv_iload_n hx hb dX0_monthLength_65 rfl (lv_at hl 0 rfl) ?_
              exact W.iret (v := x23) hx hb hr (fun t ht hW => ⟨x23, rfl, trivial, ht⟩) (fun _ h => absurd h List.not_mem_nil) dX0_monthLength_66
            · have c52_24 : a1.toInt = 2 := (cv_eq rfl (by decide)).mp c52_24
              refine lv_iload_n hx hb dX0_monthLength_55 rfl (lv_at hl 1 rfl) ?_
              refine lv_if_eq (tgt := 65) hx hb dX0_monthLength_56 (by decide) (fun c56_25 => by exfalso; exact absurd c56_25 (by decide)) (fun c56_25 => ?_)
              refine lv_iload_n hx hb dX0_monthLength_59 rfl (lv_at hl 0 rfl) ?_
              refine lv_iconst (v := 1) hx hb dX0_monthLength_60 (by decide) ?_
              refine lv_iadd hx hb dX0_monthLength_61 ?_
              refine lv_topi (fun x26 e_x26 => ?_)
              try have e_x26 := ti_add e_x26 rfl (show (1 : Int32).toInt = 1 by decide) (by omega)
              refine lv_goto (tgt := 66) hx hb dX0_monthLength_62 (by decide) ?_
              exact W.iret (v := x26) hx hb hr (fun t ht hW => ⟨x26, rfl, trivial, ht⟩) (fun _ h => absurd h List.not_mem_nil) dX0_monthLength_66
    · have c10_2 : ¬ (a1.toInt ≤ 12) := mt (cv_le rfl (by decide)).mpr c10_2
      refine lv_iconst (v := 0) hx hb dX0_monthLength_13 (by decide) ?_
      exact W.iret (v := 0) hx hb hr (fun t ht hW => ⟨0, rfl, trivial, ht⟩) (fun _ h => absurd h List.not_mem_nil) dX0_monthLength_14
set_option maxHeartbeats 4000000 in
set_option maxRecDepth 100000 in
theorem k_X0_startOf (l : Launch) (dC : Nat → ClassId) (dI : Nat → Nat → Nat) (g : Gv) (a0 : Int32)  : Met l yX0_startOf (.code yX0_startOf cX0_startOf 3 (some .int) :: TBL) ({ frames := 0, cells := 0, slots := 0, locals := 0 }) (va_Pc [.int a0] (fun U => va_P (dC, dI) vwCl [] U.heap ∧ va_K (dC, dI) vwCl [] U ∧ Ev g (fun _ => False) U)) (vp_Si (fun (r : Int32) => True)) 0 0 (fun _ => False) := by
  refine Met.ofW (cc := cX0_startOf) (maxL := 3) (ret := (some .int)) (by decide) rfl ?_
  intro p e s m args below meth c s₁ B hml hv
  obtain ⟨rfl, hP, hK, hE⟩ := hv
  have hx := B.exec
  have hb := B.bytes
  have hr := B.returns
  have hts0 := atoms_spec (ws := (.code yX0_startOf cX0_startOf 3 (some .int) :: TBL)) B.pre
  have hts := fun (w : Cond) (h : w ∈ TBL) => hts0 w (List.mem_cons_of_mem _ h)
  have hown : s.vm.findClass RX0 = some m.cls := findClass_of_methodNamed B.named
  have hlocks := B.notSynchronized
  have hN := hE.1
  have hS : va_S (fun _ => False) s.heap s.heap [] := va_S.rf
  replace hP : va_P (dC, dI) vwCl [] s.heap := hP
  have hl := lv_entry ([.int a0]) (n := 3) (Nat.le_of_ble_eq_true rfl)
  rw [lg_entry_eq]
  generalize (lg_sl ([.int a0]) ++ List.replicate (3 - (lg_sl ([.int a0])).length) Slot.unset).toArray = ls at hl ⊢
  have hl : lv_has ls 3 [(0, .int a0)] := hl
  have b_a0 := i32b a0
  refine lv_iload_n hx hb dX0_startOf_0 rfl (lv_at hl 0 rfl) ?_
  refine lv_iconst (v := 1) hx hb dX0_startOf_1 (by decide) ?_
  refine lv_isub hx hb dX0_startOf_2 ?_
  refine lv_topi (fun x1 e_x1 => ?_)
  try have e_x1 := ti_sub e_x1 rfl (show (1 : Int32).toInt = 1 by decide) (by omega)
  refine lv_istore_n (lv' := [(1, .int x1), (0, .int a0)]) hx hb dX0_startOf_3 rfl hl (by decide) rfl (fun ls hl => ?_)
  refine lv_iload_n hx hb dX0_startOf_4 rfl (lv_at hl 0 rfl) ?_
  refine lv_iconst (v := 4) hx hb dX0_startOf_5 (by decide) ?_
  refine lv_idiv hx hb dX0_startOf_6 (by decide) ?_
  refine lv_topi (fun x2 e_x2 => ?_)
  refine lv_iload_n hx hb dX0_startOf_7 rfl (lv_at hl 0 rfl) ?_
  refine lv_bipush (v := 100) hx hb dX0_startOf_8 (by decide) ?_
  refine lv_idiv hx hb dX0_startOf_10 (by decide) ?_
  refine lv_topi (fun x3 e_x3 => ?_)
  refine lv_isub hx hb dX0_startOf_11 ?_
  refine lv_topi (fun x4 e_x4 => ?_)
  try have e_x4 := ti_sub e_x4 rfl rfl (by omega)
  refine lv_iload_n hx hb dX0_startOf_12 rfl (lv_at hl 0 rfl) ?_
  refine lv_sipush (v := 400) hx hb dX0_startOf_13 (by decide) ?_
  refine lv_idiv hx hb dX0_startOf_16 (by decide) ?_
  refine lv_topi (fun x5 e_x5 => ?_)
  refine lv_iadd hx hb dX0_startOf_17 ?_
  refine lv_topi (fun x6 e_x6 => ?_)
  try have e_x6 := ti_add e_x6 rfl rfl (by omega)
  refine lv_sipush (v := 412) hx hb dX0_startOf_18 (by decide) ?_
  refine lv_isub hx hb dX0_startOf_21 ?_
  refine lv_topi (fun x7 e_x7 => ?_)
  try have e_x7 := ti_sub e_x7 rfl (show (412 : Int32).toInt = 412 by decide) (by omega)
  refine lv_istore_n (lv' := [(2, .int x7), (1, .int x1), (0, .int a0)]) hx hb dX0_startOf_22 rfl hl (by decide) rfl (fun ls hl => ?_)
  refine lv_sipush (v := 365) hx hb dX0_startOf_23 (by decide) ?_
  refine lv_iload_n hx hb dX0_startOf_26 rfl (lv_at hl 2 rfl) ?_
  refine lv_sipush (v := 1700) hx hb dX0_startOf_27 (by decide) ?_
  refine lv_isub hx hb dX0_startOf_30 ?_
  refine lv_topi (fun x8 e_x8 => ?_)
  try have e_x8 := ti_sub e_x8 rfl (show (1700 : Int32).toInt = 1700 by decide) (by omega)
  refine lv_imul hx hb dX0_startOf_31 ?_
  refine lv_topi (fun x9 e_x9 => ?_)
  try have e_x9 := ti_mul e_x9 (show (365 : Int32).toInt = 365 by decide) rfl (by omega)
  refine lv_iload_n hx hb dX0_startOf_32 rfl (lv_at hl 0 rfl) ?_
  refine lv_iadd hx hb dX0_startOf_33 ?_
  refine lv_topi (fun x10 e_x10 => ?_)
  try have e_x10 := ti_add e_x10 rfl rfl (by omega)
  exact W.iret (v := x10) hx hb hr (fun t ht hW => ⟨x10, rfl, trivial, ht⟩) (fun _ h => absurd h List.not_mem_nil) dX0_startOf_34
set_option maxHeartbeats 4000000 in
set_option maxRecDepth 100000 in
theorem k_X0_numberOf (l : Launch) (dC : Nat → ClassId) (dI : Nat → Nat → Nat) (g : Gv) (a0 : Int32) (a1 : Int32) (a2 : Int32)  : Met l yX0_numberOf (.code yX0_numberOf cX0_numberOf 5 (some .int) :: TBL) ({ frames := 1, cells := 0, slots := 0, locals := 23 }) (va_Pc [.int a0, .int a1, .int a2] (fun U => va_P (dC, dI) vwCl [] U.heap ∧ va_K (dC, dI) vwCl [] U ∧ Ev g (fun _ => False) U)) (vp_Si (fun (r : Int32) => True)) 0 0 (fun _ => False) := by
  refine Met.ofW (cc := cX0_numberOf) (maxL := 5) (ret := (some .int)) (by decide) rfl ?_
  intro p e s m args below meth c s₁ B hml hv
  obtain ⟨rfl, hP, hK, hE⟩ := hv
  have hx := B.exec
  have hb := B.bytes
  have hr := B.returns
  have hts0 := atoms_spec (ws := (.code yX0_numberOf cX0_numberOf 5 (some .int) :: TBL)) B.pre
  have hts := fun (w : Cond) (h : w ∈ TBL) => hts0 w (List.mem_cons_of_mem _ h)
  have hown : s.vm.findClass RX0 = some m.cls := findClass_of_methodNamed B.named
  have hlocks := B.notSynchronized
  have hN := hE.1
  have hS : va_S (fun _ => False) s.heap s.heap [] := va_S.rf
  replace hP : va_P (dC, dI) vwCl [] s.heap := hP
  have hl := lv_entry ([.int a0, .int a1, .int a2]) (n := 5) (Nat.le_of_ble_eq_true rfl)
  rw [lg_entry_eq]
  generalize (lg_sl ([.int a0, .int a1, .int a2]) ++ List.replicate (5 - (lg_sl ([.int a0, .int a1, .int a2])).length) Slot.unset).toArray = ls at hl ⊢
  have hl : lv_has ls 5 [(0, .int a0), (1, .int a1), (2, .int a2)] := hl
  have b_a0 := i32b a0
  have b_a1 := i32b a1
  have b_a2 := i32b a2
  refine lv_iload_n hx hb dX0_numberOf_0 rfl (lv_at hl 0 rfl) ?_
  refine lv_sipush (v := 1700) hx hb dX0_numberOf_1 (by decide) ?_
  refine lv_icmp_lt (tgt := 14) hx hb dX0_numberOf_4 (by decide) (fun c4_1 => ?_) (fun c4_1 => ?_)
  · have c4_1 : a0.toInt < 1700 := (cv_lt rfl (by decide)).mp c4_1
    refine lv_iconst (v := (-1)) hx hb dX0_numberOf_14 (by decide) ?_
    exact W.iret (v := (-1)) hx hb hr (fun t ht hW => ⟨(-1), rfl, trivial, ht⟩) (fun _ h => absurd h List.not_mem_nil) dX0_numberOf_15
  · have c4_1 : ¬ (a0.toInt < 1700) := mt (cv_lt rfl (by decide)).mpr c4_1
    refine lv_iload_n hx hb dX0_numberOf_7 rfl (lv_at hl 0 rfl) ?_
    refine lv_sipush (v := 2299) hx hb dX0_numberOf_8 (by decide) ?_
    refine lv_icmp_le (tgt := 16) hx hb dX0_numberOf_11 (by decide) (fun c11_2 => ?_) (fun c11_2 => ?_)
    · have c11_2 : a0.toInt ≤ 2299 := (cv_le rfl (by decide)).mp c11_2
      refine lv_iload_n hx hb dX0_numberOf_16 rfl (lv_at hl 2 rfl) ?_
      refine lv_iconst (v := 1) hx hb dX0_numberOf_17 (by decide) ?_
      refine lv_icmp_lt (tgt := 30) hx hb dX0_numberOf_18 (by decide) (fun c18_3 => ?_) (fun c18_3 => ?_)
      · have c18_3 : a2.toInt < 1 := (cv_lt rfl (by decide)).mp c18_3
        refine lv_iconst (v := (-1)) hx hb dX0_numberOf_30 (by decide) ?_
        exact W.iret (v := (-1)) hx hb hr (fun t ht hW => ⟨(-1), rfl, trivial, ht⟩) (fun _ h => absurd h List.not_mem_nil) dX0_numberOf_31
      · have c18_3 : ¬ (a2.toInt < 1) := mt (cv_lt rfl (by decide)).mpr c18_3
        refine lv_iload_n hx hb dX0_numberOf_21 rfl (lv_at hl 2 rfl) ?_
        refine lv_iload_n hx hb dX0_numberOf_22 rfl (lv_at hl 0 rfl) ?_
        refine lv_iload_n hx hb dX0_numberOf_23 rfl (lv_at hl 1 rfl) ?_
        have hPc := hP
        have hKc := hK
        refine vp_callSi ((va_runS (As := [.int a0, .int a1]) (rest := [.int a2]) ⟨hx, hb, hml, hown, hts⟩ (k_X0_monthLength l dC dI g (a0) (a1) ) (va_cwS 2 hts (gwS qw_4 qw_5 qw_3 qw_2) rfl rfl rfl (by decide +kernel) ⟨Nat.le_of_ble_eq_true rfl, Nat.le_of_ble_eq_true rfl⟩) ⟨fun a U g9 mk q => ⟨q.1, q.2.1, va_K.moved (u := U) (U := U.calling g9 mk a) (Vm.Alike.refl U.vm) q.2.2.1, Ev.bl q.2.2.2⟩, fun U hU hW => ⟨rfl, atB hU hPc, va_K.moved hW.alike hKc, hE.go hS (fun _ h => h.elim) hU hW⟩⟩ rfl rfl hl.1 rfl (lv_room (Nat.le_of_ble_eq_true rfl)) dX0_numberOf_24 ⟨Nat.le_of_ble_eq_true rfl, Nat.le_of_ble_eq_true rfl⟩)).run (fun r4 h_r4 => ?_)
        have b_r4 := i32b r4
        refine lv_icmp_le (tgt := 32) hx hb dX0_numberOf_27 (by decide) (fun c27_5 => ?_) (fun c27_5 => ?_)
        · have c27_5 : a2.toInt ≤ r4.toInt := (cv_le rfl rfl).mp c27_5
          refine lv_iload_n hx hb dX0_numberOf_32 rfl (lv_at hl 0 rfl) ?_
          have hPc := hP
          have hKc := hK
          refine vp_callSi ((va_runS (As := [.int a0]) (rest := []) ⟨hx, hb, hml, hown, hts⟩ (k_X0_startOf l dC dI g (a0) ) (va_cwS 1 hts (gwS qw_7 qw_8 qw_3 qw_6) rfl rfl rfl (by decide +kernel) ⟨Nat.le_of_ble_eq_true rfl, Nat.le_of_ble_eq_true rfl⟩) ⟨fun a U g9 mk q => ⟨q.1, q.2.1, va_K.moved (u := U) (U := U.calling g9 mk a) (Vm.Alike.refl U.vm) q.2.2.1, Ev.bl q.2.2.2⟩, fun U hU hW => ⟨rfl, atB hU hPc, va_K.moved hW.alike hKc, hE.go hS (fun _ h => h.elim) hU hW⟩⟩ rfl rfl hl.1 rfl (lv_room (Nat.le_of_ble_eq_true rfl)) dX0_numberOf_33 ⟨Nat.le_of_ble_eq_true rfl, Nat.le_of_ble_eq_true rfl⟩)).run (fun r6 h_r6 => ?_)
          have b_r6 := i32b r6
          refine lv_istore_n (lv' := [(3, .int r6), (0, .int a0), (1, .int a1), (2, .int a2)]) hx hb dX0_numberOf_36 rfl hl (by decide) rfl (fun ls hl => ?_)
          refine lv_iconst (v := 1) hx hb dX0_numberOf_37 (by decide) ?_
          refine lv_istore (lv' := [(4, .int 1), (3, .int r6), (0, .int a0), (1, .int a1), (2, .int a2)]) hx hb dX0_numberOf_38 hl (by decide) rfl (fun ls hl => ?_)
          have qc1 : (1 : Int32).toInt = 1 := by decide
          refine wloop (fun n H locs ls => ∃ (l40_4 : Int32) (l40_3 : Int32), n = (2147483647 - l40_4.toInt).toNat ∧ (1 ≤ l40_4.toInt) ∧ lv_has ls 5 [(4, .int l40_4), (3, .int l40_3), (0, .int a0), (1, .int a1), (2, .int a2)] ∧ H = s.heap ∧ locs = []) ?_ ((2147483647 - (1 : Int32).toInt).toNat) _ _ _ ⟨1, r6, rfl, (by omega), lv_sub hl [0, 1, 2, 3, 4] rfl, rfl, rfl⟩
          intro n40 H locs ls hI ih40
          obtain ⟨l40_4, l40_3, hn40, g_l40_4, hl, rfl, rfl⟩ := hI
          have b_l40_4 := i32b l40_4
          have b_l40_3 := i32b l40_3
          refine lv_iload hx hb dX0_numberOf_40 (lv_at hl 0 rfl) ?_
          refine lv_iload_n hx hb dX0_numberOf_42 rfl (lv_at hl 3 rfl) ?_
          refine lv_icmp_ge (tgt := 61) hx hb dX0_numberOf_43 (by decide) (fun c43_7 => ?_) (fun c43_7 => ?_)
          · have c43_7 : a1.toInt ≤ l40_4.toInt := (cv_le rfl rfl).mp c43_7
            refine lv_iload_n hx hb dX0_numberOf_61 rfl (lv_at hl 1 rfl) ?_
            refine lv_iload_n hx hb dX0_numberOf_62 rfl (lv_at hl 4 rfl) ?_
            refine lv_iadd hx hb dX0_numberOf_63 ?_
            refine lv_topi (fun x8 e_x8 => ?_)
            try have e_x8 := ti_add e_x8 rfl rfl (by omega)
            refine lv_iconst (v := 1) hx hb dX0_numberOf_64 (by decide) ?_
            refine lv_isub hx hb dX0_numberOf_65 ?_
            refine lv_topi (fun x9 e_x9 => ?_)
            try have e_x9 := ti_sub e_x9 rfl (show (1 : Int32).toInt = 1 by decide) (by omega)
            exact W.iret (v := x9) hx hb hr (fun t ht hW => ⟨x9, rfl, trivial, ht⟩) (fun _ h => absurd h List.not_mem_nil) dX0_numberOf_66
          · have c43_7 : ¬ (a1.toInt ≤ l40_4.toInt) := mt (cv_le rfl rfl).mpr c43_7
            refine lv_iload_n hx hb dX0_numberOf_46 rfl (lv_at hl 1 rfl) ?_
            refine lv_iload_n hx hb dX0_numberOf_47 rfl (lv_at hl 2 rfl) ?_
            refine lv_iload hx hb dX0_numberOf_48 (lv_at hl 0 rfl) ?_
            have hPc := hP
            have hKc := hK
            refine vp_callSi ((va_runS (As := [.int a0, .int l40_4]) (rest := [.int l40_3]) ⟨hx, hb, hml, hown, hts⟩ (k_X0_monthLength l dC dI g (a0) (l40_4) ) (va_cwS 2 hts (gwS qw_4 qw_5 qw_3 qw_2) rfl rfl rfl (by decide +kernel) ⟨Nat.le_of_ble_eq_true rfl, Nat.le_of_ble_eq_true rfl⟩) ⟨fun a U g9 mk q => ⟨q.1, q.2.1, va_K.moved (u := U) (U := U.calling g9 mk a) (Vm.Alike.refl U.vm) q.2.2.1, Ev.bl q.2.2.2⟩, fun U hU hW => ⟨rfl, atB hU hPc, va_K.moved hW.alike hKc, hE.go hS (fun _ h => h.elim) hU hW⟩⟩ rfl rfl hl.1 rfl (lv_room (Nat.le_of_ble_eq_true rfl)) dX0_numberOf_50 ⟨Nat.le_of_ble_eq_true rfl, Nat.le_of_ble_eq_true rfl⟩)).run (fun r10 h_r10 => ?_)
            have b_r10 := i32b r10
            refine lv_iadd hx hb dX0_numberOf_53 ?_
            refine lv_topi (fun x11 e_x11 => ?_)
            try have e_x11 := ti_add e_x11 rfl rfl (by omega)
            refine lv_istore_n (lv' := [(3, .int x11), (4, .int l40_4), (0, .int a0), (1, .int a1), (2, .int a2)]) hx hb dX0_numberOf_54 rfl hl (by decide) rfl (fun ls hl => ?_)
            obtain ⟨x12, e_x12⟩ : ∃ y : Int32, y = l40_4 + 1 := ⟨_, rfl⟩
            refine lv_iinc (v := x12) (lv' := [(4, .int x12), (3, .int x11), (0, .int a0), (1, .int a1), (2, .int a2)]) hx hb dX0_numberOf_55 hl (k := 1) rfl (by rw [e_x12]; rfl) (by decide) rfl (fun ls hl => ?_)
            try have e_x12 := ti_add e_x12 rfl (show (1 : Int32).toInt = 1 by decide) (by omega)
            refine lv_goto (tgt := 40) hx hb dX0_numberOf_58 (by decide) ?_
            exact ih40 ((2147483647 - x12.toInt).toNat) _ _ _ (by omega) ⟨x12, x11, rfl, (by omega), lv_sub hl [0, 1, 2, 3, 4] rfl, rfl, rfl⟩
        · have c27_5 : ¬ (a2.toInt ≤ r4.toInt) := mt (cv_le rfl rfl).mpr c27_5
          refine lv_iconst (v := (-1)) hx hb dX0_numberOf_30 (by decide) ?_
          exact W.iret (v := (-1)) hx hb hr (fun t ht hW => ⟨(-1), rfl, trivial, ht⟩) (fun _ h => absurd h List.not_mem_nil) dX0_numberOf_31
    · have c11_2 : ¬ (a0.toInt ≤ 2299) := mt (cv_le rfl (by decide)).mpr c11_2
      refine lv_iconst (v := (-1)) hx hb dX0_numberOf_14 (by decide) ?_
      exact W.iret (v := (-1)) hx hb hr (fun t ht hW => ⟨(-1), rfl, trivial, ht⟩) (fun _ h => absurd h List.not_mem_nil) dX0_numberOf_15
set_option maxHeartbeats 4000000 in
set_option maxRecDepth 100000 in
theorem k_X0_yearOf (l : Launch) (dC : Nat → ClassId) (dI : Nat → Nat → Nat) (g : Gv) (a0 : Int32)  : Met l yX0_yearOf (.code yX0_yearOf cX0_yearOf 3 (some .int) :: TBL) ({ frames := 1, cells := 0, slots := 0, locals := 22 }) (va_Pc [.int a0] (fun U => va_P (dC, dI) vwCl [] U.heap ∧ va_K (dC, dI) vwCl [] U ∧ Ev g (fun _ => False) U)) (vp_Si (fun (r : Int32) => True)) 0 0 (fun _ => False) := by
  refine Met.ofW (cc := cX0_yearOf) (maxL := 3) (ret := (some .int)) (by decide) rfl ?_
  intro p e s m args below meth c s₁ B hml hv
  obtain ⟨rfl, hP, hK, hE⟩ := hv
  have hx := B.exec
  have hb := B.bytes
  have hr := B.returns
  have hts0 := atoms_spec (ws := (.code yX0_yearOf cX0_yearOf 3 (some .int) :: TBL)) B.pre
  have hts := fun (w : Cond) (h : w ∈ TBL) => hts0 w (List.mem_cons_of_mem _ h)
  have hown : s.vm.findClass RX0 = some m.cls := findClass_of_methodNamed B.named
  have hlocks := B.notSynchronized
  have hN := hE.1
  have hS : va_S (fun _ => False) s.heap s.heap [] := va_S.rf
  replace hP : va_P (dC, dI) vwCl [] s.heap := hP
  have hl := lv_entry ([.int a0]) (n := 3) (Nat.le_of_ble_eq_true rfl)
  rw [lg_entry_eq]
  generalize (lg_sl ([.int a0]) ++ List.replicate (3 - (lg_sl ([.int a0])).length) Slot.unset).toArray = ls at hl ⊢
  have hl : lv_has ls 3 [(0, .int a0)] := hl
  have b_a0 := i32b a0
  refine lv_sipush (v := 1700) hx hb dX0_yearOf_0 (by decide) ?_
  refine lv_iload_n hx hb dX0_yearOf_3 rfl (lv_at hl 0 rfl) ?_
  refine lv_sipush (v := 366) hx hb dX0_yearOf_4 (by decide) ?_
  refine lv_idiv hx hb dX0_yearOf_7 (by decide) ?_
  refine lv_topi (fun x1 e_x1 => ?_)
  refine lv_iadd hx hb dX0_yearOf_8 ?_
  refine lv_topi (fun x2 e_x2 => ?_)
  try have e_x2 := ti_add e_x2 (show (1700 : Int32).toInt = 1700 by decide) rfl (by omega)
  refine lv_istore_n (lv' := [(1, .int x2), (0, .int a0)]) hx hb dX0_yearOf_9 rfl hl (by decide) rfl (fun ls hl => ?_)
  refine lv_iconst (v := 0) hx hb dX0_yearOf_10 (by decide) ?_
  refine lv_istore_n (lv' := [(2, .int 0), (1, .int x2), (0, .int a0)]) hx hb dX0_yearOf_11 rfl hl (by decide) rfl (fun ls hl => ?_)
  have qc0 : (0 : Int32).toInt = 0 := by decide
  refine wloop (fun n H locs ls => ∃ (l12_2 : Int32) (l12_1 : Int32), n = (2147483647 - l12_2.toInt).toNat ∧ (0 ≤ l12_2.toInt) ∧ lv_has ls 3 [(2, .int l12_2), (1, .int l12_1), (0, .int a0)] ∧ H = s.heap ∧ locs = []) ?_ ((2147483647 - (0 : Int32).toInt).toNat) _ _ _ ⟨0, x2, rfl, (by omega), lv_sub hl [0, 1, 2] rfl, rfl, rfl⟩
  intro n12 H locs ls hI ih12
  obtain ⟨l12_2, l12_1, hn12, g_l12_2, hl, rfl, rfl⟩ := hI
  have b_l12_2 := i32b l12_2
  have b_l12_1 := i32b l12_1
  refine lv_iload_n hx hb dX0_yearOf_12 rfl (lv_at hl 0 rfl) ?_
  refine lv_iconst (v := 2) hx hb dX0_yearOf_13 (by decide) ?_
  refine lv_icmp_ge (tgt := 36) hx hb dX0_yearOf_14 (by decide) (fun c14_3 => ?_) (fun c14_3 => ?_)
  · have c14_3 : 2 ≤ l12_2.toInt := (cv_le (by decide) rfl).mp c14_3
    refine lv_iload_n hx hb dX0_yearOf_36 rfl (lv_at hl 1 rfl) ?_
    exact W.iret (v := l12_1) hx hb hr (fun t ht hW => ⟨l12_1, rfl, trivial, ht⟩) (fun _ h => absurd h List.not_mem_nil) dX0_yearOf_37
  · have c14_3 : ¬ (2 ≤ l12_2.toInt) := mt (cv_le (by decide) rfl).mpr c14_3
    refine lv_iload_n hx hb dX0_yearOf_17 rfl (lv_at hl 1 rfl) ?_
    refine lv_iconst (v := 1) hx hb dX0_yearOf_18 (by decide) ?_
    refine lv_iadd hx hb dX0_yearOf_19 ?_
    refine lv_topi (fun x4 e_x4 => ?_)
    try have e_x4 := ti_add e_x4 rfl (show (1 : Int32).toInt = 1 by decide) (by omega)
    have hPc := hP
    have hKc := hK
    refine vp_callSi ((va_runS (As := [.int x4]) (rest := []) ⟨hx, hb, hml, hown, hts⟩ (k_X0_startOf l dC dI g (x4) ) (va_cwS 1 hts (gwS qw_7 qw_8 qw_3 qw_6) rfl rfl rfl (by decide +kernel) ⟨Nat.le_of_ble_eq_true rfl, Nat.le_of_ble_eq_true rfl⟩) ⟨fun a U g9 mk q => ⟨q.1, q.2.1, va_K.moved (u := U) (U := U.calling g9 mk a) (Vm.Alike.refl U.vm) q.2.2.1, Ev.bl q.2.2.2⟩, fun U hU hW => ⟨rfl, atB hU hPc, va_K.moved hW.alike hKc, hE.go hS (fun _ h => h.elim) hU hW⟩⟩ rfl rfl hl.1 rfl (lv_room (Nat.le_of_ble_eq_true rfl)) dX0_yearOf_20 ⟨Nat.le_of_ble_eq_true rfl, Nat.le_of_ble_eq_true rfl⟩)).run (fun r5 h_r5 => ?_)
    have b_r5 := i32b r5
    refine lv_iload_n hx hb dX0_yearOf_23 rfl (lv_at hl 2 rfl) ?_
    refine lv_icmp_gt (tgt := 36) hx hb dX0_yearOf_24 (by decide) (fun c24_6 => ?_) (fun c24_6 => ?_)
    · have c24_6 : a0.toInt < r5.toInt := (cv_lt rfl rfl).mp c24_6
      refine lv_iload_n hx hb dX0_yearOf_36 rfl (lv_at hl 1 rfl) ?_
      exact W.iret (v := l12_1) hx hb hr (fun t ht hW => ⟨l12_1, rfl, trivial, ht⟩) (fun _ h => absurd h List.not_mem_nil) dX0_yearOf_37
    · have c24_6 : ¬ (a0.toInt < r5.toInt) := mt (cv_lt rfl rfl).mpr c24_6
      obtain ⟨x7, e_x7⟩ : ∃ y : Int32, y = l12_1 + 1 := ⟨_, rfl⟩
      refine lv_iinc (v := x7) (lv' := [(1, .int x7), (2, .int l12_2), (0, .int a0)]) hx hb dX0_yearOf_27 hl (k := 1) rfl (by rw [e_x7]; rfl) (by decide) rfl (fun ls hl => ?_)
      try have e_x7 := ti_add e_x7 rfl (show (1 : Int32).toInt = 1 by decide) (by omega)
      obtain ⟨x8, e_x8⟩ : ∃ y : Int32, y = l12_2 + 1 := ⟨_, rfl⟩
      refine lv_iinc (v := x8) (lv' := [(2, .int x8), (1, .int x7), (0, .int a0)]) hx hb dX0_yearOf_30 hl (k := 1) rfl (by rw [e_x8]; rfl) (by decide) rfl (fun ls hl => ?_)
      try have e_x8 := ti_add e_x8 rfl (show (1 : Int32).toInt = 1 by decide) (by omega)
      refine lv_goto (tgt := 12) hx hb dX0_yearOf_33 (by decide) ?_
      exact ih12 ((2147483647 - x8.toInt).toNat) _ _ _ (by omega) ⟨x8, x7, rfl, (by omega), lv_sub hl [0, 1, 2] rfl, rfl, rfl⟩
set_option maxHeartbeats 4000000 in
set_option maxRecDepth 100000 in
theorem k_X0_monthAndDay (l : Launch) (dC : Nat → ClassId) (dI : Nat → Nat → Nat) (g : Gv) (a0 : Int32) (a1 : Int32)  : Met l yX0_monthAndDay (.code yX0_monthAndDay cX0_monthAndDay 4 (some .int) :: TBL) ({ frames := 1, cells := 0, slots := 0, locals := 23 }) (va_Pc [.int a0, .int a1] (fun U => va_P (dC, dI) vwCl [] U.heap ∧ va_K (dC, dI) vwCl [] U ∧ Ev g (fun _ => False) U)) (vp_Si (fun (r : Int32) => True)) 0 0 (fun _ => False) := by
  refine Met.ofW (cc := cX0_monthAndDay) (maxL := 4) (ret := (some .int)) (by decide) rfl ?_
  intro p e s m args below meth c s₁ B hml hv
  obtain ⟨rfl, hP, hK, hE⟩ := hv
  have hx := B.exec
  have hb := B.bytes
  have hr := B.returns
  have hts0 := atoms_spec (ws := (.code yX0_monthAndDay cX0_monthAndDay 4 (some .int) :: TBL)) B.pre
  have hts := fun (w : Cond) (h : w ∈ TBL) => hts0 w (List.mem_cons_of_mem _ h)
  have hown : s.vm.findClass RX0 = some m.cls := findClass_of_methodNamed B.named
  have hlocks := B.notSynchronized
  have hN := hE.1
  have hS : va_S (fun _ => False) s.heap s.heap [] := va_S.rf
  replace hP : va_P (dC, dI) vwCl [] s.heap := hP
  have hl := lv_entry ([.int a0, .int a1]) (n := 4) (Nat.le_of_ble_eq_true rfl)
  rw [lg_entry_eq]
  generalize (lg_sl ([.int a0, .int a1]) ++ List.replicate (4 - (lg_sl ([.int a0, .int a1])).length) Slot.unset).toArray = ls at hl ⊢
  have hl : lv_has ls 4 [(0, .int a0), (1, .int a1)] := hl
  have b_a0 := i32b a0
  have b_a1 := i32b a1
  refine lv_iload_n hx hb dX0_monthAndDay_0 rfl (lv_at hl 0 rfl) ?_
  refine lv_iload_n hx hb dX0_monthAndDay_1 rfl (lv_at hl 1 rfl) ?_
  have hPc := hP
  have hKc := hK
  refine vp_callSi ((va_runS (As := [.int a1]) (rest := [.int a0]) ⟨hx, hb, hml, hown, hts⟩ (k_X0_startOf l dC dI g (a1) ) (va_cwS 1 hts (gwS qw_7 qw_8 qw_3 qw_6) rfl rfl rfl (by decide +kernel) ⟨Nat.le_of_ble_eq_true rfl, Nat.le_of_ble_eq_true rfl⟩) ⟨fun a U g9 mk q => ⟨q.1, q.2.1, va_K.moved (u := U) (U := U.calling g9 mk a) (Vm.Alike.refl U.vm) q.2.2.1, Ev.bl q.2.2.2⟩, fun U hU hW => ⟨rfl, atB hU hPc, va_K.moved hW.alike hKc, hE.go hS (fun _ h => h.elim) hU hW⟩⟩ rfl rfl hl.1 rfl (lv_room (Nat.le_of_ble_eq_true rfl)) dX0_monthAndDay_2 ⟨Nat.le_of_ble_eq_true rfl, Nat.le_of_ble_eq_true rfl⟩)).run (fun r1 h_r1 => ?_)
  have b_r1 := i32b r1
  refine lv_isub hx hb dX0_monthAndDay_5 ?_
  refine lv_topi (fun x2 e_x2 => ?_)
  try have e_x2 := ti_sub e_x2 rfl rfl (by omega)
  refine lv_istore_n (lv' := [(2, .int x2), (0, .int a0), (1, .int a1)]) hx hb dX0_monthAndDay_6 rfl hl (by decide) rfl (fun ls hl => ?_)
  refine lv_iconst (v := 1) hx hb dX0_monthAndDay_7 (by decide) ?_
  refine lv_istore_n (lv' := [(3, .int 1), (2, .int x2), (0, .int a0), (1, .int a1)]) hx hb dX0_monthAndDay_8 rfl hl (by decide) rfl (fun ls hl => ?_)
  have qc1 : (1 : Int32).toInt = 1 := by decide
  refine wloop (fun n H locs ls => ∃ (l9_3 : Int32) (l9_2 : Int32), n = (2147483647 - l9_3.toInt).toNat ∧ (1 ≤ l9_3.toInt) ∧ lv_has ls 4 [(3, .int l9_3), (2, .int l9_2), (0, .int a0), (1, .int a1)] ∧ H = s.heap ∧ locs = []) ?_ ((2147483647 - (1 : Int32).toInt).toNat) _ _ _ ⟨1, x2, rfl, (by omega), lv_sub hl [0, 1, 2, 3] rfl, rfl, rfl⟩
  intro n9 H locs ls hI ih9
  obtain ⟨l9_3, l9_2, hn9, g_l9_3, hl, rfl, rfl⟩ := hI
  have b_l9_3 := i32b l9_3
  have b_l9_2 := i32b l9_2
  refine lv_iload_n hx hb dX0_monthAndDay_9 rfl (lv_at hl 0 rfl) ?_
  refine va_gets hx hb hE.2.1 hS hown (hts (.fieldLink RX0 10 "ClosedUntil$Calendar" "MONTH_LENGTHS" "[I") qw_1) (fun _ h9 => h9) dX0_monthAndDay_10 ?_
  refine va_tlen hx hb hE.2.2.1 hS (v := 12) (by decide) dX0_monthAndDay_13 ?_
  refine lv_icmp_ge (tgt := 40) hx hb dX0_monthAndDay_14 (by decide) (fun c14_3 => ?_) (fun c14_3 => ?_)
  · have c14_3 : 12 ≤ l9_3.toInt := (cv_le (by decide) rfl).mp c14_3
    refine lv_iload_n hx hb dX0_monthAndDay_40 rfl (lv_at hl 0 rfl) ?_
    refine lv_bipush (v := 32) hx hb dX0_monthAndDay_41 (by decide) ?_
    refine lv_imul hx hb dX0_monthAndDay_43 ?_
    refine lv_topi (fun x4 e_x4 => ?_)
    try have e_x4 := ti_mul e_x4 rfl (show (32 : Int32).toInt = 32 by decide) (by omega)
    refine lv_iload_n hx hb dX0_monthAndDay_44 rfl (lv_at hl 1 rfl) ?_
    refine lv_iadd hx hb dX0_monthAndDay_45 ?_
    refine lv_topi (fun x5 e_x5 => ?_)
    try have e_x5 := ti_add e_x5 rfl rfl (by omega)
    refine lv_iconst (v := 1) hx hb dX0_monthAndDay_46 (by decide) ?_
    refine lv_iadd hx hb dX0_monthAndDay_47 ?_
    refine lv_topi (fun x6 e_x6 => ?_)
    try have e_x6 := ti_add e_x6 rfl (show (1 : Int32).toInt = 1 by decide) (by omega)
    exact W.iret (v := x6) hx hb hr (fun t ht hW => ⟨x6, rfl, trivial, ht⟩) (fun _ h => absurd h List.not_mem_nil) dX0_monthAndDay_48
  · have c14_3 : ¬ (12 ≤ l9_3.toInt) := mt (cv_le (by decide) rfl).mpr c14_3
    refine lv_iload_n hx hb dX0_monthAndDay_17 rfl (lv_at hl 1 rfl) ?_
    refine lv_iload_n hx hb dX0_monthAndDay_18 rfl (lv_at hl 3 rfl) ?_
    refine lv_iload_n hx hb dX0_monthAndDay_19 rfl (lv_at hl 0 rfl) ?_
    have hPc := hP
    have hKc := hK
    refine vp_callSi ((va_runS (As := [.int a1, .int l9_3]) (rest := [.int l9_2]) ⟨hx, hb, hml, hown, hts⟩ (k_X0_monthLength l dC dI g (a1) (l9_3) ) (va_cwS 2 hts (gwS qw_4 qw_5 qw_3 qw_2) rfl rfl rfl (by decide +kernel) ⟨Nat.le_of_ble_eq_true rfl, Nat.le_of_ble_eq_true rfl⟩) ⟨fun a U g9 mk q => ⟨q.1, q.2.1, va_K.moved (u := U) (U := U.calling g9 mk a) (Vm.Alike.refl U.vm) q.2.2.1, Ev.bl q.2.2.2⟩, fun U hU hW => ⟨rfl, atB hU hPc, va_K.moved hW.alike hKc, hE.go hS (fun _ h => h.elim) hU hW⟩⟩ rfl rfl hl.1 rfl (lv_room (Nat.le_of_ble_eq_true rfl)) dX0_monthAndDay_20 ⟨Nat.le_of_ble_eq_true rfl, Nat.le_of_ble_eq_true rfl⟩)).run (fun r7 h_r7 => ?_)
    have b_r7 := i32b r7
    refine lv_icmp_lt (tgt := 40) hx hb dX0_monthAndDay_23 (by decide) (fun c23_8 => ?_) (fun c23_8 => ?_)
    · have c23_8 : l9_2.toInt < r7.toInt := (cv_lt rfl rfl).mp c23_8
      refine lv_iload_n hx hb dX0_monthAndDay_40 rfl (lv_at hl 0 rfl) ?_
      refine lv_bipush (v := 32) hx hb dX0_monthAndDay_41 (by decide) ?_
      refine lv_imul hx hb dX0_monthAndDay_43 ?_
      refine lv_topi (fun x9 e_x9 => ?_)
      try have e_x9 := ti_mul e_x9 rfl (show (32 : Int32).toInt = 32 by decide) (by omega)
      refine lv_iload_n hx hb dX0_monthAndDay_44 rfl (lv_at hl 1 rfl) ?_
      refine lv_iadd hx hb dX0_monthAndDay_45 ?_
      refine lv_topi (fun x10 e_x10 => ?_)
      try have e_x10 := ti_add e_x10 rfl rfl (by omega)
      refine lv_iconst (v := 1) hx hb dX0_monthAndDay_46 (by decide) ?_
      refine lv_iadd hx hb dX0_monthAndDay_47 ?_
      refine lv_topi (fun x11 e_x11 => ?_)
      try have e_x11 := ti_add e_x11 rfl (show (1 : Int32).toInt = 1 by decide) (by omega)
      exact W.iret (v := x11) hx hb hr (fun t ht hW => ⟨x11, rfl, trivial, ht⟩) (fun _ h => absurd h List.not_mem_nil) dX0_monthAndDay_48
    · have c23_8 : ¬ (l9_2.toInt < r7.toInt) := mt (cv_lt rfl rfl).mpr c23_8
      refine lv_iload_n hx hb dX0_monthAndDay_26 rfl (lv_at hl 1 rfl) ?_
      refine lv_iload_n hx hb dX0_monthAndDay_27 rfl (lv_at hl 3 rfl) ?_
      refine lv_iload_n hx hb dX0_monthAndDay_28 rfl (lv_at hl 0 rfl) ?_
      have hPc := hP
      have hKc := hK
      refine vp_callSi ((va_runS (As := [.int a1, .int l9_3]) (rest := [.int l9_2]) ⟨hx, hb, hml, hown, hts⟩ (k_X0_monthLength l dC dI g (a1) (l9_3) ) (va_cwS 2 hts (gwS qw_4 qw_5 qw_3 qw_2) rfl rfl rfl (by decide +kernel) ⟨Nat.le_of_ble_eq_true rfl, Nat.le_of_ble_eq_true rfl⟩) ⟨fun a U g9 mk q => ⟨q.1, q.2.1, va_K.moved (u := U) (U := U.calling g9 mk a) (Vm.Alike.refl U.vm) q.2.2.1, Ev.bl q.2.2.2⟩, fun U hU hW => ⟨rfl, atB hU hPc, va_K.moved hW.alike hKc, hE.go hS (fun _ h => h.elim) hU hW⟩⟩ rfl rfl hl.1 rfl (lv_room (Nat.le_of_ble_eq_true rfl)) dX0_monthAndDay_29 ⟨Nat.le_of_ble_eq_true rfl, Nat.le_of_ble_eq_true rfl⟩)).run (fun r12 h_r12 => ?_)
      have b_r12 := i32b r12
      refine lv_isub hx hb dX0_monthAndDay_32 ?_
      refine lv_topi (fun x13 e_x13 => ?_)
      try have e_x13 := ti_sub e_x13 rfl rfl (by omega)
      refine lv_istore_n (lv' := [(2, .int x13), (3, .int l9_3), (0, .int a0), (1, .int a1)]) hx hb dX0_monthAndDay_33 rfl hl (by decide) rfl (fun ls hl => ?_)
      obtain ⟨x14, e_x14⟩ : ∃ y : Int32, y = l9_3 + 1 := ⟨_, rfl⟩
      refine lv_iinc (v := x14) (lv' := [(3, .int x14), (2, .int x13), (0, .int a0), (1, .int a1)]) hx hb dX0_monthAndDay_34 hl (k := 1) rfl (by rw [e_x14]; rfl) (by decide) rfl (fun ls hl => ?_)
      try have e_x14 := ti_add e_x14 rfl (show (1 : Int32).toInt = 1 by decide) (by omega)
      refine lv_goto (tgt := 9) hx hb dX0_monthAndDay_37 (by decide) ?_
      exact ih9 ((2147483647 - x14.toInt).toNat) _ _ _ (by omega) ⟨x14, x13, rfl, (by omega), lv_sub hl [0, 1, 2, 3] rfl, rfl, rfl⟩
set_option maxHeartbeats 4000000 in
set_option maxRecDepth 100000 in
theorem k_X0_monthOf (l : Launch) (dC : Nat → ClassId) (dI : Nat → Nat → Nat) (g : Gv) (a0 : Int32)  : Met l yX0_monthOf (.code yX0_monthOf cX0_monthOf 1 (some .int) :: TBL) ({ frames := 2, cells := 0, slots := 0, locals := 46 }) (va_Pc [.int a0] (fun U => va_P (dC, dI) vwCl [] U.heap ∧ va_K (dC, dI) vwCl [] U ∧ Ev g (fun _ => False) U)) (vp_Si (fun (r : Int32) => True)) 0 0 (fun _ => False) := by
  refine Met.ofW (cc := cX0_monthOf) (maxL := 1) (ret := (some .int)) (by decide) rfl ?_
  intro p e s m args below meth c s₁ B hml hv
  obtain ⟨rfl, hP, hK, hE⟩ := hv
  have hx := B.exec
  have hb := B.bytes
  have hr := B.returns
  have hts0 := atoms_spec (ws := (.code yX0_monthOf cX0_monthOf 1 (some .int) :: TBL)) B.pre
  have hts := fun (w : Cond) (h : w ∈ TBL) => hts0 w (List.mem_cons_of_mem _ h)
  have hown : s.vm.findClass RX0 = some m.cls := findClass_of_methodNamed B.named
  have hlocks := B.notSynchronized
  have hN := hE.1
  have hS : va_S (fun _ => False) s.heap s.heap [] := va_S.rf
  replace hP : va_P (dC, dI) vwCl [] s.heap := hP
  have hl := lv_entry ([.int a0]) (n := 1) (Nat.le_of_ble_eq_true rfl)
  rw [lg_entry_eq]
  generalize (lg_sl ([.int a0]) ++ List.replicate (1 - (lg_sl ([.int a0])).length) Slot.unset).toArray = ls at hl ⊢
  have hl : lv_has ls 1 [(0, .int a0)] := hl
  have b_a0 := i32b a0
  refine lv_iload_n hx hb dX0_monthOf_0 rfl (lv_at hl 0 rfl) ?_
  refine lv_iload_n hx hb dX0_monthOf_1 rfl (lv_at hl 0 rfl) ?_
  have hPc := hP
  have hKc := hK
  refine vp_callSi ((va_runS (As := [.int a0]) (rest := [.int a0]) ⟨hx, hb, hml, hown, hts⟩ (k_X0_yearOf l dC dI g (a0) ) (va_cwS 1 hts (gwS qw_10 qw_11 qw_3 qw_9) rfl rfl rfl (by decide +kernel) ⟨Nat.le_of_ble_eq_true rfl, Nat.le_of_ble_eq_true rfl⟩) ⟨fun a U g9 mk q => ⟨q.1, q.2.1, va_K.moved (u := U) (U := U.calling g9 mk a) (Vm.Alike.refl U.vm) q.2.2.1, Ev.bl q.2.2.2⟩, fun U hU hW => ⟨rfl, atB hU hPc, va_K.moved hW.alike hKc, hE.go hS (fun _ h => h.elim) hU hW⟩⟩ rfl rfl hl.1 rfl (lv_room (Nat.le_of_ble_eq_true rfl)) dX0_monthOf_2 ⟨Nat.le_of_ble_eq_true rfl, Nat.le_of_ble_eq_true rfl⟩)).run (fun r1 h_r1 => ?_)
  have b_r1 := i32b r1
  have hPc := hP
  have hKc := hK
  refine vp_callSi ((va_runS (As := [.int a0, .int r1]) (rest := []) ⟨hx, hb, hml, hown, hts⟩ (k_X0_monthAndDay l dC dI g (a0) (r1) ) (va_cwS 2 hts (gwS qw_13 qw_14 qw_3 qw_12) rfl rfl rfl (by decide +kernel) ⟨Nat.le_of_ble_eq_true rfl, Nat.le_of_ble_eq_true rfl⟩) ⟨fun a U g9 mk q => ⟨q.1, q.2.1, va_K.moved (u := U) (U := U.calling g9 mk a) (Vm.Alike.refl U.vm) q.2.2.1, Ev.bl q.2.2.2⟩, fun U hU hW => ⟨rfl, atB hU hPc, va_K.moved hW.alike hKc, hE.go hS (fun _ h => h.elim) hU hW⟩⟩ rfl rfl hl.1 rfl (lv_room (Nat.le_of_ble_eq_true rfl)) dX0_monthOf_5 ⟨Nat.le_of_ble_eq_true rfl, Nat.le_of_ble_eq_true rfl⟩)).run (fun r2 h_r2 => ?_)
  have b_r2 := i32b r2
  refine lv_bipush (v := 32) hx hb dX0_monthOf_8 (by decide) ?_
  refine lv_idiv hx hb dX0_monthOf_10 (by decide) ?_
  refine lv_topi (fun x3 e_x3 => ?_)
  exact W.iret (v := x3) hx hb hr (fun t ht hW => ⟨x3, rfl, trivial, ht⟩) (fun _ h => absurd h List.not_mem_nil) dX0_monthOf_11
set_option maxHeartbeats 4000000 in
set_option maxRecDepth 100000 in
theorem k_X0_dayOfMonth (l : Launch) (dC : Nat → ClassId) (dI : Nat → Nat → Nat) (g : Gv) (a0 : Int32)  : Met l yX0_dayOfMonth (.code yX0_dayOfMonth cX0_dayOfMonth 1 (some .int) :: TBL) ({ frames := 2, cells := 0, slots := 0, locals := 46 }) (va_Pc [.int a0] (fun U => va_P (dC, dI) vwCl [] U.heap ∧ va_K (dC, dI) vwCl [] U ∧ Ev g (fun _ => False) U)) (vp_Si (fun (r : Int32) => True)) 0 0 (fun _ => False) := by
  refine Met.ofW (cc := cX0_dayOfMonth) (maxL := 1) (ret := (some .int)) (by decide) rfl ?_
  intro p e s m args below meth c s₁ B hml hv
  obtain ⟨rfl, hP, hK, hE⟩ := hv
  have hx := B.exec
  have hb := B.bytes
  have hr := B.returns
  have hts0 := atoms_spec (ws := (.code yX0_dayOfMonth cX0_dayOfMonth 1 (some .int) :: TBL)) B.pre
  have hts := fun (w : Cond) (h : w ∈ TBL) => hts0 w (List.mem_cons_of_mem _ h)
  have hown : s.vm.findClass RX0 = some m.cls := findClass_of_methodNamed B.named
  have hlocks := B.notSynchronized
  have hN := hE.1
  have hS : va_S (fun _ => False) s.heap s.heap [] := va_S.rf
  replace hP : va_P (dC, dI) vwCl [] s.heap := hP
  have hl := lv_entry ([.int a0]) (n := 1) (Nat.le_of_ble_eq_true rfl)
  rw [lg_entry_eq]
  generalize (lg_sl ([.int a0]) ++ List.replicate (1 - (lg_sl ([.int a0])).length) Slot.unset).toArray = ls at hl ⊢
  have hl : lv_has ls 1 [(0, .int a0)] := hl
  have b_a0 := i32b a0
  refine lv_iload_n hx hb dX0_dayOfMonth_0 rfl (lv_at hl 0 rfl) ?_
  refine lv_iload_n hx hb dX0_dayOfMonth_1 rfl (lv_at hl 0 rfl) ?_
  have hPc := hP
  have hKc := hK
  refine vp_callSi ((va_runS (As := [.int a0]) (rest := [.int a0]) ⟨hx, hb, hml, hown, hts⟩ (k_X0_yearOf l dC dI g (a0) ) (va_cwS 1 hts (gwS qw_10 qw_11 qw_3 qw_9) rfl rfl rfl (by decide +kernel) ⟨Nat.le_of_ble_eq_true rfl, Nat.le_of_ble_eq_true rfl⟩) ⟨fun a U g9 mk q => ⟨q.1, q.2.1, va_K.moved (u := U) (U := U.calling g9 mk a) (Vm.Alike.refl U.vm) q.2.2.1, Ev.bl q.2.2.2⟩, fun U hU hW => ⟨rfl, atB hU hPc, va_K.moved hW.alike hKc, hE.go hS (fun _ h => h.elim) hU hW⟩⟩ rfl rfl hl.1 rfl (lv_room (Nat.le_of_ble_eq_true rfl)) dX0_dayOfMonth_2 ⟨Nat.le_of_ble_eq_true rfl, Nat.le_of_ble_eq_true rfl⟩)).run (fun r1 h_r1 => ?_)
  have b_r1 := i32b r1
  have hPc := hP
  have hKc := hK
  refine vp_callSi ((va_runS (As := [.int a0, .int r1]) (rest := []) ⟨hx, hb, hml, hown, hts⟩ (k_X0_monthAndDay l dC dI g (a0) (r1) ) (va_cwS 2 hts (gwS qw_13 qw_14 qw_3 qw_12) rfl rfl rfl (by decide +kernel) ⟨Nat.le_of_ble_eq_true rfl, Nat.le_of_ble_eq_true rfl⟩) ⟨fun a U g9 mk q => ⟨q.1, q.2.1, va_K.moved (u := U) (U := U.calling g9 mk a) (Vm.Alike.refl U.vm) q.2.2.1, Ev.bl q.2.2.2⟩, fun U hU hW => ⟨rfl, atB hU hPc, va_K.moved hW.alike hKc, hE.go hS (fun _ h => h.elim) hU hW⟩⟩ rfl rfl hl.1 rfl (lv_room (Nat.le_of_ble_eq_true rfl)) dX0_dayOfMonth_5 ⟨Nat.le_of_ble_eq_true rfl, Nat.le_of_ble_eq_true rfl⟩)).run (fun r2 h_r2 => ?_)
  have b_r2 := i32b r2
  refine lv_bipush (v := 32) hx hb dX0_dayOfMonth_8 (by decide) ?_
  refine lv_irem hx hb dX0_dayOfMonth_10 (by decide) ?_
  refine lv_topi (fun x3 e_x3 => ?_)
  exact W.iret (v := x3) hx hb hr (fun t ht hW => ⟨x3, rfl, trivial, ht⟩) (fun _ h => absurd h List.not_mem_nil) dX0_dayOfMonth_11
set_option maxHeartbeats 4000000 in
set_option maxRecDepth 100000 in
theorem k_X0_dayOfWeek (l : Launch) (dC : Nat → ClassId) (dI : Nat → Nat → Nat) (g : Gv) (a0 : Int32)  : Met l yX0_dayOfWeek (.code yX0_dayOfWeek cX0_dayOfWeek 1 (some .int) :: TBL) ({ frames := 0, cells := 0, slots := 0, locals := 0 }) (va_Pc [.int a0] (fun U => va_P (dC, dI) vwCl [] U.heap ∧ va_K (dC, dI) vwCl [] U ∧ Ev g (fun _ => False) U)) (vp_Si (fun (r : Int32) => True)) 0 0 (fun _ => False) := by
  refine Met.ofW (cc := cX0_dayOfWeek) (maxL := 1) (ret := (some .int)) (by decide) rfl ?_
  intro p e s m args below meth c s₁ B hml hv
  obtain ⟨rfl, hP, hK, hE⟩ := hv
  have hx := B.exec
  have hb := B.bytes
  have hr := B.returns
  have hts0 := atoms_spec (ws := (.code yX0_dayOfWeek cX0_dayOfWeek 1 (some .int) :: TBL)) B.pre
  have hts := fun (w : Cond) (h : w ∈ TBL) => hts0 w (List.mem_cons_of_mem _ h)
  have hown : s.vm.findClass RX0 = some m.cls := findClass_of_methodNamed B.named
  have hlocks := B.notSynchronized
  have hN := hE.1
  have hS : va_S (fun _ => False) s.heap s.heap [] := va_S.rf
  replace hP : va_P (dC, dI) vwCl [] s.heap := hP
  have hl := lv_entry ([.int a0]) (n := 1) (Nat.le_of_ble_eq_true rfl)
  rw [lg_entry_eq]
  generalize (lg_sl ([.int a0]) ++ List.replicate (1 - (lg_sl ([.int a0])).length) Slot.unset).toArray = ls at hl ⊢
  have hl : lv_has ls 1 [(0, .int a0)] := hl
  have b_a0 := i32b a0
  refine lv_iload_n hx hb dX0_dayOfWeek_0 rfl (lv_at hl 0 rfl) ?_
  refine lv_iconst (v := 4) hx hb dX0_dayOfWeek_1 (by decide) ?_
  refine lv_iadd hx hb dX0_dayOfWeek_2 ?_
  refine lv_topi (fun x1 e_x1 => ?_)
  try have e_x1 := ti_add e_x1 rfl (show (4 : Int32).toInt = 4 by decide) (by omega)
  refine lv_bipush (v := 7) hx hb dX0_dayOfWeek_3 (by decide) ?_
  refine lv_irem hx hb dX0_dayOfWeek_5 (by decide) ?_
  refine lv_topi (fun x2 e_x2 => ?_)
  exact W.iret (v := x2) hx hb hr (fun t ht hW => ⟨x2, rfl, trivial, ht⟩) (fun _ h => absurd h List.not_mem_nil) dX0_dayOfWeek_6
set_option maxHeartbeats 4000000 in
set_option maxRecDepth 100000 in
theorem k_X0_yearsOn (l : Launch) (dC : Nat → ClassId) (dI : Nat → Nat → Nat) (g : Gv) (a0 : Int32) (a1 : Int32)  : Met l yX0_yearsOn (.code yX0_yearsOn cX0_yearsOn 7 (some .int) :: TBL) ({ frames := 2, cells := 0, slots := 0, locals := 47 }) (va_Pc [.int a0, .int a1] (fun U => va_P (dC, dI) vwCl [] U.heap ∧ va_K (dC, dI) vwCl [] U ∧ Ev g (fun _ => False) U)) (vp_Si (fun (r : Int32) => True)) 0 0 (fun _ => False) := by
  refine Met.ofW (cc := cX0_yearsOn) (maxL := 7) (ret := (some .int)) (by decide) rfl ?_
  intro p e s m args below meth c s₁ B hml hv
  obtain ⟨rfl, hP, hK, hE⟩ := hv
  have hx := B.exec
  have hb := B.bytes
  have hr := B.returns
  have hts0 := atoms_spec (ws := (.code yX0_yearsOn cX0_yearsOn 7 (some .int) :: TBL)) B.pre
  have hts := fun (w : Cond) (h : w ∈ TBL) => hts0 w (List.mem_cons_of_mem _ h)
  have hown : s.vm.findClass RX0 = some m.cls := findClass_of_methodNamed B.named
  have hlocks := B.notSynchronized
  have hN := hE.1
  have hS : va_S (fun _ => False) s.heap s.heap [] := va_S.rf
  replace hP : va_P (dC, dI) vwCl [] s.heap := hP
  have hl := lv_entry ([.int a0, .int a1]) (n := 7) (Nat.le_of_ble_eq_true rfl)
  rw [lg_entry_eq]
  generalize (lg_sl ([.int a0, .int a1]) ++ List.replicate (7 - (lg_sl ([.int a0, .int a1])).length) Slot.unset).toArray = ls at hl ⊢
  have hl : lv_has ls 7 [(0, .int a0), (1, .int a1)] := hl
  have b_a0 := i32b a0
  have b_a1 := i32b a1
  refine lv_iload_n hx hb dX0_yearsOn_0 rfl (lv_at hl 0 rfl) ?_
  refine lv_ldc (v := 219145) hx hb hown (hts (.constant RX0 9 (219145)) qw_0) dX0_yearsOn_1 ?_
  refine lv_icmp_lt (tgt := 9) hx hb dX0_yearsOn_3 (by decide) (fun c3_1 => ?_) (fun c3_1 => ?_)
  · have c3_1 : a0.toInt < 219145 := (cv_lt rfl (by decide)).mp c3_1
    refine lv_iload_n hx hb dX0_yearsOn_9 rfl (lv_at hl 0 rfl) ?_
    have hPc := hP
    have hKc := hK
    refine vp_callSi ((va_runS (As := [.int a0]) (rest := []) ⟨hx, hb, hml, hown, hts⟩ (k_X0_yearOf l dC dI g (a0) ) (va_cwS 1 hts (gwS qw_10 qw_11 qw_3 qw_9) rfl rfl rfl (by decide +kernel) ⟨Nat.le_of_ble_eq_true rfl, Nat.le_of_ble_eq_true rfl⟩) ⟨fun a U g9 mk q => ⟨q.1, q.2.1, va_K.moved (u := U) (U := U.calling g9 mk a) (Vm.Alike.refl U.vm) q.2.2.1, Ev.bl q.2.2.2⟩, fun U hU hW => ⟨rfl, atB hU hPc, va_K.moved hW.alike hKc, hE.go hS (fun _ h => h.elim) hU hW⟩⟩ rfl rfl hl.1 rfl (lv_room (Nat.le_of_ble_eq_true rfl)) dX0_yearsOn_10 ⟨Nat.le_of_ble_eq_true rfl, Nat.le_of_ble_eq_true rfl⟩)).run (fun r2 h_r2 => ?_)
    have b_r2 := i32b r2
    refine lv_istore_n (lv' := [(2, .int r2), (0, .int a0), (1, .int a1)]) hx hb dX0_yearsOn_13 rfl hl (by decide) rfl (fun ls hl => ?_)
    refine lv_iload_n hx hb dX0_yearsOn_14 rfl (lv_at hl 0 rfl) ?_
    refine lv_iload_n hx hb dX0_yearsOn_15 rfl (lv_at hl 2 rfl) ?_
    refine lv_iadd hx hb dX0_yearsOn_16 ?_
    refine lv_topi (fun x3 e_x3 => ?_)
    try have e_x3 := ti_add e_x3 rfl rfl (by omega)
    refine lv_istore_n (lv' := [(3, .int x3), (2, .int r2), (0, .int a0), (1, .int a1)]) hx hb dX0_yearsOn_17 rfl hl (by decide) rfl (fun ls hl => ?_)
    refine lv_iload_n hx hb dX0_yearsOn_18 rfl (lv_at hl 0 rfl) ?_
    refine lv_sipush (v := 1700) hx hb dX0_yearsOn_19 (by decide) ?_
    refine lv_icmp_ge (tgt := 27) hx hb dX0_yearsOn_22 (by decide) (fun c22_4 => ?_) (fun c22_4 => ?_)
    · have c22_4 : 1700 ≤ x3.toInt := (cv_le (by decide) rfl).mp c22_4
      refine lv_iload_n hx hb dX0_yearsOn_27 rfl (lv_at hl 0 rfl) ?_
      refine lv_sipush (v := 2299) hx hb dX0_yearsOn_28 (by decide) ?_
      refine lv_icmp_le (tgt := 37) hx hb dX0_yearsOn_31 (by decide) (fun c31_5 => ?_) (fun c31_5 => ?_)
      · have c31_5 : x3.toInt ≤ 2299 := (cv_le rfl (by decide)).mp c31_5
        refine lv_iload_n hx hb dX0_yearsOn_37 rfl (lv_at hl 2 rfl) ?_
        refine lv_iload_n hx hb dX0_yearsOn_38 rfl (lv_at hl 1 rfl) ?_
        have hPc := hP
        have hKc := hK
        refine vp_callSi ((va_runS (As := [.int a0, .int r2]) (rest := []) ⟨hx, hb, hml, hown, hts⟩ (k_X0_monthAndDay l dC dI g (a0) (r2) ) (va_cwS 2 hts (gwS qw_13 qw_14 qw_3 qw_12) rfl rfl rfl (by decide +kernel) ⟨Nat.le_of_ble_eq_true rfl, Nat.le_of_ble_eq_true rfl⟩) ⟨fun a U g9 mk q => ⟨q.1, q.2.1, va_K.moved (u := U) (U := U.calling g9 mk a) (Vm.Alike.refl U.vm) q.2.2.1, Ev.bl q.2.2.2⟩, fun U hU hW => ⟨rfl, atB hU hPc, va_K.moved hW.alike hKc, hE.go hS (fun _ h => h.elim) hU hW⟩⟩ rfl rfl hl.1 rfl (lv_room (Nat.le_of_ble_eq_true rfl)) dX0_yearsOn_39 ⟨Nat.le_of_ble_eq_true rfl, Nat.le_of_ble_eq_true rfl⟩)).run (fun r6 h_r6 => ?_)
        have b_r6 := i32b r6
        refine lv_istore (lv' := [(4, .int r6), (3, .int x3), (2, .int r2), (0, .int a0), (1, .int a1)]) hx hb dX0_yearsOn_42 hl (by decide) rfl (fun ls hl => ?_)
        refine lv_iload hx hb dX0_yearsOn_44 (lv_at hl 0 rfl) ?_
        refine lv_bipush (v := 32) hx hb dX0_yearsOn_46 (by decide) ?_
        refine lv_idiv hx hb dX0_yearsOn_48 (by decide) ?_
        refine lv_topi (fun x7 e_x7 => ?_)
        refine lv_istore (lv' := [(5, .int x7), (4, .int r6), (3, .int x3), (2, .int r2), (0, .int a0), (1, .int a1)]) hx hb dX0_yearsOn_49 hl (by decide) rfl (fun ls hl => ?_)
        refine lv_iload hx hb dX0_yearsOn_51 (lv_at hl 1 rfl) ?_
        refine lv_bipush (v := 32) hx hb dX0_yearsOn_53 (by decide) ?_
        refine lv_irem hx hb dX0_yearsOn_55 (by decide) ?_
        refine lv_topi (fun x8 e_x8 => ?_)
        refine lv_iload_n hx hb dX0_yearsOn_56 rfl (lv_at hl 2 rfl) ?_
        refine lv_iload hx hb dX0_yearsOn_57 (lv_at hl 0 rfl) ?_
        have hPc := hP
        have hKc := hK
        refine vp_callSi ((va_runS (As := [.int x3, .int x7]) (rest := [.int x8]) ⟨hx, hb, hml, hown, hts⟩ (k_X0_monthLength l dC dI g (x3) (x7) ) (va_cwS 2 hts (gwS qw_4 qw_5 qw_3 qw_2) rfl rfl rfl (by decide +kernel) ⟨Nat.le_of_ble_eq_true rfl, Nat.le_of_ble_eq_true rfl⟩) ⟨fun a U g9 mk q => ⟨q.1, q.2.1, va_K.moved (u := U) (U := U.calling g9 mk a) (Vm.Alike.refl U.vm) q.2.2.1, Ev.bl q.2.2.2⟩, fun U hU hW => ⟨rfl, atB hU hPc, va_K.moved hW.alike hKc, hE.go hS (fun _ h => h.elim) hU hW⟩⟩ rfl rfl hl.1 rfl (lv_room (Nat.le_of_ble_eq_true rfl)) dX0_yearsOn_59 ⟨Nat.le_of_ble_eq_true rfl, Nat.le_of_ble_eq_true rfl⟩)).run (fun r9 h_r9 => ?_)
        have b_r9 := i32b r9
        refine va_mmin hx hb (by rw [hml]; exact hl.1.symm) hown (hts (.methodLink RX0 30 Lib.Math.min.name) qw_16) (hts (.static Lib.Math.min.name) qw_17) (hts (.initialized "java/lang/Math") qw_15) (hts (.code Lib.Math.min.name Lib.Math.min.code 2 (some .int)) qw_18) (Nat.le_of_ble_eq_true rfl) (Nat.le_of_ble_eq_true rfl) (Nat.le_of_ble_eq_true rfl) (Nat.le_of_ble_eq_true rfl) dX0_yearsOn_62 ?_
        refine lv_topi (fun x10 e_x10 => ?_)
        have e_x10 := ti_min e_x10 rfl rfl
        refine lv_istore (lv' := [(6, .int x10), (5, .int x7), (4, .int r6), (3, .int x3), (2, .int r2), (0, .int a0), (1, .int a1)]) hx hb dX0_yearsOn_65 hl (by decide) rfl (fun ls hl => ?_)
        refine lv_iload_n hx hb dX0_yearsOn_67 rfl (lv_at hl 3 rfl) ?_
        refine lv_iload hx hb dX0_yearsOn_68 (lv_at hl 1 rfl) ?_
        refine lv_iload hx hb dX0_yearsOn_70 (lv_at hl 0 rfl) ?_
        have hPc := hP
        have hKc := hK
        refine vp_callSi ((va_runS (As := [.int x3, .int x7, .int x10]) (rest := []) ⟨hx, hb, hml, hown, hts⟩ (k_X0_numberOf l dC dI g (x3) (x7) (x10) ) (va_cwS 3 hts (gwS qw_20 qw_21 qw_3 qw_19) rfl rfl rfl (by decide +kernel) ⟨Nat.le_of_ble_eq_true rfl, Nat.le_of_ble_eq_true rfl⟩) ⟨fun a U g9 mk q => ⟨q.1, q.2.1, va_K.moved (u := U) (U := U.calling g9 mk a) (Vm.Alike.refl U.vm) q.2.2.1, Ev.bl q.2.2.2⟩, fun U hU hW => ⟨rfl, atB hU hPc, va_K.moved hW.alike hKc, hE.go hS (fun _ h => h.elim) hU hW⟩⟩ rfl rfl hl.1 rfl (lv_room (Nat.le_of_ble_eq_true rfl)) dX0_yearsOn_72 ⟨Nat.le_of_ble_eq_true rfl, Nat.le_of_ble_eq_true rfl⟩)).run (fun r11 h_r11 => ?_)
        have b_r11 := i32b r11
        exact W.iret (v := r11) hx hb hr (fun t ht hW => ⟨r11, rfl, trivial, ht⟩) (fun _ h => absurd h List.not_mem_nil) dX0_yearsOn_75
      · have c31_5 : ¬ (x3.toInt ≤ 2299) := mt (cv_le rfl (by decide)).mpr c31_5
        refine lv_ldc (v := 219145) hx hb hown (hts (.constant RX0 9 (219145)) qw_0) dX0_yearsOn_34 ?_
        exact W.iret (v := 219145) hx hb hr (fun t ht hW => ⟨219145, rfl, trivial, ht⟩) (fun _ h => absurd h List.not_mem_nil) dX0_yearsOn_36
    · have c22_4 : ¬ (1700 ≤ x3.toInt) := mt (cv_le (by decide) rfl).mpr c22_4
      refine lv_iconst (v := 0) hx hb dX0_yearsOn_25 (by decide) ?_
      exact W.iret (v := 0) hx hb hr (fun t ht hW => ⟨0, rfl, trivial, ht⟩) (fun _ h => absurd h List.not_mem_nil) dX0_yearsOn_26
  · have c3_1 : ¬ (a0.toInt < 219145) := mt (cv_lt rfl (by decide)).mpr c3_1
    refine lv_ldc (v := 219145) hx hb hown (hts (.constant RX0 9 (219145)) qw_0) dX0_yearsOn_6 ?_
    exact W.iret (v := 219145) hx hb hr (fun t ht hW => ⟨219145, rfl, trivial, ht⟩) (fun _ h => absurd h List.not_mem_nil) dX0_yearsOn_8
set_option maxHeartbeats 4000000 in
set_option maxRecDepth 100000 in
theorem k_X0_newYearBehind (l : Launch) (dC : Nat → ClassId) (dI : Nat → Nat → Nat) (g : Gv) (a0 : Int32)  : Met l yX0_newYearBehind (.code yX0_newYearBehind cX0_newYearBehind 1 (some .int) :: TBL) ({ frames := 2, cells := 0, slots := 0, locals := 44 }) (va_Pc [.int a0] (fun U => va_P (dC, dI) vwCl [] U.heap ∧ va_K (dC, dI) vwCl [] U ∧ Ev g (fun _ => False) U)) (vp_Si (fun (r : Int32) => True)) 0 0 (fun _ => False) := by
  refine Met.ofW (cc := cX0_newYearBehind) (maxL := 1) (ret := (some .int)) (by decide) rfl ?_
  intro p e s m args below meth c s₁ B hml hv
  obtain ⟨rfl, hP, hK, hE⟩ := hv
  have hx := B.exec
  have hb := B.bytes
  have hr := B.returns
  have hts0 := atoms_spec (ws := (.code yX0_newYearBehind cX0_newYearBehind 1 (some .int) :: TBL)) B.pre
  have hts := fun (w : Cond) (h : w ∈ TBL) => hts0 w (List.mem_cons_of_mem _ h)
  have hown : s.vm.findClass RX0 = some m.cls := findClass_of_methodNamed B.named
  have hlocks := B.notSynchronized
  have hN := hE.1
  have hS : va_S (fun _ => False) s.heap s.heap [] := va_S.rf
  replace hP : va_P (dC, dI) vwCl [] s.heap := hP
  have hl := lv_entry ([.int a0]) (n := 1) (Nat.le_of_ble_eq_true rfl)
  rw [lg_entry_eq]
  generalize (lg_sl ([.int a0]) ++ List.replicate (1 - (lg_sl ([.int a0])).length) Slot.unset).toArray = ls at hl ⊢
  have hl : lv_has ls 1 [(0, .int a0)] := hl
  have b_a0 := i32b a0
  refine lv_iload_n hx hb dX0_newYearBehind_0 rfl (lv_at hl 0 rfl) ?_
  refine lv_ldc (v := 219145) hx hb hown (hts (.constant RX0 9 (219145)) qw_0) dX0_newYearBehind_1 ?_
  refine lv_icmp_lt (tgt := 11) hx hb dX0_newYearBehind_3 (by decide) (fun c3_1 => ?_) (fun c3_1 => ?_)
  · have c3_1 : a0.toInt < 219145 := (cv_lt rfl (by decide)).mp c3_1
    refine lv_iload_n hx hb dX0_newYearBehind_11 rfl (lv_at hl 0 rfl) ?_
    have hPc := hP
    have hKc := hK
    refine vp_callSi ((va_runS (As := [.int a0]) (rest := []) ⟨hx, hb, hml, hown, hts⟩ (k_X0_yearOf l dC dI g (a0) ) (va_cwS 1 hts (gwS qw_10 qw_11 qw_3 qw_9) rfl rfl rfl (by decide +kernel) ⟨Nat.le_of_ble_eq_true rfl, Nat.le_of_ble_eq_true rfl⟩) ⟨fun a U g9 mk q => ⟨q.1, q.2.1, va_K.moved (u := U) (U := U.calling g9 mk a) (Vm.Alike.refl U.vm) q.2.2.1, Ev.bl q.2.2.2⟩, fun U hU hW => ⟨rfl, atB hU hPc, va_K.moved hW.alike hKc, hE.go hS (fun _ h => h.elim) hU hW⟩⟩ rfl rfl hl.1 rfl (lv_room (Nat.le_of_ble_eq_true rfl)) dX0_newYearBehind_12 ⟨Nat.le_of_ble_eq_true rfl, Nat.le_of_ble_eq_true rfl⟩)).run (fun r2 h_r2 => ?_)
    have b_r2 := i32b r2
    refine lv_iconst (v := 1) hx hb dX0_newYearBehind_15 (by decide) ?_
    refine lv_iadd hx hb dX0_newYearBehind_16 ?_
    refine lv_topi (fun x3 e_x3 => ?_)
    try have e_x3 := ti_add e_x3 rfl (show (1 : Int32).toInt = 1 by decide) (by omega)
    have hPc := hP
    have hKc := hK
    refine vp_callSi ((va_runS (As := [.int x3]) (rest := []) ⟨hx, hb, hml, hown, hts⟩ (k_X0_startOf l dC dI g (x3) ) (va_cwS 1 hts (gwS qw_7 qw_8 qw_3 qw_6) rfl rfl rfl (by decide +kernel) ⟨Nat.le_of_ble_eq_true rfl, Nat.le_of_ble_eq_true rfl⟩) ⟨fun a U g9 mk q => ⟨q.1, q.2.1, va_K.moved (u := U) (U := U.calling g9 mk a) (Vm.Alike.refl U.vm) q.2.2.1, Ev.bl q.2.2.2⟩, fun U hU hW => ⟨rfl, atB hU hPc, va_K.moved hW.alike hKc, hE.go hS (fun _ h => h.elim) hU hW⟩⟩ rfl rfl hl.1 rfl (lv_room (Nat.le_of_ble_eq_true rfl)) dX0_newYearBehind_17 ⟨Nat.le_of_ble_eq_true rfl, Nat.le_of_ble_eq_true rfl⟩)).run (fun r4 h_r4 => ?_)
    have b_r4 := i32b r4
    exact W.iret (v := r4) hx hb hr (fun t ht hW => ⟨r4, rfl, trivial, ht⟩) (fun _ h => absurd h List.not_mem_nil) dX0_newYearBehind_20
  · have c3_1 : ¬ (a0.toInt < 219145) := mt (cv_lt rfl (by decide)).mpr c3_1
    refine lv_ldc (v := 219145) hx hb hown (hts (.constant RX0 9 (219145)) qw_0) dX0_newYearBehind_6 ?_
    refine lv_goto (tgt := 20) hx hb dX0_newYearBehind_8 (by decide) ?_
    exact W.iret (v := 219145) hx hb hr (fun t ht hW => ⟨219145, rfl, trivial, ht⟩) (fun _ h => absurd h List.not_mem_nil) dX0_newYearBehind_20
