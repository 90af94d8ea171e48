theorem dX9_open_0 : decode cX9_open 0 = .ok (.aload_n 0, 1) := by decide +kernel
theorem dX9_open_1 : decode cX9_open 1 = .ok (.iconst 0, 1) := by decide +kernel
theorem dX9_open_2 : decode cX9_open 2 = .ok (.putfield 85, 3) := by decide +kernel
theorem dX9_open_5 : decode cX9_open 5 = .ok (.aload_n 0, 1) := by decide +kernel
theorem dX9_open_6 : decode cX9_open 6 = .ok (.invokevirtual 361, 3) := by decide +kernel
theorem dX9_open_9 : decode cX9_open 9 = .ok (.iload_n 1, 1) := by decide +kernel
theorem dX9_open_10 : decode cX9_open 10 = .ok (.iload_n 2, 1) := by decide +kernel
theorem dX9_open_11 : decode cX9_open 11 = .ok (.invokestatic 370, 3) := by decide +kernel
theorem dX9_open_14 : decode cX9_open 14 = .ok (.ifCond .eq 13, 3) := by decide +kernel
theorem dX9_open_17 : decode cX9_open 17 = .ok (.aload_n 0, 1) := by decide +kernel
theorem dX9_open_18 : decode cX9_open 18 = .ok (.iload_n 1, 1) := by decide +kernel
theorem dX9_open_19 : decode cX9_open 19 = .ok (.iload_n 2, 1) := by decide +kernel
theorem dX9_open_20 : decode cX9_open 20 = .ok (.iconst 0, 1) := by decide +kernel
theorem dX9_open_21 : decode cX9_open 21 = .ok (.invokevirtual 373, 3) := by decide +kernel
theorem dX9_open_24 : decode cX9_open 24 = .ok (.goto 4, 3) := by decide +kernel
theorem dX9_open_27 : decode cX9_open 27 = .ok (.iconst (-1), 1) := by decide +kernel
theorem dX9_open_28 : decode cX9_open 28 = .ok (.ireturn, 1) := by decide +kernel
theorem dX9_next_0 : decode cX9_next 0 = .ok (.aload_n 0, 1) := by decide +kernel
theorem dX9_next_1 : decode cX9_next 1 = .ok (.iconst 0, 1) := by decide +kernel
theorem dX9_next_2 : decode cX9_next 2 = .ok (.putfield 85, 3) := by decide +kernel
theorem dX9_next_5 : decode cX9_next 5 = .ok (.aload_n 0, 1) := by decide +kernel
theorem dX9_next_6 : decode cX9_next 6 = .ok (.invokevirtual 361, 3) := by decide +kernel
theorem dX9_next_9 : decode cX9_next 9 = .ok (.iload_n 1, 1) := by decide +kernel
theorem dX9_next_10 : decode cX9_next 10 = .ok (.i2l, 1) := by decide +kernel
theorem dX9_next_11 : decode cX9_next 11 = .ok (.ldc2_w 376, 3) := by decide +kernel
theorem dX9_next_14 : decode cX9_next 14 = .ok (.ldc2_w 133, 3) := by decide +kernel
theorem dX9_next_17 : decode cX9_next 17 = .ok (.invokestatic 123, 3) := by decide +kernel
theorem dX9_next_20 : decode cX9_next 20 = .ok (.ifCond .eq 10, 3) := by decide +kernel
theorem dX9_next_23 : decode cX9_next 23 = .ok (.iload_n 2, 1) := by decide +kernel
theorem dX9_next_24 : decode cX9_next 24 = .ok (.invokestatic 364, 3) := by decide +kernel
theorem dX9_next_27 : decode cX9_next 27 = .ok (.ifCond .ne 5, 3) := by decide +kernel
theorem dX9_next_30 : decode cX9_next 30 = .ok (.iconst (-1), 1) := by decide +kernel
theorem dX9_next_31 : decode cX9_next 31 = .ok (.ireturn, 1) := by decide +kernel
theorem dX9_next_32 : decode cX9_next 32 = .ok (.iconst (-1), 1) := by decide +kernel
theorem dX9_next_33 : decode cX9_next 33 = .ok (.istore_n 3, 1) := by decide +kernel
theorem dX9_next_34 : decode cX9_next 34 = .ok (.iconst 0, 1) := by decide +kernel
theorem dX9_next_35 : decode cX9_next 35 = .ok (.istore 4, 2) := by decide +kernel
theorem dX9_next_37 : decode cX9_next 37 = .ok (.iload 4, 2) := by decide +kernel
theorem dX9_next_39 : decode cX9_next 39 = .ok (.aload_n 0, 1) := by decide +kernel
theorem dX9_next_40 : decode cX9_next 40 = .ok (.getfield 20, 3) := by decide +kernel
theorem dX9_next_43 : decode cX9_next 43 = .ok (.iconst 0, 1) := by decide +kernel
theorem dX9_next_44 : decode cX9_next 44 = .ok (.iaload, 1) := by decide +kernel
theorem dX9_next_45 : decode cX9_next 45 = .ok (.if_icmp .ge 38, 3) := by decide +kernel
theorem dX9_next_48 : decode cX9_next 48 = .ok (.aload_n 0, 1) := by decide +kernel
theorem dX9_next_49 : decode cX9_next 49 = .ok (.iload 4, 2) := by decide +kernel
theorem dX9_next_51 : decode cX9_next 51 = .ok (.iload_n 2, 1) := by decide +kernel
theorem dX9_next_52 : decode cX9_next 52 = .ok (.iconst 0, 1) := by decide +kernel
theorem dX9_next_53 : decode cX9_next 53 = .ok (.invokevirtual 367, 3) := by decide +kernel
theorem dX9_next_56 : decode cX9_next 56 = .ok (.istore 5, 2) := by decide +kernel
theorem dX9_next_58 : decode cX9_next 58 = .ok (.iload 5, 2) := by decide +kernel
theorem dX9_next_60 : decode cX9_next 60 = .ok (.iload_n 1, 1) := by decide +kernel
theorem dX9_next_61 : decode cX9_next 61 = .ok (.if_icmp .le 16, 3) := by decide +kernel
theorem dX9_next_64 : decode cX9_next 64 = .ok (.iload_n 3, 1) := by decide +kernel
theorem dX9_next_65 : decode cX9_next 65 = .ok (.ifCond .lt 9, 3) := by decide +kernel
theorem dX9_next_68 : decode cX9_next 68 = .ok (.iload 5, 2) := by decide +kernel
theorem dX9_next_70 : decode cX9_next 70 = .ok (.iload_n 3, 1) := by decide +kernel
theorem dX9_next_71 : decode cX9_next 71 = .ok (.if_icmp .ge 6, 3) := by decide +kernel
theorem dX9_next_74 : decode cX9_next 74 = .ok (.iload 5, 2) := by decide +kernel
theorem dX9_next_76 : decode cX9_next 76 = .ok (.istore_n 3, 1) := by decide +kernel
theorem dX9_next_77 : decode cX9_next 77 = .ok (.iinc 4 1, 3) := by decide +kernel
theorem dX9_next_80 : decode cX9_next 80 = .ok (.goto (-43), 3) := by decide +kernel
theorem dX9_next_83 : decode cX9_next 83 = .ok (.iload_n 3, 1) := by decide +kernel
theorem dX9_next_84 : decode cX9_next 84 = .ok (.ireturn, 1) := by decide +kernel
theorem dX9_listed_0 : decode cX9_listed 0 = .ok (.aload_n 0, 1) := by decide +kernel
theorem dX9_listed_1 : decode cX9_listed 1 = .ok (.iconst 0, 1) := by decide +kernel
theorem dX9_listed_2 : decode cX9_listed 2 = .ok (.putfield 85, 3) := by decide +kernel
theorem dX9_listed_5 : decode cX9_listed 5 = .ok (.aload_n 0, 1) := by decide +kernel
theorem dX9_listed_6 : decode cX9_listed 6 = .ok (.invokevirtual 361, 3) := by decide +kernel
theorem dX9_listed_9 : decode cX9_listed 9 = .ok (.iload_n 2, 1) := by decide +kernel
theorem dX9_listed_10 : decode cX9_listed 10 = .ok (.invokestatic 364, 3) := by decide +kernel
theorem dX9_listed_13 : decode cX9_listed 13 = .ok (.ifCond .ne 5, 3) := by decide +kernel
theorem dX9_listed_16 : decode cX9_listed 16 = .ok (.iconst (-1), 1) := by decide +kernel
theorem dX9_listed_17 : decode cX9_listed 17 = .ok (.ireturn, 1) := by decide +kernel
theorem dX9_listed_18 : decode cX9_listed 18 = .ok (.iconst 0, 1) := by decide +kernel
theorem dX9_listed_19 : decode cX9_listed 19 = .ok (.istore_n 3, 1) := by decide +kernel
theorem dX9_listed_20 : decode cX9_listed 20 = .ok (.iload_n 3, 1) := by decide +kernel
theorem dX9_listed_21 : decode cX9_listed 21 = .ok (.aload_n 0, 1) := by decide +kernel
theorem dX9_listed_22 : decode cX9_listed 22 = .ok (.getfield 20, 3) := by decide +kernel
theorem dX9_listed_25 : decode cX9_listed 25 = .ok (.iconst 0, 1) := by decide +kernel
theorem dX9_listed_26 : decode cX9_listed 26 = .ok (.iaload, 1) := by decide +kernel
theorem dX9_listed_27 : decode cX9_listed 27 = .ok (.if_icmp .ge 61, 3) := by decide +kernel
theorem dX9_listed_30 : decode cX9_listed 30 = .ok (.iconst 0, 1) := by decide +kernel
theorem dX9_listed_31 : decode cX9_listed 31 = .ok (.istore 4, 2) := by decide +kernel
theorem dX9_listed_33 : decode cX9_listed 33 = .ok (.iconst 0, 1) := by decide +kernel
theorem dX9_listed_34 : decode cX9_listed 34 = .ok (.istore 5, 2) := by decide +kernel
theorem dX9_listed_36 : decode cX9_listed 36 = .ok (.iload 5, 2) := by decide +kernel
theorem dX9_listed_38 : decode cX9_listed 38 = .ok (.aload_n 0, 1) := by decide +kernel
theorem dX9_listed_39 : decode cX9_listed 39 = .ok (.getfield 20, 3) := by decide +kernel
theorem dX9_listed_42 : decode cX9_listed 42 = .ok (.iconst 0, 1) := by decide +kernel
theorem dX9_listed_43 : decode cX9_listed 43 = .ok (.iaload, 1) := by decide +kernel
theorem dX9_listed_44 : decode cX9_listed 44 = .ok (.if_icmp .ge 30, 3) := by decide +kernel
theorem dX9_listed_47 : decode cX9_listed 47 = .ok (.iload 4, 2) := by decide +kernel
theorem dX9_listed_49 : decode cX9_listed 49 = .ok (.aload_n 0, 1) := by decide +kernel
theorem dX9_listed_50 : decode cX9_listed 50 = .ok (.iload 5, 2) := by decide +kernel
theorem dX9_listed_52 : decode cX9_listed 52 = .ok (.iload_n 3, 1) := by decide +kernel
theorem dX9_listed_53 : decode cX9_listed 53 = .ok (.iload_n 2, 1) := by decide +kernel
theorem dX9_listed_54 : decode cX9_listed 54 = .ok (.invokevirtual 378, 3) := by decide +kernel
theorem dX9_listed_57 : decode cX9_listed 57 = .ok (.ifCond .eq 7, 3) := by decide +kernel
theorem dX9_listed_60 : decode cX9_listed 60 = .ok (.iconst 1, 1) := by decide +kernel
theorem dX9_listed_61 : decode cX9_listed 61 = .ok (.goto 4, 3) := by decide +kernel
theorem dX9_listed_64 : decode cX9_listed 64 = .ok (.iconst 0, 1) := by decide +kernel
theorem dX9_listed_65 : decode cX9_listed 65 = .ok (.iadd, 1) := by decide +kernel
theorem dX9_listed_66 : decode cX9_listed 66 = .ok (.istore 4, 2) := by decide +kernel
theorem dX9_listed_68 : decode cX9_listed 68 = .ok (.iinc 5 1, 3) := by decide +kernel
theorem dX9_listed_71 : decode cX9_listed 71 = .ok (.goto (-35), 3) := by decide +kernel
theorem dX9_listed_74 : decode cX9_listed 74 = .ok (.iload 4, 2) := by decide +kernel
theorem dX9_listed_76 : decode cX9_listed 76 = .ok (.iload_n 1, 1) := by decide +kernel
theorem dX9_listed_77 : decode cX9_listed 77 = .ok (.if_icmp .ne 5, 3) := by decide +kernel
theorem dX9_listed_80 : decode cX9_listed 80 = .ok (.iload_n 3, 1) := by decide +kernel
theorem dX9_listed_81 : decode cX9_listed 81 = .ok (.ireturn, 1) := by decide +kernel
theorem dX9_listed_82 : decode cX9_listed 82 = .ok (.iinc 3 1, 3) := by decide +kernel
theorem dX9_listed_85 : decode cX9_listed 85 = .ok (.goto (-65), 3) := by decide +kernel
theorem dX9_listed_88 : decode cX9_listed 88 = .ok (.iconst (-1), 1) := by decide +kernel
theorem dX9_listed_89 : decode cX9_listed 89 = .ok (.ireturn, 1) := by decide +kernel
theorem dX9_mustGo_0 : decode cX9_mustGo 0 = .ok (.aload_n 0, 1) := by decide +kernel
theorem dX9_mustGo_1 : decode cX9_mustGo 1 = .ok (.iconst 0, 1) := by decide +kernel
theorem dX9_mustGo_2 : decode cX9_mustGo 2 = .ok (.putfield 85, 3) := by decide +kernel
theorem dX9_mustGo_5 : decode cX9_mustGo 5 = .ok (.aload_n 0, 1) := by decide +kernel
theorem dX9_mustGo_6 : decode cX9_mustGo 6 = .ok (.iload_n 1, 1) := by decide +kernel
theorem dX9_mustGo_7 : decode cX9_mustGo 7 = .ok (.invokevirtual 322, 3) := by decide +kernel
theorem dX9_mustGo_10 : decode cX9_mustGo 10 = .ok (.ifCond .eq 11, 3) := by decide +kernel
theorem dX9_mustGo_13 : decode cX9_mustGo 13 = .ok (.iload_n 2, 1) := by decide +kernel
theorem dX9_mustGo_14 : decode cX9_mustGo 14 = .ok (.iload_n 3, 1) := by decide +kernel
theorem dX9_mustGo_15 : decode cX9_mustGo 15 = .ok (.invokestatic 370, 3) := by decide +kernel
theorem dX9_mustGo_18 : decode cX9_mustGo 18 = .ok (.ifCond .ne 5, 3) := by decide +kernel
theorem dX9_mustGo_21 : decode cX9_mustGo 21 = .ok (.iconst (-1), 1) := by decide +kernel
theorem dX9_mustGo_22 : decode cX9_mustGo 22 = .ok (.ireturn, 1) := by decide +kernel
theorem dX9_mustGo_23 : decode cX9_mustGo 23 = .ok (.iconst 0, 1) := by decide +kernel
theorem dX9_mustGo_24 : decode cX9_mustGo 24 = .ok (.istore 4, 2) := by decide +kernel
theorem dX9_mustGo_26 : decode cX9_mustGo 26 = .ok (.iconst 0, 1) := by decide +kernel
theorem dX9_mustGo_27 : decode cX9_mustGo 27 = .ok (.istore 5, 2) := by decide +kernel
theorem dX9_mustGo_29 : decode cX9_mustGo 29 = .ok (.iload 5, 2) := by decide +kernel
theorem dX9_mustGo_31 : decode cX9_mustGo 31 = .ok (.aload_n 0, 1) := by decide +kernel
theorem dX9_mustGo_32 : decode cX9_mustGo 32 = .ok (.getfield 20, 3) := by decide +kernel
theorem dX9_mustGo_35 : decode cX9_mustGo 35 = .ok (.iconst 0, 1) := by decide +kernel
theorem dX9_mustGo_36 : decode cX9_mustGo 36 = .ok (.iaload, 1) := by decide +kernel
theorem dX9_mustGo_37 : decode cX9_mustGo 37 = .ok (.if_icmp .ge 78, 3) := by decide +kernel
theorem dX9_mustGo_40 : decode cX9_mustGo 40 = .ok (.aload_n 0, 1) := by decide +kernel
theorem dX9_mustGo_41 : decode cX9_mustGo 41 = .ok (.iload 5, 2) := by decide +kernel
theorem dX9_mustGo_43 : decode cX9_mustGo 43 = .ok (.iload_n 1, 1) := by decide +kernel
theorem dX9_mustGo_44 : decode cX9_mustGo 44 = .ok (.invokevirtual 313, 3) := by decide +kernel
theorem dX9_mustGo_47 : decode cX9_mustGo 47 = .ok (.ifCond .ne 6, 3) := by decide +kernel
theorem dX9_mustGo_50 : decode cX9_mustGo 50 = .ok (.goto 59, 3) := by decide +kernel
theorem dX9_mustGo_53 : decode cX9_mustGo 53 = .ok (.iconst 0, 1) := by decide +kernel
theorem dX9_mustGo_54 : decode cX9_mustGo 54 = .ok (.istore 6, 2) := by decide +kernel
theorem dX9_mustGo_56 : decode cX9_mustGo 56 = .ok (.iload 6, 2) := by decide +kernel
theorem dX9_mustGo_58 : decode cX9_mustGo 58 = .ok (.aload_n 0, 1) := by decide +kernel
theorem dX9_mustGo_59 : decode cX9_mustGo 59 = .ok (.getfield 23, 3) := by decide +kernel
theorem dX9_mustGo_62 : decode cX9_mustGo 62 = .ok (.iconst 0, 1) := by decide +kernel
theorem dX9_mustGo_63 : decode cX9_mustGo 63 = .ok (.iaload, 1) := by decide +kernel
theorem dX9_mustGo_64 : decode cX9_mustGo 64 = .ok (.if_icmp .ge 45, 3) := by decide +kernel
theorem dX9_mustGo_67 : decode cX9_mustGo 67 = .ok (.iload 4, 2) := by decide +kernel
theorem dX9_mustGo_69 : decode cX9_mustGo 69 = .ok (.aload_n 0, 1) := by decide +kernel
theorem dX9_mustGo_70 : decode cX9_mustGo 70 = .ok (.iload 6, 2) := by decide +kernel
theorem dX9_mustGo_72 : decode cX9_mustGo 72 = .ok (.iload_n 3, 1) := by decide +kernel
theorem dX9_mustGo_73 : decode cX9_mustGo 73 = .ok (.iconst 0, 1) := by decide +kernel
theorem dX9_mustGo_74 : decode cX9_mustGo 74 = .ok (.invokevirtual 355, 3) := by decide +kernel
theorem dX9_mustGo_77 : decode cX9_mustGo 77 = .ok (.ifCond .eq 22, 3) := by decide +kernel
theorem dX9_mustGo_80 : decode cX9_mustGo 80 = .ok (.aload_n 0, 1) := by decide +kernel
theorem dX9_mustGo_81 : decode cX9_mustGo 81 = .ok (.iload 6, 2) := by decide +kernel
theorem dX9_mustGo_83 : decode cX9_mustGo 83 = .ok (.iload 5, 2) := by decide +kernel
theorem dX9_mustGo_85 : decode cX9_mustGo 85 = .ok (.invokevirtual 319, 3) := by decide +kernel
theorem dX9_mustGo_88 : decode cX9_mustGo 88 = .ok (.iload_n 2, 1) := by decide +kernel
theorem dX9_mustGo_89 : decode cX9_mustGo 89 = .ok (.if_icmp .le 10, 3) := by decide +kernel
theorem dX9_mustGo_92 : decode cX9_mustGo 92 = .ok (.iconst 1, 1) := by decide +kernel
theorem dX9_mustGo_93 : decode cX9_mustGo 93 = .ok (.iload 6, 2) := by decide +kernel
theorem dX9_mustGo_95 : decode cX9_mustGo 95 = .ok (.ishl, 1) := by decide +kernel
theorem dX9_mustGo_96 : decode cX9_mustGo 96 = .ok (.goto 4, 3) := by decide +kernel
theorem dX9_mustGo_99 : decode cX9_mustGo 99 = .ok (.iconst 0, 1) := by decide +kernel
theorem dX9_mustGo_100 : decode cX9_mustGo 100 = .ok (.ior, 1) := by decide +kernel
theorem dX9_mustGo_101 : decode cX9_mustGo 101 = .ok (.istore 4, 2) := by decide +kernel
theorem dX9_mustGo_103 : decode cX9_mustGo 103 = .ok (.iinc 6 1, 3) := by decide +kernel
theorem dX9_mustGo_106 : decode cX9_mustGo 106 = .ok (.goto (-50), 3) := by decide +kernel
theorem dX9_mustGo_109 : decode cX9_mustGo 109 = .ok (.iinc 5 1, 3) := by decide +kernel
theorem dX9_mustGo_112 : decode cX9_mustGo 112 = .ok (.goto (-83), 3) := by decide +kernel
theorem dX9_mustGo_115 : decode cX9_mustGo 115 = .ok (.iload 4, 2) := by decide +kernel
theorem dX9_mustGo_117 : decode cX9_mustGo 117 = .ok (.ireturn, 1) := by decide +kernel
theorem dX9_best_0 : decode cX9_best 0 = .ok (.aload_n 0, 1) := by decide +kernel
theorem dX9_best_1 : decode cX9_best 1 = .ok (.iconst 0, 1) := by decide +kernel
theorem dX9_best_2 : decode cX9_best 2 = .ok (.putfield 85, 3) := by decide +kernel
theorem dX9_best_5 : decode cX9_best 5 = .ok (.aload_n 0, 1) := by decide +kernel
theorem dX9_best_6 : decode cX9_best 6 = .ok (.invokevirtual 361, 3) := by decide +kernel
theorem dX9_best_9 : decode cX9_best 9 = .ok (.iload_n 1, 1) := by decide +kernel
theorem dX9_best_10 : decode cX9_best 10 = .ok (.iload_n 2, 1) := by decide +kernel
theorem dX9_best_11 : decode cX9_best 11 = .ok (.invokestatic 370, 3) := by decide +kernel
theorem dX9_best_14 : decode cX9_best 14 = .ok (.ifCond .eq 15, 3) := by decide +kernel
theorem dX9_best_17 : decode cX9_best 17 = .ok (.iload_n 3, 1) := by decide +kernel
theorem dX9_best_18 : decode cX9_best 18 = .ok (.i2l, 1) := by decide +kernel
theorem dX9_best_19 : decode cX9_best 19 = .ok (.lconst 0, 1) := by decide +kernel
theorem dX9_best_20 : decode cX9_best 20 = .ok (.ldc2_w 131, 3) := by decide +kernel
theorem dX9_best_23 : decode cX9_best 23 = .ok (.invokestatic 123, 3) := by decide +kernel
theorem dX9_best_26 : decode cX9_best 26 = .ok (.ifCond .ne 5, 3) := by decide +kernel
theorem dX9_best_29 : decode cX9_best 29 = .ok (.iconst (-1), 1) := by decide +kernel
theorem dX9_best_30 : decode cX9_best 30 = .ok (.ireturn, 1) := by decide +kernel
theorem dX9_best_31 : decode cX9_best 31 = .ok (.iconst (-1), 1) := by decide +kernel
theorem dX9_best_32 : decode cX9_best 32 = .ok (.istore 4, 2) := by decide +kernel
theorem dX9_best_34 : decode cX9_best 34 = .ok (.iconst 0, 1) := by decide +kernel
theorem dX9_best_35 : decode cX9_best 35 = .ok (.istore 5, 2) := by decide +kernel
theorem dX9_best_37 : decode cX9_best 37 = .ok (.iconst 0, 1) := by decide +kernel
theorem dX9_best_38 : decode cX9_best 38 = .ok (.istore 6, 2) := by decide +kernel
theorem dX9_best_40 : decode cX9_best 40 = .ok (.iload 6, 2) := by decide +kernel
theorem dX9_best_42 : decode cX9_best 42 = .ok (.iconst 1, 1) := by decide +kernel
theorem dX9_best_43 : decode cX9_best 43 = .ok (.aload_n 0, 1) := by decide +kernel
theorem dX9_best_44 : decode cX9_best 44 = .ok (.getfield 23, 3) := by decide +kernel
theorem dX9_best_47 : decode cX9_best 47 = .ok (.iconst 0, 1) := by decide +kernel
theorem dX9_best_48 : decode cX9_best 48 = .ok (.iaload, 1) := by decide +kernel
theorem dX9_best_49 : decode cX9_best 49 = .ok (.ishl, 1) := by decide +kernel
theorem dX9_best_50 : decode cX9_best 50 = .ok (.if_icmp .ge 89, 3) := by decide +kernel
theorem dX9_best_53 : decode cX9_best 53 = .ok (.iload 6, 2) := by decide +kernel
theorem dX9_best_55 : decode cX9_best 55 = .ok (.invokestatic 381, 3) := by decide +kernel
theorem dX9_best_58 : decode cX9_best 58 = .ok (.iload_n 3, 1) := by decide +kernel
theorem dX9_best_59 : decode cX9_best 59 = .ok (.if_icmp .le 6, 3) := by decide +kernel
theorem dX9_best_62 : decode cX9_best 62 = .ok (.goto 71, 3) := by decide +kernel
theorem dX9_best_65 : decode cX9_best 65 = .ok (.aload_n 0, 1) := by decide +kernel
theorem dX9_best_66 : decode cX9_best 66 = .ok (.iload_n 1, 1) := by decide +kernel
theorem dX9_best_67 : decode cX9_best 67 = .ok (.iload_n 2, 1) := by decide +kernel
theorem dX9_best_68 : decode cX9_best 68 = .ok (.iload 6, 2) := by decide +kernel
theorem dX9_best_70 : decode cX9_best 70 = .ok (.invokevirtual 373, 3) := by decide +kernel
theorem dX9_best_73 : decode cX9_best 73 = .ok (.invokestatic 381, 3) := by decide +kernel
theorem dX9_best_76 : decode cX9_best 76 = .ok (.istore 7, 2) := by decide +kernel
theorem dX9_best_78 : decode cX9_best 78 = .ok (.iload 4, 2) := by decide +kernel
theorem dX9_best_80 : decode cX9_best 80 = .ok (.ifCond .lt 30, 3) := by decide +kernel
theorem dX9_best_83 : decode cX9_best 83 = .ok (.iload 7, 2) := by decide +kernel
theorem dX9_best_85 : decode cX9_best 85 = .ok (.iload 5, 2) := by decide +kernel
theorem dX9_best_87 : decode cX9_best 87 = .ok (.if_icmp .gt 23, 3) := by decide +kernel
theorem dX9_best_90 : decode cX9_best 90 = .ok (.iload 7, 2) := by decide +kernel
theorem dX9_best_92 : decode cX9_best 92 = .ok (.iload 5, 2) := by decide +kernel
theorem dX9_best_94 : decode cX9_best 94 = .ok (.if_icmp .ne 20, 3) := by decide +kernel
theorem dX9_best_97 : decode cX9_best 97 = .ok (.iload 6, 2) := by decide +kernel
theorem dX9_best_99 : decode cX9_best 99 = .ok (.invokestatic 381, 3) := by decide +kernel
theorem dX9_best_102 : decode cX9_best 102 = .ok (.iload 4, 2) := by decide +kernel
theorem dX9_best_104 : decode cX9_best 104 = .ok (.invokestatic 381, 3) := by decide +kernel
theorem dX9_best_107 : decode cX9_best 107 = .ok (.if_icmp .ge 7, 3) := by decide +kernel
theorem dX9_best_110 : decode cX9_best 110 = .ok (.iconst 1, 1) := by decide +kernel
theorem dX9_best_111 : decode cX9_best 111 = .ok (.goto 4, 3) := by decide +kernel
theorem dX9_best_114 : decode cX9_best 114 = .ok (.iconst 0, 1) := by decide +kernel
theorem dX9_best_115 : decode cX9_best 115 = .ok (.istore 8, 2) := by decide +kernel
theorem dX9_best_117 : decode cX9_best 117 = .ok (.iload 8, 2) := by decide +kernel
theorem dX9_best_119 : decode cX9_best 119 = .ok (.ifCond .ne 6, 3) := by decide +kernel
theorem dX9_best_122 : decode cX9_best 122 = .ok (.goto 11, 3) := by decide +kernel
theorem dX9_best_125 : decode cX9_best 125 = .ok (.iload 6, 2) := by decide +kernel
theorem dX9_best_127 : decode cX9_best 127 = .ok (.istore 4, 2) := by decide +kernel
theorem dX9_best_129 : decode cX9_best 129 = .ok (.iload 7, 2) := by decide +kernel
theorem dX9_best_131 : decode cX9_best 131 = .ok (.istore 5, 2) := by decide +kernel
theorem dX9_best_133 : decode cX9_best 133 = .ok (.iinc 6 1, 3) := by decide +kernel
theorem dX9_best_136 : decode cX9_best 136 = .ok (.goto (-96), 3) := by decide +kernel
theorem dX9_best_139 : decode cX9_best 139 = .ok (.iload 4, 2) := by decide +kernel
theorem dX9_best_141 : decode cX9_best 141 = .ok (.ireturn, 1) := by decide +kernel
theorem dX9_openWithout_0 : decode cX9_openWithout 0 = .ok (.aload_n 0, 1) := by decide +kernel
theorem dX9_openWithout_1 : decode cX9_openWithout 1 = .ok (.iconst 0, 1) := by decide +kernel
theorem dX9_openWithout_2 : decode cX9_openWithout 2 = .ok (.putfield 85, 3) := by decide +kernel
theorem dX9_openWithout_5 : decode cX9_openWithout 5 = .ok (.aload_n 0, 1) := by decide +kernel
theorem dX9_openWithout_6 : decode cX9_openWithout 6 = .ok (.invokevirtual 361, 3) := by decide +kernel
theorem dX9_openWithout_9 : decode cX9_openWithout 9 = .ok (.iload_n 1, 1) := by decide +kernel
theorem dX9_openWithout_10 : decode cX9_openWithout 10 = .ok (.iload_n 2, 1) := by decide +kernel
theorem dX9_openWithout_11 : decode cX9_openWithout 11 = .ok (.invokestatic 370, 3) := by decide +kernel
theorem dX9_openWithout_14 : decode cX9_openWithout 14 = .ok (.ifCond .eq 36, 3) := by decide +kernel
theorem dX9_openWithout_17 : decode cX9_openWithout 17 = .ok (.iload_n 3, 1) := by decide +kernel
theorem dX9_openWithout_18 : decode cX9_openWithout 18 = .ok (.i2l, 1) := by decide +kernel
theorem dX9_openWithout_19 : decode cX9_openWithout 19 = .ok (.lconst 0, 1) := by decide +kernel
theorem dX9_openWithout_20 : decode cX9_openWithout 20 = .ok (.iconst 1, 1) := by decide +kernel
theorem dX9_openWithout_21 : decode cX9_openWithout 21 = .ok (.aload_n 0, 1) := by decide +kernel
theorem dX9_openWithout_22 : decode cX9_openWithout 22 = .ok (.getfield 23, 3) := by decide +kernel
theorem dX9_openWithout_25 : decode cX9_openWithout 25 = .ok (.iconst 0, 1) := by decide +kernel
theorem dX9_openWithout_26 : decode cX9_openWithout 26 = .ok (.iaload, 1) := by decide +kernel
theorem dX9_openWithout_27 : decode cX9_openWithout 27 = .ok (.ishl, 1) := by decide +kernel
theorem dX9_openWithout_28 : decode cX9_openWithout 28 = .ok (.iconst 1, 1) := by decide +kernel
theorem dX9_openWithout_29 : decode cX9_openWithout 29 = .ok (.isub, 1) := by decide +kernel
theorem dX9_openWithout_30 : decode cX9_openWithout 30 = .ok (.i2l, 1) := by decide +kernel
theorem dX9_openWithout_31 : decode cX9_openWithout 31 = .ok (.invokestatic 123, 3) := by decide +kernel
theorem dX9_openWithout_34 : decode cX9_openWithout 34 = .ok (.ifCond .eq 16, 3) := by decide +kernel
theorem dX9_openWithout_37 : decode cX9_openWithout 37 = .ok (.aload_n 0, 1) := by decide +kernel
theorem dX9_openWithout_38 : decode cX9_openWithout 38 = .ok (.iload_n 1, 1) := by decide +kernel
theorem dX9_openWithout_39 : decode cX9_openWithout 39 = .ok (.iload_n 2, 1) := by decide +kernel
theorem dX9_openWithout_40 : decode cX9_openWithout 40 = .ok (.iload_n 3, 1) := by decide +kernel
theorem dX9_openWithout_41 : decode cX9_openWithout 41 = .ok (.invokevirtual 373, 3) := by decide +kernel
theorem dX9_openWithout_44 : decode cX9_openWithout 44 = .ok (.invokestatic 381, 3) := by decide +kernel
theorem dX9_openWithout_47 : decode cX9_openWithout 47 = .ok (.goto 4, 3) := by decide +kernel
theorem dX9_openWithout_50 : decode cX9_openWithout 50 = .ok (.iconst (-1), 1) := by decide +kernel
theorem dX9_openWithout_51 : decode cX9_openWithout 51 = .ok (.ireturn, 1) := by decide +kernel
theorem qw_633 : (Cond.code yX9_isAsked cX9_isAsked 2 (some .boolean) : Cond) ∈ TBL := List.mem_of_getElem? (i := 789) (by decide +kernel)
theorem qw_634 : (Cond.methodLink RX9 370 yX9_isAsked : Cond) ∈ TBL := List.mem_of_getElem? (i := 787) (by decide +kernel)
theorem qw_635 : (Cond.static yX9_isAsked : Cond) ∈ TBL := List.mem_of_getElem? (i := 788) (by decide +kernel)
theorem qw_636 : (Cond.code yX9_openOn cX9_openOn 6 (some .int) : Cond) ∈ TBL := List.mem_of_getElem? (i := 793) (by decide +kernel)
theorem qw_637 : (Cond.methodLink RX9 373 yX9_openOn : Cond) ∈ TBL := List.mem_of_getElem? (i := 790) (by decide +kernel)
theorem qw_638 : (Cond.instanceMethod yX9_openOn : Cond) ∈ TBL := List.mem_of_getElem? (i := 791) (by decide +kernel)
theorem qw_639 : (Cond.selects RX9 yX9_openOn yX9_openOn : Cond) ∈ TBL := List.mem_of_getElem? (i := 792) (by decide +kernel)
theorem qw_640 : (Cond.constantLong RX9 376 (-1) : Cond) ∈ TBL := List.mem_of_getElem? (i := 802) (by decide +kernel)
theorem qw_641 : (Cond.code yX9_isAhead cX9_isAhead 6 (some .boolean) : Cond) ∈ TBL := List.mem_of_getElem? (i := 822) (by decide +kernel)
theorem qw_642 : (Cond.methodLink RX9 378 yX9_isAhead : Cond) ∈ TBL := List.mem_of_getElem? (i := 819) (by decide +kernel)
theorem qw_643 : (Cond.instanceMethod yX9_isAhead : Cond) ∈ TBL := List.mem_of_getElem? (i := 820) (by decide +kernel)
theorem qw_644 : (Cond.selects RX9 yX9_isAhead yX9_isAhead : Cond) ∈ TBL := List.mem_of_getElem? (i := 821) (by decide +kernel)
theorem qw_645 : (Cond.code yX9_count1 cX9_count1 3 (some .int) : Cond) ∈ TBL := List.mem_of_getElem? (i := 856) (by decide +kernel)
theorem qw_646 : (Cond.methodLink RX9 381 yX9_count1 : Cond) ∈ TBL := List.mem_of_getElem? (i := 854) (by decide +kernel)
theorem qw_647 : (Cond.static yX9_count1 : Cond) ∈ TBL := List.mem_of_getElem? (i := 855) (by decide +kernel)
theorem rgP14_ae3a98f {D : va_G} {cl : List vw_C} {H : Heap} {c0 c1 c2 c3 c4 c5 c6 c7 c8 c9 c10 c11 c12 c13 : Nat × va_E} (h : va_P D cl ([c0, c1, c2, c3, c4, c5, c6, c7, c8, c9, c10, c11, c12, c13]) H) : va_P D cl ([c0, c1, c2, c8, c13]) H := h.sub (ws' := [c0, c1, c2, c8, c13]) [0, 1, 2, 8, 13] rfl
theorem rgK13_46755f9 {D : va_G} {cl : List vw_C} {U : State} {t0 t1 t2 t3 t4 t5 t6 t7 t8 t9 t10 t11 t12 : ClassId × FieldType} (h : va_K D cl [t0, t1, t2, t3, t4, t5, t6, t7, t8, t9, t10, t11, t12] U) : va_K D cl [t0, t1, t7, t12] U := h.sub (tys' := [t0, t1, t7, t12]) [0, 1, 7, 12] rfl
theorem rgP14_00aefce {D : va_G} {cl : List vw_C} {H : Heap} {c0 c1 c2 c3 c4 c5 c6 c7 c8 c9 c10 c11 c12 c13 : Nat × va_E} (h : va_P D cl ([c0, c1, c2, c3, c4, c5, c6, c7, c8, c9, c10, c11, c12, c13]) H) : va_P D cl ([c0, c2, c8, c12, c13]) H := h.sub (ws' := [c0, c2, c8, c12, c13]) [0, 2, 8, 12, 13] rfl
theorem rgK13_33899b2 {D : va_G} {cl : List vw_C} {U : State} {t0 t1 t2 t3 t4 t5 t6 t7 t8 t9 t10 t11 t12 : ClassId × FieldType} (h : va_K D cl [t0, t1, t2, t3, t4, t5, t6, t7, t8, t9, t10, t11, t12] U) : va_K D cl [t1, t7, t11, t12] U := h.sub (tys' := [t1, t7, t11, t12]) [1, 7, 11, 12] rfl
theorem rgP13_3246ca5 {D : va_G} {cl : List vw_C} {H : Heap} {c0 c1 c2 c3 c4 c5 c6 c7 c8 c9 c10 c11 c12 : Nat × va_E} (h : va_P D cl ([c0, c1, c2, c3, c4, c5, c6, c7, c8, c9, c10, c11, c12]) H) : va_P D cl ([c0, c12]) H := h.sub (ws' := [c0, c12]) [0, 12] rfl
theorem rgK12_2a1ca9e {D : va_G} {cl : List vw_C} {U : State} {t0 t1 t2 t3 t4 t5 t6 t7 t8 t9 t10 t11 : ClassId × FieldType} (h : va_K D cl [t0, t1, t2, t3, t4, t5, t6, t7, t8, t9, t10, t11] U) : va_K D cl [t11] U := h.sub (tys' := [t11]) [11] rfl
theorem rgP13_f5af449 {D : va_G} {cl : List vw_C} {H : Heap} {c0 c1 c2 c3 c4 c5 c6 c7 c8 c9 c10 c11 c12 : Nat × va_E} (h : va_P D cl ([c0, c1, c2, c3, c4, c5, c6, c7, c8, c9, c10, c11, c12]) H) : va_P D cl ([c0, c8]) H := h.sub (ws' := [c0, c8]) [0, 8] rfl
theorem rgK12_e191d58 {D : va_G} {cl : List vw_C} {U : State} {t0 t1 t2 t3 t4 t5 t6 t7 t8 t9 t10 t11 : ClassId × FieldType} (h : va_K D cl [t0, t1, t2, t3, t4, t5, t6, t7, t8, t9, t10, t11] U) : va_K D cl [t7] U := h.sub (tys' := [t7]) [7] rfl
set_option maxHeartbeats 4000000 in
set_option maxRecDepth 100000 in
theorem k_X9_open (l : Launch) (dC : Nat → ClassId) (dI : Nat → Nat → Nat) (g : Gv) (sz : Nat) (a0 : Nat) (a1 : Int32) (a2 : Int32) (a0_0 : Int32) (a0_1 : Int32) (a0_2 : Int32) (a0_3 : Int32) (a0_4 : Nat) (a0_5 : Int32) (a0_6 : Int32) (a0_7 : Int32) (a0_8 : Int32) (a0_9 : Int32) (a0_10 : Int32) (a0_11 : Int64) (a0_12 : Int32) (a0_13 : Int32) (a0_14 : Int32) (a0_15 : Int32) (a0_16 : Int32) (a0_17 : Int32) (a0_18 : Nat) (a0_19 : Nat) (a0_20 : Nat) (a0_21 : Nat) (a0_22 : Nat) (a0_23 : Nat) (a0_24 : Nat) (a0_25 : Nat) (a0_26 : Nat) (a0_27 : Nat) (a0_28 : Nat) (a0_29 : Nat) (a0_30 : Nat) (a0_31 : Nat) (a0_32 : Nat) (a0_33 : Nat) (a0_34 : Nat) (a0_35 : Nat) (a0_36 : Int64) (a0_37 : Int32) (a0_38 : Nat) (a0_39 : Nat) (a0_40 : Int32) (a0_41 : Nat) (a0_42 : Nat) (a0_43 : Nat) (a0_20_c : ClassId) (a0_20_f : Nat → Int32) (a0_21_c : ClassId) (a0_21_f : Nat → Int32) (a0_23_c : ClassId) (a0_23_f : Nat → Int32) (a0_26_c : ClassId) (a0_26_f : Nat → Int32) (a0_29_c : ClassId) (a0_29_f : Nat → Int32) (a0_30_c : ClassId) (a0_30_f : Nat → Int32) (a0_31_c : ClassId) (a0_31_f : Nat → Int32) (a0_32_c : ClassId) (a0_32_f : Nat → Int32) (a0_33_c : ClassId) (a0_33_f : Nat → Int32) (a0_34_c : ClassId) (a0_34_f : Nat → Int32) (a0_35_c : ClassId) (a0_35_f : Nat → Int32) (a0_38_c : ClassId) (a0_38_f : Nat → Int32) (a0_43_c : ClassId) (a0_43_f : Nat → Int32) (h_a0_5 : 0 ≤ a0_5.toInt ∧ a0_5.toInt ≤ 1000) (h_a0_6 : 0 ≤ a0_6.toInt ∧ a0_6.toInt ≤ 1000) (h_a0_7 : 0 ≤ a0_7.toInt ∧ a0_7.toInt ≤ 1000) (h_a0_8 : 0 ≤ a0_8.toInt ∧ a0_8.toInt ≤ 1000) (h_a0_17 : 0 ≤ a0_17.toInt ∧ a0_17.toInt ≤ 1) (h_a0_37 : (-1) ≤ a0_37.toInt ∧ a0_37.toInt ≤ 23) (h_a0_40 : 0 ≤ a0_40.toInt ∧ a0_40.toInt ≤ 12) (h_a0_20_f : vr 0 24 a0_20_f) (h_a0_21_f : vr 0 12 a0_21_f) (hms : RowOk (a0_20_f 0).toInt a0_38_f 0) (hmw : WOk a0_32_f a0_33_f 0 (a0_21_f 0).toInt) : Met l yX9_open (.code yX9_open cX9_open 3 (some .int) :: TBL) ({ frames := 8, cells := 0, slots := 0, locals := 186 }) (va_Pc [.ref a0, .int a1, .int a2] (fun U => U.heap.size = sz ∧ va_P (dC, dI) vwCl [(a0, .inr (8, [.int a0_0, .int a0_1, .int a0_2, .int a0_3, .ref a0_4, .int a0_5, .int a0_6, .int a0_7, .int a0_8, .int a0_9, .int a0_10, .long a0_11, .int a0_12, .int a0_13, .int a0_14, .int a0_15, .int a0_16, .int a0_17, .ref a0_18, .ref a0_19, .ref a0_20, .ref a0_21, .ref a0_22, .ref a0_23, .ref a0_24, .ref a0_25, .ref a0_26, .ref a0_27, .ref a0_28, .ref a0_29, .ref a0_30, .ref a0_31, .ref a0_32, .ref a0_33, .ref a0_34, .ref a0_35, .long a0_36, .int a0_37, .ref a0_38, .ref a0_39, .int a0_40, .ref a0_41, .ref a0_42, .ref a0_43])), (a0_20, .inl (a0_20_c, 2, .inl a0_20_f)), (a0_21, .inl (a0_21_c, 2, .inl a0_21_f)), (a0_23, .inl (a0_23_c, 16, .inl a0_23_f)), (a0_26, .inl (a0_26_c, 8, .inl a0_26_f)), (a0_29, .inl (a0_29_c, 48, .inl a0_29_f)), (a0_30, .inl (a0_30_c, 48, .inl a0_30_f)), (a0_31, .inl (a0_31_c, 48, .inl a0_31_f)), (a0_32, .inl (a0_32_c, 24, .inl a0_32_f)), (a0_33, .inl (a0_33_c, 24, .inl a0_33_f)), (a0_34, .inl (a0_34_c, 72, .inl a0_34_f)), (a0_35, .inl (a0_35_c, 24, .inl a0_35_f)), (a0_38, .inl (a0_38_c, 176, .inl a0_38_f)), (a0_43, .inl (a0_43_c, 288, .inl a0_43_f))] U.heap ∧ va_K (dC, dI) vwCl [(a0_20_c, .int), (a0_21_c, .int), (a0_23_c, .int), (a0_26_c, .int), (a0_29_c, .int), (a0_30_c, .int), (a0_31_c, .int), (a0_32_c, .int), (a0_33_c, .int), (a0_34_c, .int), (a0_35_c, .boolean), (a0_38_c, .int), (a0_43_c, .int)] U ∧ va_D (fun _ => True) [(a0, .inr (8, [.int a0_0, .int a0_1, .int a0_2, .int a0_3, .ref a0_4, .int a0_5, .int a0_6, .int a0_7, .int a0_8, .int a0_9, .int a0_10, .long a0_11, .int a0_12, .int a0_13, .int a0_14, .int a0_15, .int a0_16, .int a0_17, .ref a0_18, .ref a0_19, .ref a0_20, .ref a0_21, .ref a0_22, .ref a0_23, .ref a0_24, .ref a0_25, .ref a0_26, .ref a0_27, .ref a0_28, .ref a0_29, .ref a0_30, .ref a0_31, .ref a0_32, .ref a0_33, .ref a0_34, .ref a0_35, .long a0_36, .int a0_37, .ref a0_38, .ref a0_39, .int a0_40, .ref a0_41, .ref a0_42, .ref a0_43])), (a0_20, .inl (a0_20_c, 2, .inl a0_20_f)), (a0_21, .inl (a0_21_c, 2, .inl a0_21_f)), (a0_23, .inl (a0_23_c, 16, .inl a0_23_f)), (a0_26, .inl (a0_26_c, 8, .inl a0_26_f)), (a0_29, .inl (a0_29_c, 48, .inl a0_29_f)), (a0_30, .inl (a0_30_c, 48, .inl a0_30_f)), (a0_31, .inl (a0_31_c, 48, .inl a0_31_f)), (a0_32, .inl (a0_32_c, 24, .inl a0_32_f)), (a0_33, .inl (a0_33_c, 24, .inl a0_33_f)), (a0_34, .inl (a0_34_c, 72, .inl a0_34_f)), (a0_35, .inl (a0_35_c, 24, .inl a0_35_f)), (a0_38, .inl (a0_38_c, 176, .inl a0_38_f)), (a0_43, .inl (a0_43_c, 288, .inl a0_43_f))] ∧ Ev g (va_A [(a0, .inr (8, [.int a0_0, .int a0_1, .int a0_2, .int a0_3, .ref a0_4, .int a0_5, .int a0_6, .int a0_7, .int a0_8, .int a0_9, .int a0_10, .long a0_11, .int a0_12, .int a0_13, .int a0_14, .int a0_15, .int a0_16, .int a0_17, .ref a0_18, .ref a0_19, .ref a0_20, .ref a0_21, .ref a0_22, .ref a0_23, .ref a0_24, .ref a0_25, .ref a0_26, .ref a0_27, .ref a0_28, .ref a0_29, .ref a0_30, .ref a0_31, .ref a0_32, .ref a0_33, .ref a0_34, .ref a0_35, .long a0_36, .int a0_37, .ref a0_38, .ref a0_39, .int a0_40, .ref a0_41, .ref a0_42, .ref a0_43])), (a0_20, .inl (a0_20_c, 2, .inl a0_20_f)), (a0_21, .inl (a0_21_c, 2, .inl a0_21_f)), (a0_23, .inl (a0_23_c, 16, .inl a0_23_f)), (a0_26, .inl (a0_26_c, 8, .inl a0_26_f)), (a0_29, .inl (a0_29_c, 48, .inl a0_29_f)), (a0_30, .inl (a0_30_c, 48, .inl a0_30_f)), (a0_31, .inl (a0_31_c, 48, .inl a0_31_f)), (a0_32, .inl (a0_32_c, 24, .inl a0_32_f)), (a0_33, .inl (a0_33_c, 24, .inl a0_33_f)), (a0_34, .inl (a0_34_c, 72, .inl a0_34_f)), (a0_35, .inl (a0_35_c, 24, .inl a0_35_f)), (a0_38, .inl (a0_38_c, 176, .inl a0_38_f)), (a0_43, .inl (a0_43_c, 288, .inl a0_43_f))] sz) U)) (va_Qi (fun (r : Int32) (u : Int32) => u = r) (fun (u : Int32) (t : State) => ∃ (za0_0 : Int32) (za0_1 : Int32) (za0_2 : Int32) (za0_3 : Int32) (za0_43_f : Nat → Int32), va_P (dC, dI) vwCl [(a0, .inr (8, [.int za0_0, .int za0_1, .int za0_2, .int za0_3, .ref a0_4, .int a0_5, .int a0_6, .int a0_7, .int a0_8, .int a0_9, .int a0_10, .long a0_11, .int a0_12, .int a0_13, .int a0_14, .int a0_15, .int a0_16, .int a0_17, .ref a0_18, .ref a0_19, .ref a0_20, .ref a0_21, .ref a0_22, .ref a0_23, .ref a0_24, .ref a0_25, .ref a0_26, .ref a0_27, .ref a0_28, .ref a0_29, .ref a0_30, .ref a0_31, .ref a0_32, .ref a0_33, .ref a0_34, .ref a0_35, .long a0_36, .int a0_37, .ref a0_38, .ref a0_39, .int a0_40, .ref a0_41, .ref a0_42, .ref a0_43])), (a0_20, .inl (a0_20_c, 2, .inl a0_20_f)), (a0_21, .inl (a0_21_c, 2, .inl a0_21_f)), (a0_23, .inl (a0_23_c, 16, .inl a0_23_f)), (a0_26, .inl (a0_26_c, 8, .inl a0_26_f)), (a0_29, .inl (a0_29_c, 48, .inl a0_29_f)), (a0_30, .inl (a0_30_c, 48, .inl a0_30_f)), (a0_31, .inl (a0_31_c, 48, .inl a0_31_f)), (a0_32, .inl (a0_32_c, 24, .inl a0_32_f)), (a0_33, .inl (a0_33_c, 24, .inl a0_33_f)), (a0_34, .inl (a0_34_c, 72, .inl a0_34_f)), (a0_35, .inl (a0_35_c, 24, .inl a0_35_f)), (a0_38, .inl (a0_38_c, 176, .inl a0_38_f)), (a0_43, .inl (a0_43_c, 288, .inl za0_43_f))] t.heap ∧ va_K (dC, dI) vwCl [] t ∧ va_D (va_A [(a0, .inr (8, [.int a0_0, .int a0_1, .int a0_2, .int a0_3, .ref a0_4, .int a0_5, .int a0_6, .int a0_7, .int a0_8, .int a0_9, .int a0_10, .long a0_11, .int a0_12, .int a0_13, .int a0_14, .int a0_15, .int a0_16, .int a0_17, .ref a0_18, .ref a0_19, .ref a0_20, .ref a0_21, .ref a0_22, .ref a0_23, .ref a0_24, .ref a0_25, .ref a0_26, .ref a0_27, .ref a0_28, .ref a0_29, .ref a0_30, .ref a0_31, .ref a0_32, .ref a0_33, .ref a0_34, .ref a0_35, .long a0_36, .int a0_37, .ref a0_38, .ref a0_39, .int a0_40, .ref a0_41, .ref a0_42, .ref a0_43])), (a0_20, .inl (a0_20_c, 2, .inl a0_20_f)), (a0_21, .inl (a0_21_c, 2, .inl a0_21_f)), (a0_23, .inl (a0_23_c, 16, .inl a0_23_f)), (a0_26, .inl (a0_26_c, 8, .inl a0_26_f)), (a0_29, .inl (a0_29_c, 48, .inl a0_29_f)), (a0_30, .inl (a0_30_c, 48, .inl a0_30_f)), (a0_31, .inl (a0_31_c, 48, .inl a0_31_f)), (a0_32, .inl (a0_32_c, 24, .inl a0_32_f)), (a0_33, .inl (a0_33_c, 24, .inl a0_33_f)), (a0_34, .inl (a0_34_c, 72, .inl a0_34_f)), (a0_35, .inl (a0_35_c, 24, .inl a0_35_f)), (a0_38, .inl (a0_38_c, 176, .inl a0_38_f)), (a0_43, .inl (a0_43_c, 288, .inl a0_43_f))] sz) [(a0, .inr (8, [.int za0_0, .int za0_1, .int za0_2, .int za0_3, .ref a0_4, .int a0_5, .int a0_6, .int a0_7, .int a0_8, .int a0_9, .int a0_10, .long a0_11, .int a0_12, .int a0_13, .int a0_14, .int a0_15, .int a0_16, .int a0_17, .ref a0_18, .ref a0_19, .ref a0_20, .ref a0_21, .ref a0_22, .ref a0_23, .ref a0_24, .ref a0_25, .ref a0_26, .ref a0_27, .ref a0_28, .ref a0_29, .ref a0_30, .ref a0_31, .ref a0_32, .ref a0_33, .ref a0_34, .ref a0_35, .long a0_36, .int a0_37, .ref a0_38, .ref a0_39, .int a0_40, .ref a0_41, .ref a0_42, .ref a0_43])), (a0_20, .inl (a0_20_c, 2, .inl a0_20_f)), (a0_21, .inl (a0_21_c, 2, .inl a0_21_f)), (a0_23, .inl (a0_23_c, 16, .inl a0_23_f)), (a0_26, .inl (a0_26_c, 8, .inl a0_26_f)), (a0_29, .inl (a0_29_c, 48, .inl a0_29_f)), (a0_30, .inl (a0_30_c, 48, .inl a0_30_f)), (a0_31, .inl (a0_31_c, 48, .inl a0_31_f)), (a0_32, .inl (a0_32_c, 24, .inl a0_32_f)), (a0_33, .inl (a0_33_c, 24, .inl a0_33_f)), (a0_34, .inl (a0_34_c, 72, .inl a0_34_f)), (a0_35, .inl (a0_35_c, 24, .inl a0_35_f)), (a0_38, .inl (a0_38_c, 176, .inl a0_38_f)), (a0_43, .inl (a0_43_c, 288, .inl za0_43_f))]) (va_A [(a0, .inr (8, [.int a0_0, .int a0_1, .int a0_2, .int a0_3, .ref a0_4, .int a0_5, .int a0_6, .int a0_7, .int a0_8, .int a0_9, .int a0_10, .long a0_11, .int a0_12, .int a0_13, .int a0_14, .int a0_15, .int a0_16, .int a0_17, .ref a0_18, .ref a0_19, .ref a0_20, .ref a0_21, .ref a0_22, .ref a0_23, .ref a0_24, .ref a0_25, .ref a0_26, .ref a0_27, .ref a0_28, .ref a0_29, .ref a0_30, .ref a0_31, .ref a0_32, .ref a0_33, .ref a0_34, .ref a0_35, .long a0_36, .int a0_37, .ref a0_38, .ref a0_39, .int a0_40, .ref a0_41, .ref a0_42, .ref a0_43])), (a0_20, .inl (a0_20_c, 2, .inl a0_20_f)), (a0_21, .inl (a0_21_c, 2, .inl a0_21_f)), (a0_23, .inl (a0_23_c, 16, .inl a0_23_f)), (a0_26, .inl (a0_26_c, 8, .inl a0_26_f)), (a0_29, .inl (a0_29_c, 48, .inl a0_29_f)), (a0_30, .inl (a0_30_c, 48, .inl a0_30_f)), (a0_31, .inl (a0_31_c, 48, .inl a0_31_f)), (a0_32, .inl (a0_32_c, 24, .inl a0_32_f)), (a0_33, .inl (a0_33_c, 24, .inl a0_33_f)), (a0_34, .inl (a0_34_c, 72, .inl a0_34_f)), (a0_35, .inl (a0_35_c, 24, .inl a0_35_f)), (a0_38, .inl (a0_38_c, 176, .inl a0_38_f)), (a0_43, .inl (a0_43_c, 288, .inl a0_43_f))] sz)) 0 0 (va_A [(a0, .inr (8, [.int a0_0, .int a0_1, .int a0_2, .int a0_3, .ref a0_4, .int a0_5, .int a0_6, .int a0_7, .int a0_8, .int a0_9, .int a0_10, .long a0_11, .int a0_12, .int a0_13, .int a0_14, .int a0_15, .int a0_16, .int a0_17, .ref a0_18, .ref a0_19, .ref a0_20, .ref a0_21, .ref a0_22, .ref a0_23, .ref a0_24, .ref a0_25, .ref a0_26, .ref a0_27, .ref a0_28, .ref a0_29, .ref a0_30, .ref a0_31, .ref a0_32, .ref a0_33, .ref a0_34, .ref a0_35, .long a0_36, .int a0_37, .ref a0_38, .ref a0_39, .int a0_40, .ref a0_41, .ref a0_42, .ref a0_43])), (a0_20, .inl (a0_20_c, 2, .inl a0_20_f)), (a0_21, .inl (a0_21_c, 2, .inl a0_21_f)), (a0_23, .inl (a0_23_c, 16, .inl a0_23_f)), (a0_26, .inl (a0_26_c, 8, .inl a0_26_f)), (a0_29, .inl (a0_29_c, 48, .inl a0_29_f)), (a0_30, .inl (a0_30_c, 48, .inl a0_30_f)), (a0_31, .inl (a0_31_c, 48, .inl a0_31_f)), (a0_32, .inl (a0_32_c, 24, .inl a0_32_f)), (a0_33, .inl (a0_33_c, 24, .inl a0_33_f)), (a0_34, .inl (a0_34_c, 72, .inl a0_34_f)), (a0_35, .inl (a0_35_c, 24, .inl a0_35_f)), (a0_38, .inl (a0_38_c, 176, .inl a0_38_f)), (a0_43, .inl (a0_43_c, 288, .inl a0_43_f))] sz) := by
  refine Met.ofW (cc := cX9_open) (maxL := 3) (ret := (some .int)) (by decide) rfl ?_
  intro p e s m args below meth c s₁ B hml hv
  obtain ⟨rfl, hsz, hP, hK, hD0, hE⟩ := hv
  have hx := B.exec
  have hb := B.bytes
  have hr := B.returns
  have hts0 := atoms_spec (ws := (.code yX9_open cX9_open 3 (some .int) :: TBL)) B.pre
  have hts := fun (w : Cond) (h : w ∈ TBL) => hts0 w (List.mem_cons_of_mem _ h)
  have hown : s.vm.findClass RX9 = some m.cls := findClass_of_methodNamed B.named
  have hlocks := B.notSynchronized
  have hN := hE.1
  subst hsz
  have hD := hD0.self (sz := s.heap.size)
  generalize hAe : va_A [(a0, .inr (8, [.int a0_0, .int a0_1, .int a0_2, .int a0_3, .ref a0_4, .int a0_5, .int a0_6, .int a0_7, .int a0_8, .int a0_9, .int a0_10, .long a0_11, .int a0_12, .int a0_13, .int a0_14, .int a0_15, .int a0_16, .int a0_17, .ref a0_18, .ref a0_19, .ref a0_20, .ref a0_21, .ref a0_22, .ref a0_23, .ref a0_24, .ref a0_25, .ref a0_26, .ref a0_27, .ref a0_28, .ref a0_29, .ref a0_30, .ref a0_31, .ref a0_32, .ref a0_33, .ref a0_34, .ref a0_35, .long a0_36, .int a0_37, .ref a0_38, .ref a0_39, .int a0_40, .ref a0_41, .ref a0_42, .ref a0_43])), (a0_20, .inl (a0_20_c, 2, .inl a0_20_f)), (a0_21, .inl (a0_21_c, 2, .inl a0_21_f)), (a0_23, .inl (a0_23_c, 16, .inl a0_23_f)), (a0_26, .inl (a0_26_c, 8, .inl a0_26_f)), (a0_29, .inl (a0_29_c, 48, .inl a0_29_f)), (a0_30, .inl (a0_30_c, 48, .inl a0_30_f)), (a0_31, .inl (a0_31_c, 48, .inl a0_31_f)), (a0_32, .inl (a0_32_c, 24, .inl a0_32_f)), (a0_33, .inl (a0_33_c, 24, .inl a0_33_f)), (a0_34, .inl (a0_34_c, 72, .inl a0_34_f)), (a0_35, .inl (a0_35_c, 24, .inl a0_35_f)), (a0_38, .inl (a0_38_c, 176, .inl a0_38_f)), (a0_43, .inl (a0_43_c, 288, .inl a0_43_f))] s.heap.size = A at hD hE ⊢
  have hA : ∀ q : Nat, s.heap.size ≤ q → A q := fun q h => by rw [← hAe]; exact Or.inr h
  have hS : va_S A s.heap s.heap [] := va_S.rf
  replace hP : va_P (dC, dI) vwCl [(a0, .inr (8, [.int a0_0, .int a0_1, .int a0_2, .int a0_3, .ref a0_4, .int a0_5, .int a0_6, .int a0_7, .int a0_8, .int a0_9, .int a0_10, .long a0_11, .int a0_12, .int a0_13, .int a0_14, .int a0_15, .int a0_16, .int a0_17, .ref a0_18, .ref a0_19, .ref a0_20, .ref a0_21, .ref a0_22, .ref a0_23, .ref a0_24, .ref a0_25, .ref a0_26, .ref a0_27, .ref a0_28, .ref a0_29, .ref a0_30, .ref a0_31, .ref a0_32, .ref a0_33, .ref a0_34, .ref a0_35, .long a0_36, .int a0_37, .ref a0_38, .ref a0_39, .int a0_40, .ref a0_41, .ref a0_42, .ref a0_43])), (a0_20, .inl (a0_20_c, 2, .inl a0_20_f)), (a0_21, .inl (a0_21_c, 2, .inl a0_21_f)), (a0_23, .inl (a0_23_c, 16, .inl a0_23_f)), (a0_26, .inl (a0_26_c, 8, .inl a0_26_f)), (a0_29, .inl (a0_29_c, 48, .inl a0_29_f)), (a0_30, .inl (a0_30_c, 48, .inl a0_30_f)), (a0_31, .inl (a0_31_c, 48, .inl a0_31_f)), (a0_32, .inl (a0_32_c, 24, .inl a0_32_f)), (a0_33, .inl (a0_33_c, 24, .inl a0_33_f)), (a0_34, .inl (a0_34_c, 72, .inl a0_34_f)), (a0_35, .inl (a0_35_c, 24, .inl a0_35_f)), (a0_38, .inl (a0_38_c, 176, .inl a0_38_f)), (a0_43, .inl (a0_43_c, 288, .inl a0_43_f))] s.heap := hP
  have hl := lv_entry ([.ref a0, .int a1, .int a2]) (n := 3) (Nat.le_of_ble_eq_true rfl)
  rw [lg_entry_eq]
  generalize (lg_sl ([.ref a0, .int a1, .int a2]) ++ List.replicate (3 - (lg_sl ([.ref a0, .int a1, .int a2])).length) Slot.unset).toArray = ls at hl ⊢
  have hl : lv_has ls 3 [(0, .ref a0), (1, .int a1), (2, .int a2)] := hl
  have b_a1 := i32b a1
  have b_a2 := i32b a2
  have b_a0_0 := i32b a0_0
  have b_a0_1 := i32b a0_1
  have b_a0_2 := i32b a0_2
  have b_a0_3 := i32b a0_3
  have b_a0_9 := i32b a0_9
  have b_a0_10 := i32b a0_10
  have b_a0_12 := i32b a0_12
  have b_a0_13 := i32b a0_13
  have b_a0_14 := i32b a0_14
  have b_a0_15 := i32b a0_15
  have b_a0_16 := i32b a0_16
  have hp20 := vr_at h_a0_20_f (k := 0) rfl
  have hp21 := vr_at h_a0_21_f (k := 0) rfl
  refine lv_aload_n hx hb dX9_open_0 rfl (lv_at hl 0 rfl) ?_
  refine lv_iconst (v := 0) hx hb dX9_open_1 (by decide) ?_
  refine va_put (D := (dC, dI)) (ci := 8) (v := .int 0) (ty := .int) (C := RX9) (T := TX9) (N := 44) hx hb hts inlX9 tyX9 tyX9_ok nmX9 hown hK hP hD hS 0 rgL14_6e084ec rfl 0 (by decide) (hts (.fieldLink RX9 85 "ClosedUntilModel" "thrown" "I") qw_408) (fun _ h9 => h9) rfl (by decide +kernel) rfl rfl (Nat.le_of_ble_eq_true rfl) dX9_open_2 (fun H locs hP9 hD9 hS9 => ?_)
  clear hP hD hS
  obtain ⟨hP, hD⟩ := rgS14_947ddd8 (e := (a0, .inr (8, [.int 0, .int a0_1, .int a0_2, .int a0_3, .ref a0_4, .int a0_5, .int a0_6, .int a0_7, .int a0_8, .int a0_9, .int a0_10, .long a0_11, .int a0_12, .int a0_13, .int a0_14, .int a0_15, .int a0_16, .int a0_17, .ref a0_18, .ref a0_19, .ref a0_20, .ref a0_21, .ref a0_22, .ref a0_23, .ref a0_24, .ref a0_25, .ref a0_26, .ref a0_27, .ref a0_28, .ref a0_29, .ref a0_30, .ref a0_31, .ref a0_32, .ref a0_33, .ref a0_34, .ref a0_35, .long a0_36, .int a0_37, .ref a0_38, .ref a0_39, .int a0_40, .ref a0_41, .ref a0_42, .ref a0_43]))) hP9 hD9 rfl
  have hS := hS9; clear hP9 hD9 hS9
  refine lv_aload_n hx hb dX9_open_5 rfl (lv_at hl 0 rfl) ?_
  have qc0 : (0 : Int32).toInt = 0 := by decide
  have hPc := hP
  have hKc := hK
  have hDc := hD
  have hFc := freeW hDc hS hA
  refine va_callv (va_runV (As := []) (rest := []) ⟨hx, hb, hml, hown, hts⟩ (k_X9_laysEnds l dC dI g H.size (a0) (0) (a0_1) (a0_2) (a0_3) (a0_4) (a0_5) (a0_6) (a0_7) (a0_8) (a0_9) (a0_10) (a0_11) (a0_12) (a0_13) (a0_14) (a0_15) (a0_16) (a0_17) (a0_18) (a0_19) (a0_20) (a0_21) (a0_22) (a0_23) (a0_24) (a0_25) (a0_26) (a0_27) (a0_28) (a0_29) (a0_30) (a0_31) (a0_32) (a0_33) (a0_34) (a0_35) (a0_36) (a0_37) (a0_38) (a0_39) (a0_40) (a0_41) (a0_42) (a0_43) (a0_20_c) (a0_20_f) (a0_21_c) (a0_21_f) (a0_23_c) (a0_23_f) (a0_26_c) (a0_26_f) (a0_29_c) (a0_29_f) (a0_30_c) (a0_30_f) (a0_31_c) (a0_31_f) (a0_32_c) (a0_32_f) (a0_33_c) (a0_33_f) (a0_34_c) (a0_34_f) (a0_35_c) (a0_35_f) (a0_38_c) (a0_38_f) (a0_43_c) (a0_43_f) (by omega) (by omega) (by omega) (by omega) (by omega) (by omega) (by omega) h_a0_20_f h_a0_21_f (by assumption) (by assumption)) (cwV 0 hts (gwV qw_630 qw_631 qw_632 qw_386 qw_629) rfl rfl rfl (by decide +kernel) ⟨Nat.le_of_ble_eq_true rfl, Nat.le_of_ble_eq_true rfl⟩) ⟨fun a U g9 mk q => ⟨q.1, q.2.1, q.2.2.1, va_K.moved (u := U) (U := U.calling g9 mk a) (Vm.Alike.refl U.vm) q.2.2.2.1, q.2.2.2.2.1, Ev.bl q.2.2.2.2.2⟩, va_recv hK hP (ci := 8) (q0 := 0) rfl rgL14_6e084ec, fun U hU hW => ⟨rfl, by rw [hU], atB hU hPc, va_K.moved hW.alike hKc, hDc.weaken (fun _ _ _ _ => trivial), hE.go hS hFc hU hW⟩⟩ rfl rfl hl.1 rfl (lv_room (Nat.le_of_ble_eq_true rfl)) dX9_open_6 ⟨Nat.le_of_ble_eq_true rfl, Nat.le_of_ble_eq_true rfl⟩) hS (fun q _ h => hFc q h) hFc (fun u1 t H1 locs ht hvm h_u1 hB hz1 hk1 hS => ?_)
  obtain ⟨za0_1_3, za0_2_4, za0_3_5, za0_43_f_6, hP1, hK1, hD1⟩ := hB
  have hK1 := va_K.moved hvm.symm hK1
  have hJ9 := rgJ14_93bd4e1 hP hD hk1 hFc (atH ht hP1) hD1
  clear hP hD hPc hKc hDc hFc hP1 hD1 hk1 hz1
  obtain ⟨hP, hD⟩ := hJ9
  clear hK1
  generalize H1 = H at hP hS ⊢
  refine W.widen (k := 0) (n := 0) (Nat.le_of_ble_eq_true rfl) (Nat.le_of_ble_eq_true rfl) ?_
  refine lv_iload_n hx hb dX9_open_9 rfl (lv_at hl 1 rfl) ?_
  refine lv_iload_n hx hb dX9_open_10 rfl (lv_at hl 2 rfl) ?_
  have hPc := (rgP14_13c4e7a hP)
  have hKc := (rgK13_332f5b0 hK)
  refine vp_callSi ((va_runS (As := [.int a1, .int a2]) (rest := []) ⟨hx, hb, hml, hown, hts⟩ (k_X9_isAsked l dC dI g (a1) (a2) ) (va_cwS 2 hts (gwS qw_634 qw_635 qw_386 qw_633) rfl rfl rfl (by decide +kernel) ⟨Nat.le_of_ble_eq_true rfl, Nat.le_of_ble_eq_true rfl⟩) ⟨fun a U g9 mk q => ⟨q.1, q.2.1, va_K.moved (u := U) (U := U.calling g9 mk a) (Vm.Alike.refl U.vm) q.2.2.1, Ev.bl q.2.2.2⟩, fun U hU hW => ⟨rfl, atB hU hPc, va_K.moved hW.alike hKc, hE.go hS (fun _ h => h.elim) hU hW⟩⟩ rfl rfl hl.1 rfl (lv_room (Nat.le_of_ble_eq_true rfl)) dX9_open_11 ⟨Nat.le_of_ble_eq_true rfl, Nat.le_of_ble_eq_true rfl⟩)).run (fun r7 h_r7 => ?_)
  have h_r7 : (r7 = 0 ∨ r7 = 1) := h_r7
  have b_r7 := z01 (show r7 = 0 ∨ r7 = 1 from h_r7)
  refine lv_if_eq (tgt := 27) hx hb dX9_open_14 (by decide) (fun c14_8 => ?_) (fun c14_8 => ?_)
  · have c14_8 : r7.toInt = 0 := (cv_eq rfl (by decide)).mp c14_8
    refine lv_iconst (v := (-1)) hx hb dX9_open_27 (by decide) ?_
    have qcm1 : ((-1) : Int32).toInt = (-1) := by decide
    have qc0 : (0 : Int32).toInt = 0 := by decide
    refine W.widen (k := 0) (n := 0) (Nat.le_of_ble_eq_true rfl) (Nat.le_of_ble_eq_true rfl) ?_
    have hP9 := hP
    have hD9 := hD
    have hK9 := (rgK13_332f5b0 hK)
    exact W.iret (v := (-1)) hx hb hr (fun t ht hW => ⟨⟨(-1), (-1), rfl, rfl, 0, za0_1_3, za0_2_4, za0_3_5, za0_43_f_6, atB ht hP9, va_K.moved hW.alike hK9, hD9⟩, hS.F ht⟩) hS.2.2 dX9_open_28
  · have c14_8 : ¬ (r7.toInt = 0) := mt (cv_eq rfl (by decide)).mpr c14_8
    refine lv_aload_n hx hb dX9_open_17 rfl (lv_at hl 0 rfl) ?_
    refine lv_iload_n hx hb dX9_open_18 rfl (lv_at hl 1 rfl) ?_
    refine lv_iload_n hx hb dX9_open_19 rfl (lv_at hl 2 rfl) ?_
    refine lv_iconst (v := 0) hx hb dX9_open_20 (by decide) ?_
    have qc0 : (0 : Int32).toInt = 0 := by decide
    have hPc := (rgP14_ae3a98f hP)
    have hKc := (rgK13_46755f9 hK)
    refine vp_callSi ((va_runV (As := [.int a1, .int a2, .int 0]) (rest := []) ⟨hx, hb, hml, hown, hts⟩ (k_X9_openOn l dC dI g (a0) (a1) (a2) (0) (0) (za0_1_3) (za0_2_4) (za0_3_5) (a0_4) (a0_5) (a0_6) (a0_7) (a0_8) (a0_9) (a0_10) (a0_11) (a0_12) (a0_13) (a0_14) (a0_15) (a0_16) (a0_17) (a0_18) (a0_19) (a0_20) (a0_21) (a0_22) (a0_23) (a0_24) (a0_25) (a0_26) (a0_27) (a0_28) (a0_29) (a0_30) (a0_31) (a0_32) (a0_33) (a0_34) (a0_35) (a0_36) (a0_37) (a0_38) (a0_39) (a0_40) (a0_41) (a0_42) (a0_43) (a0_20_c) (a0_20_f) (a0_21_c) (a0_21_f) (a0_32_c) (a0_32_f) (a0_43_c) (za0_43_f_6) (by omega) (by omega) (by omega) (by omega) (by omega) (by omega) (by omega) h_a0_20_f h_a0_21_f) (cwV 3 hts (gwV qw_637 qw_638 qw_639 qw_386 qw_636) rfl rfl rfl (by decide +kernel) ⟨Nat.le_of_ble_eq_true rfl, Nat.le_of_ble_eq_true rfl⟩) ⟨fun a U g9 mk q => ⟨q.1, q.2.1, va_K.moved (u := U) (U := U.calling g9 mk a) (Vm.Alike.refl U.vm) q.2.2.1, Ev.bl q.2.2.2⟩, va_recv hK hP (ci := 8) (q0 := 0) rfl rgL14_6e084ec, fun U hU hW => ⟨rfl, atB hU hPc, va_K.moved hW.alike hKc, hE.go hS (fun _ h => h.elim) hU hW⟩⟩ rfl rfl hl.1 rfl (lv_room (Nat.le_of_ble_eq_true rfl)) dX9_open_21 ⟨Nat.le_of_ble_eq_true rfl, Nat.le_of_ble_eq_true rfl⟩)).run (fun r9 h_r9 => ?_)
    have b_r9 := i32b r9
    refine lv_goto (tgt := 28) hx hb dX9_open_24 (by decide) ?_
    have qc0 : (0 : Int32).toInt = 0 := by decide
    refine W.widen (k := 0) (n := 0) (Nat.le_of_ble_eq_true rfl) (Nat.le_of_ble_eq_true rfl) ?_
    have hP9 := hP
    have hD9 := hD
    have hK9 := (rgK13_332f5b0 hK)
    exact W.iret (v := r9) hx hb hr (fun t ht hW => ⟨⟨r9, r9, rfl, rfl, 0, za0_1_3, za0_2_4, za0_3_5, za0_43_f_6, atB ht hP9, va_K.moved hW.alike hK9, hD9⟩, hS.F ht⟩) hS.2.2 dX9_open_28
set_option maxHeartbeats 4000000 in
set_option maxRecDepth 100000 in
theorem k_X9_next (l : Launch) (dC : Nat → ClassId) (dI : Nat → Nat → Nat) (g : Gv) (sz : Nat) (a0 : Nat) (a1 : Int32) (a2 : Int32) (a0_0 : Int32) (a0_1 : Int32) (a0_2 : Int32) (a0_3 : Int32) (a0_4 : Nat) (a0_5 : Int32) (a0_6 : Int32) (a0_7 : Int32) (a0_8 : Int32) (a0_9 : Int32) (a0_10 : Int32) (a0_11 : Int64) (a0_12 : Int32) (a0_13 : Int32) (a0_14 : Int32) (a0_15 : Int32) (a0_16 : Int32) (a0_17 : Int32) (a0_18 : Nat) (a0_19 : Nat) (a0_20 : Nat) (a0_21 : Nat) (a0_22 : Nat) (a0_23 : Nat) (a0_24 : Nat) (a0_25 : Nat) (a0_26 : Nat) (a0_27 : Nat) (a0_28 : Nat) (a0_29 : Nat) (a0_30 : Nat) (a0_31 : Nat) (a0_32 : Nat) (a0_33 : Nat) (a0_34 : Nat) (a0_35 : Nat) (a0_36 : Int64) (a0_37 : Int32) (a0_38 : Nat) (a0_39 : Nat) (a0_40 : Int32) (a0_41 : Nat) (a0_42 : Nat) (a0_43 : Nat) (a0_20_c : ClassId) (a0_20_f : Nat → Int32) (a0_21_c : ClassId) (a0_21_f : Nat → Int32) (a0_23_c : ClassId) (a0_23_f : Nat → Int32) (a0_26_c : ClassId) (a0_26_f : Nat → Int32) (a0_29_c : ClassId) (a0_29_f : Nat → Int32) (a0_30_c : ClassId) (a0_30_f : Nat → Int32) (a0_31_c : ClassId) (a0_31_f : Nat → Int32) (a0_32_c : ClassId) (a0_32_f : Nat → Int32) (a0_33_c : ClassId) (a0_33_f : Nat → Int32) (a0_34_c : ClassId) (a0_34_f : Nat → Int32) (a0_35_c : ClassId) (a0_35_f : Nat → Int32) (a0_38_c : ClassId) (a0_38_f : Nat → Int32) (a0_43_c : ClassId) (a0_43_f : Nat → Int32) (h_a0_5 : 0 ≤ a0_5.toInt ∧ a0_5.toInt ≤ 1000) (h_a0_6 : 0 ≤ a0_6.toInt ∧ a0_6.toInt ≤ 1000) (h_a0_7 : 0 ≤ a0_7.toInt ∧ a0_7.toInt ≤ 1000) (h_a0_8 : 0 ≤ a0_8.toInt ∧ a0_8.toInt ≤ 1000) (h_a0_17 : 0 ≤ a0_17.toInt ∧ a0_17.toInt ≤ 1) (h_a0_37 : (-1) ≤ a0_37.toInt ∧ a0_37.toInt ≤ 23) (h_a0_40 : 0 ≤ a0_40.toInt ∧ a0_40.toInt ≤ 12) (h_a0_20_f : vr 0 24 a0_20_f) (h_a0_21_f : vr 0 12 a0_21_f) (hms : RowOk (a0_20_f 0).toInt a0_38_f 0) (hmw : WOk a0_32_f a0_33_f 0 (a0_21_f 0).toInt) : Met l yX9_next (.code yX9_next cX9_next 6 (some .int) :: TBL) ({ frames := 8, cells := 0, slots := 0, locals := 186 }) (va_Pc [.ref a0, .int a1, .int a2] (fun U => U.heap.size = sz ∧ va_P (dC, dI) vwCl [(a0, .inr (8, [.int a0_0, .int a0_1, .int a0_2, .int a0_3, .ref a0_4, .int a0_5, .int a0_6, .int a0_7, .int a0_8, .int a0_9, .int a0_10, .long a0_11, .int a0_12, .int a0_13, .int a0_14, .int a0_15, .int a0_16, .int a0_17, .ref a0_18, .ref a0_19, .ref a0_20, .ref a0_21, .ref a0_22, .ref a0_23, .ref a0_24, .ref a0_25, .ref a0_26, .ref a0_27, .ref a0_28, .ref a0_29, .ref a0_30, .ref a0_31, .ref a0_32, .ref a0_33, .ref a0_34, .ref a0_35, .long a0_36, .int a0_37, .ref a0_38, .ref a0_39, .int a0_40, .ref a0_41, .ref a0_42, .ref a0_43])), (a0_20, .inl (a0_20_c, 2, .inl a0_20_f)), (a0_21, .inl (a0_21_c, 2, .inl a0_21_f)), (a0_23, .inl (a0_23_c, 16, .inl a0_23_f)), (a0_26, .inl (a0_26_c, 8, .inl a0_26_f)), (a0_29, .inl (a0_29_c, 48, .inl a0_29_f)), (a0_30, .inl (a0_30_c, 48, .inl a0_30_f)), (a0_31, .inl (a0_31_c, 48, .inl a0_31_f)), (a0_32, .inl (a0_32_c, 24, .inl a0_32_f)), (a0_33, .inl (a0_33_c, 24, .inl a0_33_f)), (a0_34, .inl (a0_34_c, 72, .inl a0_34_f)), (a0_35, .inl (a0_35_c, 24, .inl a0_35_f)), (a0_38, .inl (a0_38_c, 176, .inl a0_38_f)), (a0_43, .inl (a0_43_c, 288, .inl a0_43_f))] U.heap ∧ va_K (dC, dI) vwCl [(a0_20_c, .int), (a0_21_c, .int), (a0_23_c, .int), (a0_26_c, .int), (a0_29_c, .int), (a0_30_c, .int), (a0_31_c, .int), (a0_32_c, .int), (a0_33_c, .int), (a0_34_c, .int), (a0_35_c, .boolean), (a0_38_c, .int), (a0_43_c, .int)] U ∧ va_D (fun _ => True) [(a0, .inr (8, [.int a0_0, .int a0_1, .int a0_2, .int a0_3, .ref a0_4, .int a0_5, .int a0_6, .int a0_7, .int a0_8, .int a0_9, .int a0_10, .long a0_11, .int a0_12, .int a0_13, .int a0_14, .int a0_15, .int a0_16, .int a0_17, .ref a0_18, .ref a0_19, .ref a0_20, .ref a0_21, .ref a0_22, .ref a0_23, .ref a0_24, .ref a0_25, .ref a0_26, .ref a0_27, .ref a0_28, .ref a0_29, .ref a0_30, .ref a0_31, .ref a0_32, .ref a0_33, .ref a0_34, .ref a0_35, .long a0_36, .int a0_37, .ref a0_38, .ref a0_39, .int a0_40, .ref a0_41, .ref a0_42, .ref a0_43])), (a0_20, .inl (a0_20_c, 2, .inl a0_20_f)), (a0_21, .inl (a0_21_c, 2, .inl a0_21_f)), (a0_23, .inl (a0_23_c, 16, .inl a0_23_f)), (a0_26, .inl (a0_26_c, 8, .inl a0_26_f)), (a0_29, .inl (a0_29_c, 48, .inl a0_29_f)), (a0_30, .inl (a0_30_c, 48, .inl a0_30_f)), (a0_31, .inl (a0_31_c, 48, .inl a0_31_f)), (a0_32, .inl (a0_32_c, 24, .inl a0_32_f)), (a0_33, .inl (a0_33_c, 24, .inl a0_33_f)), (a0_34, .inl (a0_34_c, 72, .inl a0_34_f)), (a0_35, .inl (a0_35_c, 24, .inl a0_35_f)), (a0_38, .inl (a0_38_c, 176, .inl a0_38_f)), (a0_43, .inl (a0_43_c, 288, .inl a0_43_f))] ∧ Ev g (va_A [(a0, .inr (8, [.int a0_0, .int a0_1, .int a0_2, .int a0_3, .ref a0_4, .int a0_5, .int a0_6, .int a0_7, .int a0_8, .int a0_9, .int a0_10, .long a0_11, .int a0_12, .int a0_13, .int a0_14, .int a0_15, .int a0_16, .int a0_17, .ref a0_18, .ref a0_19, .ref a0_20, .ref a0_21, .ref a0_22, .ref a0_23, .ref a0_24, .ref a0_25, .ref a0_26, .ref a0_27, .ref a0_28, .ref a0_29, .ref a0_30, .ref a0_31, .ref a0_32, .ref a0_33, .ref a0_34, .ref a0_35, .long a0_36, .int a0_37, .ref a0_38, .ref a0_39, .int a0_40, .ref a0_41, .ref a0_42, .ref a0_43])), (a0_20, .inl (a0_20_c, 2, .inl a0_20_f)), (a0_21, .inl (a0_21_c, 2, .inl a0_21_f)), (a0_23, .inl (a0_23_c, 16, .inl a0_23_f)), (a0_26, .inl (a0_26_c, 8, .inl a0_26_f)), (a0_29, .inl (a0_29_c, 48, .inl a0_29_f)), (a0_30, .inl (a0_30_c, 48, .inl a0_30_f)), (a0_31, .inl (a0_31_c, 48, .inl a0_31_f)), (a0_32, .inl (a0_32_c, 24, .inl a0_32_f)), (a0_33, .inl (a0_33_c, 24, .inl a0_33_f)), (a0_34, .inl (a0_34_c, 72, .inl a0_34_f)), (a0_35, .inl (a0_35_c, 24, .inl a0_35_f)), (a0_38, .inl (a0_38_c, 176, .inl a0_38_f)), (a0_43, .inl (a0_43_c, 288, .inl a0_43_f))] sz) U)) (va_Qi (fun (r : Int32) (u : Int32) => u = r) (fun (u : Int32) (t : State) => ∃ (za0_0 : Int32) (za0_1 : Int32) (za0_2 : Int32) (za0_3 : Int32) (za0_43_f : Nat → Int32), va_P (dC, dI) vwCl [(a0, .inr (8, [.int za0_0, .int za0_1, .int za0_2, .int za0_3, .ref a0_4, .int a0_5, .int a0_6, .int a0_7, .int a0_8, .int a0_9, .int a0_10, .long a0_11, .int a0_12, .int a0_13, .int a0_14, .int a0_15, .int a0_16, .int a0_17, .ref a0_18, .ref a0_19, .ref a0_20, .ref a0_21, .ref a0_22, .ref a0_23, .ref a0_24, .ref a0_25, .ref a0_26, .ref a0_27, .ref a0_28, .ref a0_29, .ref a0_30, .ref a0_31, .ref a0_32, .ref a0_33, .ref a0_34, .ref a0_35, .long a0_36, .int a0_37, .ref a0_38, .ref a0_39, .int a0_40, .ref a0_41, .ref a0_42, .ref a0_43])), (a0_20, .inl (a0_20_c, 2, .inl a0_20_f)), (a0_21, .inl (a0_21_c, 2, .inl a0_21_f)), (a0_23, .inl (a0_23_c, 16, .inl a0_23_f)), (a0_26, .inl (a0_26_c, 8, .inl a0_26_f)), (a0_29, .inl (a0_29_c, 48, .inl a0_29_f)), (a0_30, .inl (a0_30_c, 48, .inl a0_30_f)), (a0_31, .inl (a0_31_c, 48, .inl a0_31_f)), (a0_32, .inl (a0_32_c, 24, .inl a0_32_f)), (a0_33, .inl (a0_33_c, 24, .inl a0_33_f)), (a0_34, .inl (a0_34_c, 72, .inl a0_34_f)), (a0_35, .inl (a0_35_c, 24, .inl a0_35_f)), (a0_38, .inl (a0_38_c, 176, .inl a0_38_f)), (a0_43, .inl (a0_43_c, 288, .inl za0_43_f))] t.heap ∧ va_K (dC, dI) vwCl [] t ∧ va_D (va_A [(a0, .inr (8, [.int a0_0, .int a0_1, .int a0_2, .int a0_3, .ref a0_4, .int a0_5, .int a0_6, .int a0_7, .int a0_8, .int a0_9, .int a0_10, .long a0_11, .int a0_12, .int a0_13, .int a0_14, .int a0_15, .int a0_16, .int a0_17, .ref a0_18, .ref a0_19, .ref a0_20, .ref a0_21, .ref a0_22, .ref a0_23, .ref a0_24, .ref a0_25, .ref a0_26, .ref a0_27, .ref a0_28, .ref a0_29, .ref a0_30, .ref a0_31, .ref a0_32, .ref a0_33, .ref a0_34, .ref a0_35, .long a0_36, .int a0_37, .ref a0_38, .ref a0_39, .int a0_40, .ref a0_41, .ref a0_42, .ref a0_43])), (a0_20, .inl (a0_20_c, 2, .inl a0_20_f)), (a0_21, .inl (a0_21_c, 2, .inl a0_21_f)), (a0_23, .inl (a0_23_c, 16, .inl a0_23_f)), (a0_26, .inl (a0_26_c, 8, .inl a0_26_f)), (a0_29, .inl (a0_29_c, 48, .inl a0_29_f)), (a0_30, .inl (a0_30_c, 48, .inl a0_30_f)), (a0_31, .inl (a0_31_c, 48, .inl a0_31_f)), (a0_32, .inl (a0_32_c, 24, .inl a0_32_f)), (a0_33, .inl (a0_33_c, 24, .inl a0_33_f)), (a0_34, .inl (a0_34_c, 72, .inl a0_34_f)), (a0_35, .inl (a0_35_c, 24, .inl a0_35_f)), (a0_38, .inl (a0_38_c, 176, .inl a0_38_f)), (a0_43, .inl (a0_43_c, 288, .inl a0_43_f))] sz) [(a0, .inr (8, [.int za0_0, .int za0_1, .int za0_2, .int za0_3, .ref a0_4, .int a0_5, .int a0_6, .int a0_7, .int a0_8, .int a0_9, .int a0_10, .long a0_11, .int a0_12, .int a0_13, .int a0_14, .int a0_15, .int a0_16, .int a0_17, .ref a0_18, .ref a0_19, .ref a0_20, .ref a0_21, .ref a0_22, .ref a0_23, .ref a0_24, .ref a0_25, .ref a0_26, .ref a0_27, .ref a0_28, .ref a0_29, .ref a0_30, .ref a0_31, .ref a0_32, .ref a0_33, .ref a0_34, .ref a0_35, .long a0_36, .int a0_37, .ref a0_38, .ref a0_39, .int a0_40, .ref a0_41, .ref a0_42, .ref a0_43])), (a0_20, .inl (a0_20_c, 2, .inl a0_20_f)), (a0_21, .inl (a0_21_c, 2, .inl a0_21_f)), (a0_23, .inl (a0_23_c, 16, .inl a0_23_f)), (a0_26, .inl (a0_26_c, 8, .inl a0_26_f)), (a0_29, .inl (a0_29_c, 48, .inl a0_29_f)), (a0_30, .inl (a0_30_c, 48, .inl a0_30_f)), (a0_31, .inl (a0_31_c, 48, .inl a0_31_f)), (a0_32, .inl (a0_32_c, 24, .inl a0_32_f)), (a0_33, .inl (a0_33_c, 24, .inl a0_33_f)), (a0_34, .inl (a0_34_c, 72, .inl a0_34_f)), (a0_35, .inl (a0_35_c, 24, .inl a0_35_f)), (a0_38, .inl (a0_38_c, 176, .inl a0_38_f)), (a0_43, .inl (a0_43_c, 288, .inl za0_43_f))]) (va_A [(a0, .inr (8, [.int a0_0, .int a0_1, .int a0_2, .int a0_3, .ref a0_4, .int a0_5, .int a0_6, .int a0_7, .int a0_8, .int a0_9, .int a0_10, .long a0_11, .int a0_12, .int a0_13, .int a0_14, .int a0_15, .int a0_16, .int a0_17, .ref a0_18, .ref a0_19, .ref a0_20, .ref a0_21, .ref a0_22, .ref a0_23, .ref a0_24, .ref a0_25, .ref a0_26, .ref a0_27, .ref a0_28, .ref a0_29, .ref a0_30, .ref a0_31, .ref a0_32, .ref a0_33, .ref a0_34, .ref a0_35, .long a0_36, .int a0_37, .ref a0_38, .ref a0_39, .int a0_40, .ref a0_41, .ref a0_42, .ref a0_43])), (a0_20, .inl (a0_20_c, 2, .inl a0_20_f)), (a0_21, .inl (a0_21_c, 2, .inl a0_21_f)), (a0_23, .inl (a0_23_c, 16, .inl a0_23_f)), (a0_26, .inl (a0_26_c, 8, .inl a0_26_f)), (a0_29, .inl (a0_29_c, 48, .inl a0_29_f)), (a0_30, .inl (a0_30_c, 48, .inl a0_30_f)), (a0_31, .inl (a0_31_c, 48, .inl a0_31_f)), (a0_32, .inl (a0_32_c, 24, .inl a0_32_f)), (a0_33, .inl (a0_33_c, 24, .inl a0_33_f)), (a0_34, .inl (a0_34_c, 72, .inl a0_34_f)), (a0_35, .inl (a0_35_c, 24, .inl a0_35_f)), (a0_38, .inl (a0_38_c, 176, .inl a0_38_f)), (a0_43, .inl (a0_43_c, 288, .inl a0_43_f))] sz)) 0 0 (va_A [(a0, .inr (8, [.int a0_0, .int a0_1, .int a0_2, .int a0_3, .ref a0_4, .int a0_5, .int a0_6, .int a0_7, .int a0_8, .int a0_9, .int a0_10, .long a0_11, .int a0_12, .int a0_13, .int a0_14, .int a0_15, .int a0_16, .int a0_17, .ref a0_18, .ref a0_19, .ref a0_20, .ref a0_21, .ref a0_22, .ref a0_23, .ref a0_24, .ref a0_25, .ref a0_26, .ref a0_27, .ref a0_28, .ref a0_29, .ref a0_30, .ref a0_31, .ref a0_32, .ref a0_33, .ref a0_34, .ref a0_35, .long a0_36, .int a0_37, .ref a0_38, .ref a0_39, .int a0_40, .ref a0_41, .ref a0_42, .ref a0_43])), (a0_20, .inl (a0_20_c, 2, .inl a0_20_f)), (a0_21, .inl (a0_21_c, 2, .inl a0_21_f)), (a0_23, .inl (a0_23_c, 16, .inl a0_23_f)), (a0_26, .inl (a0_26_c, 8, .inl a0_26_f)), (a0_29, .inl (a0_29_c, 48, .inl a0_29_f)), (a0_30, .inl (a0_30_c, 48, .inl a0_30_f)), (a0_31, .inl (a0_31_c, 48, .inl a0_31_f)), (a0_32, .inl (a0_32_c, 24, .inl a0_32_f)), (a0_33, .inl (a0_33_c, 24, .inl a0_33_f)), (a0_34, .inl (a0_34_c, 72, .inl a0_34_f)), (a0_35, .inl (a0_35_c, 24, .inl a0_35_f)), (a0_38, .inl (a0_38_c, 176, .inl a0_38_f)), (a0_43, .inl (a0_43_c, 288, .inl a0_43_f))] sz) := by
  refine Met.ofW (cc := cX9_next) (maxL := 6) (ret := (some .int)) (by decide) rfl ?_
  intro p e s m args below meth c s₁ B hml hv
  obtain ⟨rfl, hsz, hP, hK, hD0, hE⟩ := hv
  have hx := B.exec
  have hb := B.bytes
  have hr := B.returns
  have hts0 := atoms_spec (ws := (.code yX9_next cX9_next 6 (some .int) :: TBL)) B.pre
  have hts := fun (w : Cond) (h : w ∈ TBL) => hts0 w (List.mem_cons_of_mem _ h)
  have hown : s.vm.findClass RX9 = some m.cls := findClass_of_methodNamed B.named
  have hlocks := B.notSynchronized
  have hN := hE.1
  subst hsz
  have hD := hD0.self (sz := s.heap.size)
  generalize hAe : va_A [(a0, .inr (8, [.int a0_0, .int a0_1, .int a0_2, .int a0_3, .ref a0_4, .int a0_5, .int a0_6, .int a0_7, .int a0_8, .int a0_9, .int a0_10, .long a0_11, .int a0_12, .int a0_13, .int a0_14, .int a0_15, .int a0_16, .int a0_17, .ref a0_18, .ref a0_19, .ref a0_20, .ref a0_21, .ref a0_22, .ref a0_23, .ref a0_24, .ref a0_25, .ref a0_26, .ref a0_27, .ref a0_28, .ref a0_29, .ref a0_30, .ref a0_31, .ref a0_32, .ref a0_33, .ref a0_34, .ref a0_35, .long a0_36, .int a0_37, .ref a0_38, .ref a0_39, .int a0_40, .ref a0_41, .ref a0_42, .ref a0_43])), (a0_20, .inl (a0_20_c, 2, .inl a0_20_f)), (a0_21, .inl (a0_21_c, 2, .inl a0_21_f)), (a0_23, .inl (a0_23_c, 16, .inl a0_23_f)), (a0_26, .inl (a0_26_c, 8, .inl a0_26_f)), (a0_29, .inl (a0_29_c, 48, .inl a0_29_f)), (a0_30, .inl (a0_30_c, 48, .inl a0_30_f)), (a0_31, .inl (a0_31_c, 48, .inl a0_31_f)), (a0_32, .inl (a0_32_c, 24, .inl a0_32_f)), (a0_33, .inl (a0_33_c, 24, .inl a0_33_f)), (a0_34, .inl (a0_34_c, 72, .inl a0_34_f)), (a0_35, .inl (a0_35_c, 24, .inl a0_35_f)), (a0_38, .inl (a0_38_c, 176, .inl a0_38_f)), (a0_43, .inl (a0_43_c, 288, .inl a0_43_f))] s.heap.size = A at hD hE ⊢
  have hA : ∀ q : Nat, s.heap.size ≤ q → A q := fun q h => by rw [← hAe]; exact Or.inr h
  have hS : va_S A s.heap s.heap [] := va_S.rf
  replace hP : va_P (dC, dI) vwCl [(a0, .inr (8, [.int a0_0, .int a0_1, .int a0_2, .int a0_3, .ref a0_4, .int a0_5, .int a0_6, .int a0_7, .int a0_8, .int a0_9, .int a0_10, .long a0_11, .int a0_12, .int a0_13, .int a0_14, .int a0_15, .int a0_16, .int a0_17, .ref a0_18, .ref a0_19, .ref a0_20, .ref a0_21, .ref a0_22, .ref a0_23, .ref a0_24, .ref a0_25, .ref a0_26, .ref a0_27, .ref a0_28, .ref a0_29, .ref a0_30, .ref a0_31, .ref a0_32, .ref a0_33, .ref a0_34, .ref a0_35, .long a0_36, .int a0_37, .ref a0_38, .ref a0_39, .int a0_40, .ref a0_41, .ref a0_42, .ref a0_43])), (a0_20, .inl (a0_20_c, 2, .inl a0_20_f)), (a0_21, .inl (a0_21_c, 2, .inl a0_21_f)), (a0_23, .inl (a0_23_c, 16, .inl a0_23_f)), (a0_26, .inl (a0_26_c, 8, .inl a0_26_f)), (a0_29, .inl (a0_29_c, 48, .inl a0_29_f)), (a0_30, .inl (a0_30_c, 48, .inl a0_30_f)), (a0_31, .inl (a0_31_c, 48, .inl a0_31_f)), (a0_32, .inl (a0_32_c, 24, .inl a0_32_f)), (a0_33, .inl (a0_33_c, 24, .inl a0_33_f)), (a0_34, .inl (a0_34_c, 72, .inl a0_34_f)), (a0_35, .inl (a0_35_c, 24, .inl a0_35_f)), (a0_38, .inl (a0_38_c, 176, .inl a0_38_f)), (a0_43, .inl (a0_43_c, 288, .inl a0_43_f))] s.heap := hP
  have hl := lv_entry ([.ref a0, .int a1, .int a2]) (n := 6) (Nat.le_of_ble_eq_true rfl)
  rw [lg_entry_eq]
  generalize (lg_sl ([.ref a0, .int a1, .int a2]) ++ List.replicate (6 - (lg_sl ([.ref a0, .int a1, .int a2])).length) Slot.unset).toArray = ls at hl ⊢
  have hl : lv_has ls 6 [(0, .ref a0), (1, .int a1), (2, .int a2)] := hl
  have b_a1 := i32b a1
  have b_a2 := i32b a2
  have b_a0_0 := i32b a0_0
  have b_a0_1 := i32b a0_1
  have b_a0_2 := i32b a0_2
  have b_a0_3 := i32b a0_3
  have b_a0_9 := i32b a0_9
  have b_a0_10 := i32b a0_10
  have b_a0_12 := i32b a0_12
  have b_a0_13 := i32b a0_13
  have b_a0_14 := i32b a0_14
  have b_a0_15 := i32b a0_15
  have b_a0_16 := i32b a0_16
  have hp20 := vr_at h_a0_20_f (k := 0) rfl
  have hp21 := vr_at h_a0_21_f (k := 0) rfl
  refine lv_aload_n hx hb dX9_next_0 rfl (lv_at hl 0 rfl) ?_
  refine lv_iconst (v := 0) hx hb dX9_next_1 (by decide) ?_
  refine va_put (D := (dC, dI)) (ci := 8) (v := .int 0) (ty := .int) (C := RX9) (T := TX9) (N := 44) hx hb hts inlX9 tyX9 tyX9_ok nmX9 hown hK hP hD hS 0 rgL14_6e084ec rfl 0 (by decide) (hts (.fieldLink RX9 85 "ClosedUntilModel" "thrown" "I") qw_408) (fun _ h9 => h9) rfl (by decide +kernel) rfl rfl (Nat.le_of_ble_eq_true rfl) dX9_next_2 (fun H locs hP9 hD9 hS9 => ?_)
  clear hP hD hS
  obtain ⟨hP, hD⟩ := rgS14_947ddd8 (e := (a0, .inr (8, [.int 0, .int a0_1, .int a0_2, .int a0_3, .ref a0_4, .int a0_5, .int a0_6, .int a0_7, .int a0_8, .int a0_9, .int a0_10, .long a0_11, .int a0_12, .int a0_13, .int a0_14, .int a0_15, .int a0_16, .int a0_17, .ref a0_18, .ref a0_19, .ref a0_20, .ref a0_21, .ref a0_22, .ref a0_23, .ref a0_24, .ref a0_25, .ref a0_26, .ref a0_27, .ref a0_28, .ref a0_29, .ref a0_30, .ref a0_31, .ref a0_32, .ref a0_33, .ref a0_34, .ref a0_35, .long a0_36, .int a0_37, .ref a0_38, .ref a0_39, .int a0_40, .ref a0_41, .ref a0_42, .ref a0_43]))) hP9 hD9 rfl
  have hS := hS9; clear hP9 hD9 hS9
  refine lv_aload_n hx hb dX9_next_5 rfl (lv_at hl 0 rfl) ?_
  have qc0 : (0 : Int32).toInt = 0 := by decide
  have hPc := hP
  have hKc := hK
  have hDc := hD
  have hFc := freeW hDc hS hA
  refine va_callv (va_runV (As := []) (rest := []) ⟨hx, hb, hml, hown, hts⟩ (k_X9_laysEnds l dC dI g H.size (a0) (0) (a0_1) (a0_2) (a0_3) (a0_4) (a0_5) (a0_6) (a0_7) (a0_8) (a0_9) (a0_10) (a0_11) (a0_12) (a0_13) (a0_14) (a0_15) (a0_16) (a0_17) (a0_18) (a0_19) (a0_20) (a0_21) (a0_22) (a0_23) (a0_24) (a0_25) (a0_26) (a0_27) (a0_28) (a0_29) (a0_30) (a0_31) (a0_32) (a0_33) (a0_34) (a0_35) (a0_36) (a0_37) (a0_38) (a0_39) (a0_40) (a0_41) (a0_42) (a0_43) (a0_20_c) (a0_20_f) (a0_21_c) (a0_21_f) (a0_23_c) (a0_23_f) (a0_26_c) (a0_26_f) (a0_29_c) (a0_29_f) (a0_30_c) (a0_30_f) (a0_31_c) (a0_31_f) (a0_32_c) (a0_32_f) (a0_33_c) (a0_33_f) (a0_34_c) (a0_34_f) (a0_35_c) (a0_35_f) (a0_38_c) (a0_38_f) (a0_43_c) (a0_43_f) (by omega) (by omega) (by omega) (by omega) (by omega) (by omega) (by omega) h_a0_20_f h_a0_21_f (by assumption) (by assumption)) (cwV 0 hts (gwV qw_630 qw_631 qw_632 qw_386 qw_629) rfl rfl rfl (by decide +kernel) ⟨Nat.le_of_ble_eq_true rfl, Nat.le_of_ble_eq_true rfl⟩) ⟨fun a U g9 mk q => ⟨q.1, q.2.1, q.2.2.1, va_K.moved (u := U) (U := U.calling g9 mk a) (Vm.Alike.refl U.vm) q.2.2.2.1, q.2.2.2.2.1, Ev.bl q.2.2.2.2.2⟩, va_recv hK hP (ci := 8) (q0 := 0) rfl rgL14_6e084ec, fun U hU hW => ⟨rfl, by rw [hU], atB hU hPc, va_K.moved hW.alike hKc, hDc.weaken (fun _ _ _ _ => trivial), hE.go hS hFc hU hW⟩⟩ rfl rfl hl.1 rfl (lv_room (Nat.le_of_ble_eq_true rfl)) dX9_next_6 ⟨Nat.le_of_ble_eq_true rfl, Nat.le_of_ble_eq_true rfl⟩) hS (fun q _ h => hFc q h) hFc (fun u1 t H1 locs ht hvm h_u1 hB hz1 hk1 hS => ?_)
  obtain ⟨za0_1_3, za0_2_4, za0_3_5, za0_43_f_6, hP1, hK1, hD1⟩ := hB
  have hK1 := va_K.moved hvm.symm hK1
  have hJ9 := rgJ14_93bd4e1 hP hD hk1 hFc (atH ht hP1) hD1
  clear hP hD hPc hKc hDc hFc hP1 hD1 hk1 hz1
  obtain ⟨hP, hD⟩ := hJ9
  clear hK1
  generalize H1 = H at hP hS ⊢
  refine W.widen (k := 0) (n := 0) (Nat.le_of_ble_eq_true rfl) (Nat.le_of_ble_eq_true rfl) ?_
  refine lv_iload_n hx hb dX9_next_9 rfl (lv_at hl 1 rfl) ?_
  refine lv_i2l hx hb dX9_next_10 rfl ?_
  refine lv_ldc2 (v := (-1)) hx hb hown (hts (.constantLong RX9 376 (-1)) qw_640) dX9_next_11 ?_
  refine lv_ldc2 (v := 219145) hx hb hown (hts (.constantLong RX9 133 (219145)) qw_449) dX9_next_14 ?_
  have hPc := (rgP14_13c4e7a hP)
  have hKc := (rgK13_332f5b0 hK)
  refine vp_callSi ((va_runS (As := [.long (a1.toInt64), .long (-1), .long 219145]) (rest := []) ⟨hx, hb, hml, hown, hts⟩ (k_X9_within l dC dI g ((a1.toInt64)) ((-1)) (219145) (a1.toInt) ((-1)) (219145) (w_li rfl) (by decide) (by decide)) (va_cwS 3 hts (gwS qw_444 qw_445 qw_386 qw_443) rfl rfl rfl (by decide +kernel) ⟨Nat.le_of_ble_eq_true rfl, Nat.le_of_ble_eq_true rfl⟩) ⟨fun a U g9 mk q => ⟨q.1, q.2.1, va_K.moved (u := U) (U := U.calling g9 mk a) (Vm.Alike.refl U.vm) q.2.2.1, Ev.bl q.2.2.2⟩, fun U hU hW => ⟨rfl, atB hU hPc, va_K.moved hW.alike hKc, hE.go hS (fun _ h => h.elim) hU hW⟩⟩ rfl rfl hl.1 rfl (lv_room (Nat.le_of_ble_eq_true rfl)) dX9_next_17 ⟨Nat.le_of_ble_eq_true rfl, Nat.le_of_ble_eq_true rfl⟩)).run (fun r7 h_r7 => ?_)
  have h_r7 : (r7 = 0 ∨ r7 = 1) ∧ ((r7.toInt = 1 ∧ (-1) ≤ a1.toInt ∧ a1.toInt ≤ 219145) ∨ (r7.toInt = 0 ∧ ¬ ((-1) ≤ a1.toInt ∧ a1.toInt ≤ 219145))) := h_r7
  have b_r7 := z01 h_r7.1
  refine lv_if_eq (tgt := 30) hx hb dX9_next_20 (by decide) (fun c20_8 => ?_) (fun c20_8 => ?_)
  · have c20_8 : r7.toInt = 0 := (cv_eq rfl (by decide)).mp c20_8
    refine lv_iconst (v := (-1)) hx hb dX9_next_30 (by decide) ?_
    have qcm1 : ((-1) : Int32).toInt = (-1) := by decide
    have qc0 : (0 : Int32).toInt = 0 := by decide
    refine W.widen (k := 0) (n := 0) (Nat.le_of_ble_eq_true rfl) (Nat.le_of_ble_eq_true rfl) ?_
    have hP9 := hP
    have hD9 := hD
    have hK9 := (rgK13_332f5b0 hK)
    exact W.iret (v := (-1)) hx hb hr (fun t ht hW => ⟨⟨(-1), (-1), rfl, rfl, 0, za0_1_3, za0_2_4, za0_3_5, za0_43_f_6, atB ht hP9, va_K.moved hW.alike hK9, hD9⟩, hS.F ht⟩) hS.2.2 dX9_next_31
  · have c20_8 : ¬ (r7.toInt = 0) := mt (cv_eq rfl (by decide)).mpr c20_8
    refine lv_iload_n hx hb dX9_next_23 rfl (lv_at hl 2 rfl) ?_
    have hPc := (rgP14_13c4e7a hP)
    have hKc := (rgK13_332f5b0 hK)
    refine vp_callSi ((va_runS (As := [.int a2]) (rest := []) ⟨hx, hb, hml, hown, hts⟩ (k_X9_areReaders l dC dI g (a2) ) (va_cwS 1 hts (gwS qw_546 qw_547 qw_386 qw_545) rfl rfl rfl (by decide +kernel) ⟨Nat.le_of_ble_eq_true rfl, Nat.le_of_ble_eq_true rfl⟩) ⟨fun a U g9 mk q => ⟨q.1, q.2.1, va_K.moved (u := U) (U := U.calling g9 mk a) (Vm.Alike.refl U.vm) q.2.2.1, Ev.bl q.2.2.2⟩, fun U hU hW => ⟨rfl, atB hU hPc, va_K.moved hW.alike hKc, hE.go hS (fun _ h => h.elim) hU hW⟩⟩ rfl rfl hl.1 rfl (lv_room (Nat.le_of_ble_eq_true rfl)) dX9_next_24 ⟨Nat.le_of_ble_eq_true rfl, Nat.le_of_ble_eq_true rfl⟩)).run (fun r9 h_r9 => ?_)
    have h_r9 : (r9 = 0 ∨ r9 = 1) := h_r9
    have b_r9 := z01 (show r9 = 0 ∨ r9 = 1 from h_r9)
    refine lv_if_ne (tgt := 32) hx hb dX9_next_27 (by decide) (fun c27_10 => ?_) (fun c27_10 => ?_)
    · have c27_10 : ¬ (r9.toInt = 0) := mt (cv_eq rfl (by decide)).mpr c27_10
      refine lv_iconst (v := (-1)) hx hb dX9_next_32 (by decide) ?_
      refine lv_istore_n (lv' := [(3, .int (-1)), (0, .ref a0), (1, .int a1), (2, .int a2)]) hx hb dX9_next_33 rfl hl (by decide) rfl (fun ls hl => ?_)
      refine lv_iconst (v := 0) hx hb dX9_next_34 (by decide) ?_
      refine lv_istore (lv' := [(4, .int 0), (3, .int (-1)), (0, .ref a0), (1, .int a1), (2, .int a2)]) hx hb dX9_next_35 hl (by decide) rfl (fun ls hl => ?_)
      have qcm1 : ((-1) : Int32).toInt = (-1) := by decide
      have qc0 : (0 : Int32).toInt = 0 := by decide
      refine wloop (fun n H locs ls => ∃ (l37_4 : Int32) (l37_3 : Int32), n = (2147483647 - l37_4.toInt).toNat ∧ (0 ≤ l37_4.toInt) ∧ lv_has ls 6 [(4, .int l37_4), (3, .int l37_3), (0, .ref a0), (1, .int a1), (2, .int a2)] ∧ va_P (dC, dI) vwCl [(a0, .inr (8, [.int 0, .int za0_1_3, .int za0_2_4, .int za0_3_5, .ref a0_4, .int a0_5, .int a0_6, .int a0_7, .int a0_8, .int a0_9, .int a0_10, .long a0_11, .int a0_12, .int a0_13, .int a0_14, .int a0_15, .int a0_16, .int a0_17, .ref a0_18, .ref a0_19, .ref a0_20, .ref a0_21, .ref a0_22, .ref a0_23, .ref a0_24, .ref a0_25, .ref a0_26, .ref a0_27, .ref a0_28, .ref a0_29, .ref a0_30, .ref a0_31, .ref a0_32, .ref a0_33, .ref a0_34, .ref a0_35, .long a0_36, .int a0_37, .ref a0_38, .ref a0_39, .int a0_40, .ref a0_41, .ref a0_42, .ref a0_43])), (a0_20, .inl (a0_20_c, 2, .inl a0_20_f)), (a0_21, .inl (a0_21_c, 2, .inl a0_21_f)), (a0_23, .inl (a0_23_c, 16, .inl a0_23_f)), (a0_26, .inl (a0_26_c, 8, .inl a0_26_f)), (a0_29, .inl (a0_29_c, 48, .inl a0_29_f)), (a0_30, .inl (a0_30_c, 48, .inl a0_30_f)), (a0_31, .inl (a0_31_c, 48, .inl a0_31_f)), (a0_32, .inl (a0_32_c, 24, .inl a0_32_f)), (a0_33, .inl (a0_33_c, 24, .inl a0_33_f)), (a0_34, .inl (a0_34_c, 72, .inl a0_34_f)), (a0_35, .inl (a0_35_c, 24, .inl a0_35_f)), (a0_38, .inl (a0_38_c, 176, .inl a0_38_f)), (a0_43, .inl (a0_43_c, 288, .inl za0_43_f_6))] H ∧ va_D A [(a0, .inr (8, [.int 0, .int za0_1_3, .int za0_2_4, .int za0_3_5, .ref a0_4, .int a0_5, .int a0_6, .int a0_7, .int a0_8, .int a0_9, .int a0_10, .long a0_11, .int a0_12, .int a0_13, .int a0_14, .int a0_15, .int a0_16, .int a0_17, .ref a0_18, .ref a0_19, .ref a0_20, .ref a0_21, .ref a0_22, .ref a0_23, .ref a0_24, .ref a0_25, .ref a0_26, .ref a0_27, .ref a0_28, .ref a0_29, .ref a0_30, .ref a0_31, .ref a0_32, .ref a0_33, .ref a0_34, .ref a0_35, .long a0_36, .int a0_37, .ref a0_38, .ref a0_39, .int a0_40, .ref a0_41, .ref a0_42, .ref a0_43])), (a0_20, .inl (a0_20_c, 2, .inl a0_20_f)), (a0_21, .inl (a0_21_c, 2, .inl a0_21_f)), (a0_23, .inl (a0_23_c, 16, .inl a0_23_f)), (a0_26, .inl (a0_26_c, 8, .inl a0_26_f)), (a0_29, .inl (a0_29_c, 48, .inl a0_29_f)), (a0_30, .inl (a0_30_c, 48, .inl a0_30_f)), (a0_31, .inl (a0_31_c, 48, .inl a0_31_f)), (a0_32, .inl (a0_32_c, 24, .inl a0_32_f)), (a0_33, .inl (a0_33_c, 24, .inl a0_33_f)), (a0_34, .inl (a0_34_c, 72, .inl a0_34_f)), (a0_35, .inl (a0_35_c, 24, .inl a0_35_f)), (a0_38, .inl (a0_38_c, 176, .inl a0_38_f)), (a0_43, .inl (a0_43_c, 288, .inl za0_43_f_6))] ∧ va_S A s.heap H locs) ?_ ((2147483647 - (0 : Int32).toInt).toNat) _ _ _ ⟨0, (-1), rfl, (by omega), lv_sub hl [0, 1, 2, 3, 4] rfl, hP, hD, hS⟩
      intro n37 H locs ls hI ih37
      obtain ⟨l37_4, l37_3, hn37, g_l37_4, hl, hP, hD, hS⟩ := hI
      have b_l37_4 := i32b l37_4
      have b_l37_3 := i32b l37_3
      refine lv_iload hx hb dX9_next_37 (lv_at hl 0 rfl) ?_
      refine lv_aload_n hx hb dX9_next_39 rfl (lv_at hl 2 rfl) ?_
      refine va_get (D := (dC, dI)) (ci := 8) (v := .ref a0_20) (C := RX9) (T := TX9) (N := 44) hx hb hts inlX9 hown hK hP 0 rgL14_6e084ec rfl 20 (by decide) (hts (.fieldLink RX9 20 "ClosedUntilModel" "pieces" "[I") qw_439) (fun _ h9 => h9) rfl dX9_next_40 ?_
      refine lv_iconst (v := 0) hx hb dX9_next_43 (by decide) ?_
      refine va_iald hx hb hK hP 1 0 rgL14_2dacc1d rgT13_f65b496 (vin0 (by decide)) dX9_next_44 ?_
      refine lv_topi (fun x11 e_x11 => ?_)
      have q_x11 : x11.toInt = (a0_20_f 0).toInt := congrArg Int32.toInt e_x11
      have b_x11 : 0 ≤ x11.toInt ∧ x11.toInt ≤ 24 := vr_at (lo := 0) (hi := 24) (f := a0_20_f) h_a0_20_f e_x11
      refine lv_icmp_ge (tgt := 83) hx hb dX9_next_45 (by decide) (fun c45_12 => ?_) (fun c45_12 => ?_)
      · have c45_12 : x11.toInt ≤ l37_4.toInt := (cv_le rfl rfl).mp c45_12
        refine lv_iload_n hx hb dX9_next_83 rfl (lv_at hl 1 rfl) ?_
        have qc0 : (0 : Int32).toInt = 0 := by decide
        refine W.widen (k := 0) (n := 0) (Nat.le_of_ble_eq_true rfl) (Nat.le_of_ble_eq_true rfl) ?_
        have hP9 := hP
        have hD9 := hD
        have hK9 := (rgK13_332f5b0 hK)
        exact W.iret (v := l37_3) hx hb hr (fun t ht hW => ⟨⟨l37_3, l37_3, rfl, rfl, 0, za0_1_3, za0_2_4, za0_3_5, za0_43_f_6, atB ht hP9, va_K.moved hW.alike hK9, hD9⟩, hS.F ht⟩) hS.2.2 dX9_next_84
      · have c45_12 : ¬ (x11.toInt ≤ l37_4.toInt) := mt (cv_le rfl rfl).mpr c45_12
        refine lv_aload_n hx hb dX9_next_48 rfl (lv_at hl 2 rfl) ?_
        refine lv_iload hx hb dX9_next_49 (lv_at hl 0 rfl) ?_
        refine lv_iload_n hx hb dX9_next_51 rfl (lv_at hl 4 rfl) ?_
        refine lv_iconst (v := 0) hx hb dX9_next_52 (by decide) ?_
        have qc0 : (0 : Int32).toInt = 0 := by decide
        have hPc := (rgP14_910b6ce hP)
        have hKc := (rgK13_829f201 hK)
        refine vp_callSi ((va_runV (As := [.int l37_4, .int a2, .int 0]) (rest := []) ⟨hx, hb, hml, hown, hts⟩ (k_X9_opensOf l dC dI g (a0) (l37_4) (a2) (0) (0) (za0_1_3) (za0_2_4) (za0_3_5) (a0_4) (a0_5) (a0_6) (a0_7) (a0_8) (a0_9) (a0_10) (a0_11) (a0_12) (a0_13) (a0_14) (a0_15) (a0_16) (a0_17) (a0_18) (a0_19) (a0_20) (a0_21) (a0_22) (a0_23) (a0_24) (a0_25) (a0_26) (a0_27) (a0_28) (a0_29) (a0_30) (a0_31) (a0_32) (a0_33) (a0_34) (a0_35) (a0_36) (a0_37) (a0_38) (a0_39) (a0_40) (a0_41) (a0_42) (a0_43) (a0_21_c) (a0_21_f) (a0_32_c) (a0_32_f) (a0_43_c) (za0_43_f_6) (by omega) (by omega) (by omega) (by omega) (by omega) (by omega) (by omega) h_a0_21_f (by omega)) (cwV 3 hts (gwV qw_542 qw_543 qw_544 qw_386 qw_541) rfl rfl rfl (by decide +kernel) ⟨Nat.le_of_ble_eq_true rfl, Nat.le_of_ble_eq_true rfl⟩) ⟨fun a U g9 mk q => ⟨q.1, q.2.1, va_K.moved (u := U) (U := U.calling g9 mk a) (Vm.Alike.refl U.vm) q.2.2.1, Ev.bl q.2.2.2⟩, va_recv hK hP (ci := 8) (q0 := 0) rfl rgL14_6e084ec, fun U hU hW => ⟨rfl, atB hU hPc, va_K.moved hW.alike hKc, hE.go hS (fun _ h => h.elim) hU hW⟩⟩ rfl rfl hl.1 rfl (lv_room (Nat.le_of_ble_eq_true rfl)) dX9_next_53 ⟨Nat.le_of_ble_eq_true rfl, Nat.le_of_ble_eq_true rfl⟩)).run (fun r13 h_r13 => ?_)
        have b_r13 := i32b r13
        refine lv_istore (lv' := [(5, .int r13), (4, .int l37_4), (3, .int l37_3), (0, .ref a0), (1, .int a1), (2, .int a2)]) hx hb dX9_next_56 hl (by decide) rfl (fun ls hl => ?_)
        refine lv_iload hx hb dX9_next_58 (lv_at hl 0 rfl) ?_
        refine lv_iload_n hx hb dX9_next_60 rfl (lv_at hl 4 rfl) ?_
        refine lv_icmp_le (tgt := 77) hx hb dX9_next_61 (by decide) (fun c61_14 => ?_) (fun c61_14 => ?_)
        · have c61_14 : r13.toInt ≤ a1.toInt := (cv_le rfl rfl).mp c61_14
          obtain ⟨x15, e_x15⟩ : ∃ y : Int32, y = l37_4 + 1 := ⟨_, rfl⟩
          refine lv_iinc (v := x15) (lv' := [(4, .int x15), (5, .int r13), (3, .int l37_3), (0, .ref a0), (1, .int a1), (2, .int a2)]) hx hb dX9_next_77 hl (k := 1) rfl (by rw [e_x15]; rfl) (by decide) rfl (fun ls hl => ?_)
          try have e_x15 := ti_add e_x15 rfl (show (1 : Int32).toInt = 1 by decide) (by omega)
          refine lv_goto (tgt := 37) hx hb dX9_next_80 (by decide) ?_
          exact ih37 ((2147483647 - x15.toInt).toNat) _ _ _ (by omega) ⟨x15, l37_3, rfl, (by omega), lv_sub hl [0, 2, 3, 4, 5] rfl, hP, hD, hS⟩
        · have c61_14 : ¬ (r13.toInt ≤ a1.toInt) := mt (cv_le rfl rfl).mpr c61_14
          refine lv_iload_n hx hb dX9_next_64 rfl (lv_at hl 2 rfl) ?_
          refine lv_if_lt (tgt := 74) hx hb dX9_next_65 (by decide) (fun c65_16 => ?_) (fun c65_16 => ?_)
          · have c65_16 : l37_3.toInt < 0 := (cv_lt rfl (by decide)).mp c65_16
            refine lv_iload hx hb dX9_next_74 (lv_at hl 0 rfl) ?_
            refine lv_istore_n (lv' := [(3, .int r13), (5, .int r13), (4, .int l37_4), (0, .ref a0), (1, .int a1), (2, .int a2)]) hx hb dX9_next_76 rfl hl (by decide) rfl (fun ls hl => ?_)
            obtain ⟨x17, e_x17⟩ : ∃ y : Int32, y = l37_4 + 1 := ⟨_, rfl⟩
            refine lv_iinc (v := x17) (lv' := [(4, .int x17), (3, .int r13), (5, .int r13), (0, .ref a0), (1, .int a1), (2, .int a2)]) hx hb dX9_next_77 hl (k := 2) rfl (by rw [e_x17]; rfl) (by decide) rfl (fun ls hl => ?_)
            try have e_x17 := ti_add e_x17 rfl (show (1 : Int32).toInt = 1 by decide) (by omega)
            refine lv_goto (tgt := 37) hx hb dX9_next_80 (by decide) ?_
            exact ih37 ((2147483647 - x17.toInt).toNat) _ _ _ (by omega) ⟨x17, r13, rfl, (by omega), lv_sub hl [0, 1, 3, 4, 5] rfl, hP, hD, hS⟩
          · have c65_16 : ¬ (l37_3.toInt < 0) := mt (cv_lt rfl (by decide)).mpr c65_16
            refine lv_iload hx hb dX9_next_68 (lv_at hl 0 rfl) ?_
            refine lv_iload_n hx hb dX9_next_70 rfl (lv_at hl 2 rfl) ?_
            refine lv_icmp_ge (tgt := 77) hx hb dX9_next_71 (by decide) (fun c71_18 => ?_) (fun c71_18 => ?_)
            · have c71_18 : l37_3.toInt ≤ r13.toInt := (cv_le rfl rfl).mp c71_18
              obtain ⟨x19, e_x19⟩ : ∃ y : Int32, y = l37_4 + 1 := ⟨_, rfl⟩
              refine lv_iinc (v := x19) (lv' := [(4, .int x19), (5, .int r13), (3, .int l37_3), (0, .ref a0), (1, .int a1), (2, .int a2)]) hx hb dX9_next_77 hl (k := 1) rfl (by rw [e_x19]; rfl) (by decide) rfl (fun ls hl => ?_)
              try have e_x19 := ti_add e_x19 rfl (show (1 : Int32).toInt = 1 by decide) (by omega)
              refine lv_goto (tgt := 37) hx hb dX9_next_80 (by decide) ?_
              exact ih37 ((2147483647 - x19.toInt).toNat) _ _ _ (by omega) ⟨x19, l37_3, rfl, (by omega), lv_sub hl [0, 2, 3, 4, 5] rfl, hP, hD, hS⟩
            · have c71_18 : ¬ (l37_3.toInt ≤ r13.toInt) := mt (cv_le rfl rfl).mpr c71_18
              refine lv_iload hx hb dX9_next_74 (lv_at hl 0 rfl) ?_
              refine lv_istore_n (lv' := [(3, .int r13), (5, .int r13), (4, .int l37_4), (0, .ref a0), (1, .int a1), (2, .int a2)]) hx hb dX9_next_76 rfl hl (by decide) rfl (fun ls hl => ?_)
              obtain ⟨x20, e_x20⟩ : ∃ y : Int32, y = l37_4 + 1 := ⟨_, rfl⟩
              refine lv_iinc (v := x20) (lv' := [(4, .int x20), (3, .int r13), (5, .int r13), (0, .ref a0), (1, .int a1), (2, .int a2)]) hx hb dX9_next_77 hl (k := 2) rfl (by rw [e_x20]; rfl) (by decide) rfl (fun ls hl => ?_)
              try have e_x20 := ti_add e_x20 rfl (show (1 : Int32).toInt = 1 by decide) (by omega)
              refine lv_goto (tgt := 37) hx hb dX9_next_80 (by decide) ?_
              exact ih37 ((2147483647 - x20.toInt).toNat) _ _ _ (by omega) ⟨x20, r13, rfl, (by omega), lv_sub hl [0, 1, 3, 4, 5] rfl, hP, hD, hS⟩
    · have c27_10 : r9.toInt = 0 := (cv_eq rfl (by decide)).mp c27_10
      refine lv_iconst (v := (-1)) hx hb dX9_next_30 (by decide) ?_
      have qcm1 : ((-1) : Int32).toInt = (-1) := by decide
      have qc0 : (0 : Int32).toInt = 0 := by decide
      refine W.widen (k := 0) (n := 0) (Nat.le_of_ble_eq_true rfl) (Nat.le_of_ble_eq_true rfl) ?_
      have hP9 := hP
      have hD9 := hD
      have hK9 := (rgK13_332f5b0 hK)
      exact W.iret (v := (-1)) hx hb hr (fun t ht hW => ⟨⟨(-1), (-1), rfl, rfl, 0, za0_1_3, za0_2_4, za0_3_5, za0_43_f_6, atB ht hP9, va_K.moved hW.alike hK9, hD9⟩, hS.F ht⟩) hS.2.2 dX9_next_31
set_option maxHeartbeats 4000000 in
set_option maxRecDepth 100000 in
theorem k_X9_listed (l : Launch) (dC : Nat → ClassId) (dI : Nat → Nat → Nat) (g : Gv) (sz : Nat) (a0 : Nat) (a1 : Int32) (a2 : Int32) (a0_0 : Int32) (a0_1 : Int32) (a0_2 : Int32) (a0_3 : Int32) (a0_4 : Nat) (a0_5 : Int32) (a0_6 : Int32) (a0_7 : Int32) (a0_8 : Int32) (a0_9 : Int32) (a0_10 : Int32) (a0_11 : Int64) (a0_12 : Int32) (a0_13 : Int32) (a0_14 : Int32) (a0_15 : Int32) (a0_16 : Int32) (a0_17 : Int32) (a0_18 : Nat) (a0_19 : Nat) (a0_20 : Nat) (a0_21 : Nat) (a0_22 : Nat) (a0_23 : Nat) (a0_24 : Nat) (a0_25 : Nat) (a0_26 : Nat) (a0_27 : Nat) (a0_28 : Nat) (a0_29 : Nat) (a0_30 : Nat) (a0_31 : Nat) (a0_32 : Nat) (a0_33 : Nat) (a0_34 : Nat) (a0_35 : Nat) (a0_36 : Int64) (a0_37 : Int32) (a0_38 : Nat) (a0_39 : Nat) (a0_40 : Int32) (a0_41 : Nat) (a0_42 : Nat) (a0_43 : Nat) (a0_20_c : ClassId) (a0_20_f : Nat → Int32) (a0_21_c : ClassId) (a0_21_f : Nat → Int32) (a0_23_c : ClassId) (a0_23_f : Nat → Int32) (a0_26_c : ClassId) (a0_26_f : Nat → Int32) (a0_29_c : ClassId) (a0_29_f : Nat → Int32) (a0_30_c : ClassId) (a0_30_f : Nat → Int32) (a0_31_c : ClassId) (a0_31_f : Nat → Int32) (a0_32_c : ClassId) (a0_32_f : Nat → Int32) (a0_33_c : ClassId) (a0_33_f : Nat → Int32) (a0_34_c : ClassId) (a0_34_f : Nat → Int32) (a0_35_c : ClassId) (a0_35_f : Nat → Int32) (a0_38_c : ClassId) (a0_38_f : Nat → Int32) (a0_43_c : ClassId) (a0_43_f : Nat → Int32) (h_a0_5 : 0 ≤ a0_5.toInt ∧ a0_5.toInt ≤ 1000) (h_a0_6 : 0 ≤ a0_6.toInt ∧ a0_6.toInt ≤ 1000) (h_a0_7 : 0 ≤ a0_7.toInt ∧ a0_7.toInt ≤ 1000) (h_a0_8 : 0 ≤ a0_8.toInt ∧ a0_8.toInt ≤ 1000) (h_a0_17 : 0 ≤ a0_17.toInt ∧ a0_17.toInt ≤ 1) (h_a0_37 : (-1) ≤ a0_37.toInt ∧ a0_37.toInt ≤ 23) (h_a0_40 : 0 ≤ a0_40.toInt ∧ a0_40.toInt ≤ 12) (h_a0_20_f : vr 0 24 a0_20_f) (h_a0_21_f : vr 0 12 a0_21_f) (hms : RowOk (a0_20_f 0).toInt a0_38_f 0) (hmw : WOk a0_32_f a0_33_f 0 (a0_21_f 0).toInt) : Met l yX9_listed (.code yX9_listed cX9_listed 6 (some .int) :: TBL) ({ frames := 8, cells := 0, slots := 0, locals := 186 }) (va_Pc [.ref a0, .int a1, .int a2] (fun U => U.heap.size = sz ∧ va_P (dC, dI) vwCl [(a0, .inr (8, [.int a0_0, .int a0_1, .int a0_2, .int a0_3, .ref a0_4, .int a0_5, .int a0_6, .int a0_7, .int a0_8, .int a0_9, .int a0_10, .long a0_11, .int a0_12, .int a0_13, .int a0_14, .int a0_15, .int a0_16, .int a0_17, .ref a0_18, .ref a0_19, .ref a0_20, .ref a0_21, .ref a0_22, .ref a0_23, .ref a0_24, .ref a0_25, .ref a0_26, .ref a0_27, .ref a0_28, .ref a0_29, .ref a0_30, .ref a0_31, .ref a0_32, .ref a0_33, .ref a0_34, .ref a0_35, .long a0_36, .int a0_37, .ref a0_38, .ref a0_39, .int a0_40, .ref a0_41, .ref a0_42, .ref a0_43])), (a0_20, .inl (a0_20_c, 2, .inl a0_20_f)), (a0_21, .inl (a0_21_c, 2, .inl a0_21_f)), (a0_23, .inl (a0_23_c, 16, .inl a0_23_f)), (a0_26, .inl (a0_26_c, 8, .inl a0_26_f)), (a0_29, .inl (a0_29_c, 48, .inl a0_29_f)), (a0_30, .inl (a0_30_c, 48, .inl a0_30_f)), (a0_31, .inl (a0_31_c, 48, .inl a0_31_f)), (a0_32, .inl (a0_32_c, 24, .inl a0_32_f)), (a0_33, .inl (a0_33_c, 24, .inl a0_33_f)), (a0_34, .inl (a0_34_c, 72, .inl a0_34_f)), (a0_35, .inl (a0_35_c, 24, .inl a0_35_f)), (a0_38, .inl (a0_38_c, 176, .inl a0_38_f)), (a0_43, .inl (a0_43_c, 288, .inl a0_43_f))] U.heap ∧ va_K (dC, dI) vwCl [(a0_20_c, .int), (a0_21_c, .int), (a0_23_c, .int), (a0_26_c, .int), (a0_29_c, .int), (a0_30_c, .int), (a0_31_c, .int), (a0_32_c, .int), (a0_33_c, .int), (a0_34_c, .int), (a0_35_c, .boolean), (a0_38_c, .int), (a0_43_c, .int)] U ∧ va_D (fun _ => True) [(a0, .inr (8, [.int a0_0, .int a0_1, .int a0_2, .int a0_3, .ref a0_4, .int a0_5, .int a0_6, .int a0_7, .int a0_8, .int a0_9, .int a0_10, .long a0_11, .int a0_12, .int a0_13, .int a0_14, .int a0_15, .int a0_16, .int a0_17, .ref a0_18, .ref a0_19, .ref a0_20, .ref a0_21, .ref a0_22, .ref a0_23, .ref a0_24, .ref a0_25, .ref a0_26, .ref a0_27, .ref a0_28, .ref a0_29, .ref a0_30, .ref a0_31, .ref a0_32, .ref a0_33, .ref a0_34, .ref a0_35, .long a0_36, .int a0_37, .ref a0_38, .ref a0_39, .int a0_40, .ref a0_41, .ref a0_42, .ref a0_43])), (a0_20, .inl (a0_20_c, 2, .inl a0_20_f)), (a0_21, .inl (a0_21_c, 2, .inl a0_21_f)), (a0_23, .inl (a0_23_c, 16, .inl a0_23_f)), (a0_26, .inl (a0_26_c, 8, .inl a0_26_f)), (a0_29, .inl (a0_29_c, 48, .inl a0_29_f)), (a0_30, .inl (a0_30_c, 48, .inl a0_30_f)), (a0_31, .inl (a0_31_c, 48, .inl a0_31_f)), (a0_32, .inl (a0_32_c, 24, .inl a0_32_f)), (a0_33, .inl (a0_33_c, 24, .inl a0_33_f)), (a0_34, .inl (a0_34_c, 72, .inl a0_34_f)), (a0_35, .inl (a0_35_c, 24, .inl a0_35_f)), (a0_38, .inl (a0_38_c, 176, .inl a0_38_f)), (a0_43, .inl (a0_43_c, 288, .inl a0_43_f))] ∧ Ev g (va_A [(a0, .inr (8, [.int a0_0, .int a0_1, .int a0_2, .int a0_3, .ref a0_4, .int a0_5, .int a0_6, .int a0_7, .int a0_8, .int a0_9, .int a0_10, .long a0_11, .int a0_12, .int a0_13, .int a0_14, .int a0_15, .int a0_16, .int a0_17, .ref a0_18, .ref a0_19, .ref a0_20, .ref a0_21, .ref a0_22, .ref a0_23, .ref a0_24, .ref a0_25, .ref a0_26, .ref a0_27, .ref a0_28, .ref a0_29, .ref a0_30, .ref a0_31, .ref a0_32, .ref a0_33, .ref a0_34, .ref a0_35, .long a0_36, .int a0_37, .ref a0_38, .ref a0_39, .int a0_40, .ref a0_41, .ref a0_42, .ref a0_43])), (a0_20, .inl (a0_20_c, 2, .inl a0_20_f)), (a0_21, .inl (a0_21_c, 2, .inl a0_21_f)), (a0_23, .inl (a0_23_c, 16, .inl a0_23_f)), (a0_26, .inl (a0_26_c, 8, .inl a0_26_f)), (a0_29, .inl (a0_29_c, 48, .inl a0_29_f)), (a0_30, .inl (a0_30_c, 48, .inl a0_30_f)), (a0_31, .inl (a0_31_c, 48, .inl a0_31_f)), (a0_32, .inl (a0_32_c, 24, .inl a0_32_f)), (a0_33, .inl (a0_33_c, 24, .inl a0_33_f)), (a0_34, .inl (a0_34_c, 72, .inl a0_34_f)), (a0_35, .inl (a0_35_c, 24, .inl a0_35_f)), (a0_38, .inl (a0_38_c, 176, .inl a0_38_f)), (a0_43, .inl (a0_43_c, 288, .inl a0_43_f))] sz) U)) (va_Qi (fun (r : Int32) (u : Int32) => u = r) (fun (u : Int32) (t : State) => ∃ (za0_0 : Int32) (za0_1 : Int32) (za0_2 : Int32) (za0_3 : Int32) (za0_43_f : Nat → Int32), va_P (dC, dI) vwCl [(a0, .inr (8, [.int za0_0, .int za0_1, .int za0_2, .int za0_3, .ref a0_4, .int a0_5, .int a0_6, .int a0_7, .int a0_8, .int a0_9, .int a0_10, .long a0_11, .int a0_12, .int a0_13, .int a0_14, .int a0_15, .int a0_16, .int a0_17, .ref a0_18, .ref a0_19, .ref a0_20, .ref a0_21, .ref a0_22, .ref a0_23, .ref a0_24, .ref a0_25, .ref a0_26, .ref a0_27, .ref a0_28, .ref a0_29, .ref a0_30, .ref a0_31, .ref a0_32, .ref a0_33, .ref a0_34, .ref a0_35, .long a0_36, .int a0_37, .ref a0_38, .ref a0_39, .int a0_40, .ref a0_41, .ref a0_42, .ref a0_43])), (a0_20, .inl (a0_20_c, 2, .inl a0_20_f)), (a0_21, .inl (a0_21_c, 2, .inl a0_21_f)), (a0_23, .inl (a0_23_c, 16, .inl a0_23_f)), (a0_26, .inl (a0_26_c, 8, .inl a0_26_f)), (a0_29, .inl (a0_29_c, 48, .inl a0_29_f)), (a0_30, .inl (a0_30_c, 48, .inl a0_30_f)), (a0_31, .inl (a0_31_c, 48, .inl a0_31_f)), (a0_32, .inl (a0_32_c, 24, .inl a0_32_f)), (a0_33, .inl (a0_33_c, 24, .inl a0_33_f)), (a0_34, .inl (a0_34_c, 72, .inl a0_34_f)), (a0_35, .inl (a0_35_c, 24, .inl a0_35_f)), (a0_38, .inl (a0_38_c, 176, .inl a0_38_f)), (a0_43, .inl (a0_43_c, 288, .inl za0_43_f))] t.heap ∧ va_K (dC, dI) vwCl [] t ∧ va_D (va_A [(a0, .inr (8, [.int a0_0, .int a0_1, .int a0_2, .int a0_3, .ref a0_4, .int a0_5, .int a0_6, .int a0_7, .int a0_8, .int a0_9, .int a0_10, .long a0_11, .int a0_12, .int a0_13, .int a0_14, .int a0_15, .int a0_16, .int a0_17, .ref a0_18, .ref a0_19, .ref a0_20, .ref a0_21, .ref a0_22, .ref a0_23, .ref a0_24, .ref a0_25, .ref a0_26, .ref a0_27, .ref a0_28, .ref a0_29, .ref a0_30, .ref a0_31, .ref a0_32, .ref a0_33, .ref a0_34, .ref a0_35, .long a0_36, .int a0_37, .ref a0_38, .ref a0_39, .int a0_40, .ref a0_41, .ref a0_42, .ref a0_43])), (a0_20, .inl (a0_20_c, 2, .inl a0_20_f)), (a0_21, .inl (a0_21_c, 2, .inl a0_21_f)), (a0_23, .inl (a0_23_c, 16, .inl a0_23_f)), (a0_26, .inl (a0_26_c, 8, .inl a0_26_f)), (a0_29, .inl (a0_29_c, 48, .inl a0_29_f)), (a0_30, .inl (a0_30_c, 48, .inl a0_30_f)), (a0_31, .inl (a0_31_c, 48, .inl a0_31_f)), (a0_32, .inl (a0_32_c, 24, .inl a0_32_f)), (a0_33, .inl (a0_33_c, 24, .inl a0_33_f)), (a0_34, .inl (a0_34_c, 72, .inl a0_34_f)), (a0_35, .inl (a0_35_c, 24, .inl a0_35_f)), (a0_38, .inl (a0_38_c, 176, .inl a0_38_f)), (a0_43, .inl (a0_43_c, 288, .inl a0_43_f))] sz) [(a0, .inr (8, [.int za0_0, .int za0_1, .int za0_2, .int za0_3, .ref a0_4, .int a0_5, .int a0_6, .int a0_7, .int a0_8, .int a0_9, .int a0_10, .long a0_11, .int a0_12, .int a0_13, .int a0_14, .int a0_15, .int a0_16, .int a0_17, .ref a0_18, .ref a0_19, .ref a0_20, .ref a0_21, .ref a0_22, .ref a0_23, .ref a0_24, .ref a0_25, .ref a0_26, .ref a0_27, .ref a0_28, .ref a0_29, .ref a0_30, .ref a0_31, .ref a0_32, .ref a0_33, .ref a0_34, .ref a0_35, .long a0_36, .int a0_37, .ref a0_38, .ref a0_39, .int a0_40, .ref a0_41, .ref a0_42, .ref a0_43])), (a0_20, .inl (a0_20_c, 2, .inl a0_20_f)), (a0_21, .inl (a0_21_c, 2, .inl a0_21_f)), (a0_23, .inl (a0_23_c, 16, .inl a0_23_f)), (a0_26, .inl (a0_26_c, 8, .inl a0_26_f)), (a0_29, .inl (a0_29_c, 48, .inl a0_29_f)), (a0_30, .inl (a0_30_c, 48, .inl a0_30_f)), (a0_31, .inl (a0_31_c, 48, .inl a0_31_f)), (a0_32, .inl (a0_32_c, 24, .inl a0_32_f)), (a0_33, .inl (a0_33_c, 24, .inl a0_33_f)), (a0_34, .inl (a0_34_c, 72, .inl a0_34_f)), (a0_35, .inl (a0_35_c, 24, .inl a0_35_f)), (a0_38, .inl (a0_38_c, 176, .inl a0_38_f)), (a0_43, .inl (a0_43_c, 288, .inl za0_43_f))]) (va_A [(a0, .inr (8, [.int a0_0, .int a0_1, .int a0_2, .int a0_3, .ref a0_4, .int a0_5, .int a0_6, .int a0_7, .int a0_8, .int a0_9, .int a0_10, .long a0_11, .int a0_12, .int a0_13, .int a0_14, .int a0_15, .int a0_16, .int a0_17, .ref a0_18, .ref a0_19, .ref a0_20, .ref a0_21, .ref a0_22, .ref a0_23, .ref a0_24, .ref a0_25, .ref a0_26, .ref a0_27, .ref a0_28, .ref a0_29, .ref a0_30, .ref a0_31, .ref a0_32, .ref a0_33, .ref a0_34, .ref a0_35, .long a0_36, .int a0_37, .ref a0_38, .ref a0_39, .int a0_40, .ref a0_41, .ref a0_42, .ref a0_43])), (a0_20, .inl (a0_20_c, 2, .inl a0_20_f)), (a0_21, .inl (a0_21_c, 2, .inl a0_21_f)), (a0_23, .inl (a0_23_c, 16, .inl a0_23_f)), (a0_26, .inl (a0_26_c, 8, .inl a0_26_f)), (a0_29, .inl (a0_29_c, 48, .inl a0_29_f)), (a0_30, .inl (a0_30_c, 48, .inl a0_30_f)), (a0_31, .inl (a0_31_c, 48, .inl a0_31_f)), (a0_32, .inl (a0_32_c, 24, .inl a0_32_f)), (a0_33, .inl (a0_33_c, 24, .inl a0_33_f)), (a0_34, .inl (a0_34_c, 72, .inl a0_34_f)), (a0_35, .inl (a0_35_c, 24, .inl a0_35_f)), (a0_38, .inl (a0_38_c, 176, .inl a0_38_f)), (a0_43, .inl (a0_43_c, 288, .inl a0_43_f))] sz)) 0 0 (va_A [(a0, .inr (8, [.int a0_0, .int a0_1, .int a0_2, .int a0_3, .ref a0_4, .int a0_5, .int a0_6, .int a0_7, .int a0_8, .int a0_9, .int a0_10, .long a0_11, .int a0_12, .int a0_13, .int a0_14, .int a0_15, .int a0_16, .int a0_17, .ref a0_18, .ref a0_19, .ref a0_20, .ref a0_21, .ref a0_22, .ref a0_23, .ref a0_24, .ref a0_25, .ref a0_26, .ref a0_27, .ref a0_28, .ref a0_29, .ref a0_30, .ref a0_31, .ref a0_32, .ref a0_33, .ref a0_34, .ref a0_35, .long a0_36, .int a0_37, .ref a0_38, .ref a0_39, .int a0_40, .ref a0_41, .ref a0_42, .ref a0_43])), (a0_20, .inl (a0_20_c, 2, .inl a0_20_f)), (a0_21, .inl (a0_21_c, 2, .inl a0_21_f)), (a0_23, .inl (a0_23_c, 16, .inl a0_23_f)), (a0_26, .inl (a0_26_c, 8, .inl a0_26_f)), (a0_29, .inl (a0_29_c, 48, .inl a0_29_f)), (a0_30, .inl (a0_30_c, 48, .inl a0_30_f)), (a0_31, .inl (a0_31_c, 48, .inl a0_31_f)), (a0_32, .inl (a0_32_c, 24, .inl a0_32_f)), (a0_33, .inl (a0_33_c, 24, .inl a0_33_f)), (a0_34, .inl (a0_34_c, 72, .inl a0_34_f)), (a0_35, .inl (a0_35_c, 24, .inl a0_35_f)), (a0_38, .inl (a0_38_c, 176, .inl a0_38_f)), (a0_43, .inl (a0_43_c, 288, .inl a0_43_f))] sz) := by
  refine Met.ofW (cc := cX9_listed) (maxL := 6) (ret := (some .int)) (by decide) rfl ?_
  intro p e s m args below meth c s₁ B hml hv
  obtain ⟨rfl, hsz, hP, hK, hD0, hE⟩ := hv
  have hx := B.exec
  have hb := B.bytes
  have hr := B.returns
  have hts0 := atoms_spec (ws := (.code yX9_listed cX9_listed 6 (some .int) :: TBL)) B.pre
  have hts := fun (w : Cond) (h : w ∈ TBL) => hts0 w (List.mem_cons_of_mem _ h)
  have hown : s.vm.findClass RX9 = some m.cls := findClass_of_methodNamed B.named
  have hlocks := B.notSynchronized
  have hN := hE.1
  subst hsz
  have hD := hD0.self (sz := s.heap.size)
  generalize hAe : va_A [(a0, .inr (8, [.int a0_0, .int a0_1, .int a0_2, .int a0_3, .ref a0_4, .int a0_5, .int a0_6, .int a0_7, .int a0_8, .int a0_9, .int a0_10, .long a0_11, .int a0_12, .int a0_13, .int a0_14, .int a0_15, .int a0_16, .int a0_17, .ref a0_18, .ref a0_19, .ref a0_20, .ref a0_21, .ref a0_22, .ref a0_23, .ref a0_24, .ref a0_25, .ref a0_26, .ref a0_27, .ref a0_28, .ref a0_29, .ref a0_30, .ref a0_31, .ref a0_32, .ref a0_33, .ref a0_34, .ref a0_35, .long a0_36, .int a0_37, .ref a0_38, .ref a0_39, .int a0_40, .ref a0_41, .ref a0_42, .ref a0_43])), (a0_20, .inl (a0_20_c, 2, .inl a0_20_f)), (a0_21, .inl (a0_21_c, 2, .inl a0_21_f)), (a0_23, .inl (a0_23_c, 16, .inl a0_23_f)), (a0_26, .inl (a0_26_c, 8, .inl a0_26_f)), (a0_29, .inl (a0_29_c, 48, .inl a0_29_f)), (a0_30, .inl (a0_30_c, 48, .inl a0_30_f)), (a0_31, .inl (a0_31_c, 48, .inl a0_31_f)), (a0_32, .inl (a0_32_c, 24, .inl a0_32_f)), (a0_33, .inl (a0_33_c, 24, .inl a0_33_f)), (a0_34, .inl (a0_34_c, 72, .inl a0_34_f)), (a0_35, .inl (a0_35_c, 24, .inl a0_35_f)), (a0_38, .inl (a0_38_c, 176, .inl a0_38_f)), (a0_43, .inl (a0_43_c, 288, .inl a0_43_f))] s.heap.size = A at hD hE ⊢
  have hA : ∀ q : Nat, s.heap.size ≤ q → A q := fun q h => by rw [← hAe]; exact Or.inr h
  have hS : va_S A s.heap s.heap [] := va_S.rf
  replace hP : va_P (dC, dI) vwCl [(a0, .inr (8, [.int a0_0, .int a0_1, .int a0_2, .int a0_3, .ref a0_4, .int a0_5, .int a0_6, .int a0_7, .int a0_8, .int a0_9, .int a0_10, .long a0_11, .int a0_12, .int a0_13, .int a0_14, .int a0_15, .int a0_16, .int a0_17, .ref a0_18, .ref a0_19, .ref a0_20, .ref a0_21, .ref a0_22, .ref a0_23, .ref a0_24, .ref a0_25, .ref a0_26, .ref a0_27, .ref a0_28, .ref a0_29, .ref a0_30, .ref a0_31, .ref a0_32, .ref a0_33, .ref a0_34, .ref a0_35, .long a0_36, .int a0_37, .ref a0_38, .ref a0_39, .int a0_40, .ref a0_41, .ref a0_42, .ref a0_43])), (a0_20, .inl (a0_20_c, 2, .inl a0_20_f)), (a0_21, .inl (a0_21_c, 2, .inl a0_21_f)), (a0_23, .inl (a0_23_c, 16, .inl a0_23_f)), (a0_26, .inl (a0_26_c, 8, .inl a0_26_f)), (a0_29, .inl (a0_29_c, 48, .inl a0_29_f)), (a0_30, .inl (a0_30_c, 48, .inl a0_30_f)), (a0_31, .inl (a0_31_c, 48, .inl a0_31_f)), (a0_32, .inl (a0_32_c, 24, .inl a0_32_f)), (a0_33, .inl (a0_33_c, 24, .inl a0_33_f)), (a0_34, .inl (a0_34_c, 72, .inl a0_34_f)), (a0_35, .inl (a0_35_c, 24, .inl a0_35_f)), (a0_38, .inl (a0_38_c, 176, .inl a0_38_f)), (a0_43, .inl (a0_43_c, 288, .inl a0_43_f))] s.heap := hP
  have hl := lv_entry ([.ref a0, .int a1, .int a2]) (n := 6) (Nat.le_of_ble_eq_true rfl)
  rw [lg_entry_eq]
  generalize (lg_sl ([.ref a0, .int a1, .int a2]) ++ List.replicate (6 - (lg_sl ([.ref a0, .int a1, .int a2])).length) Slot.unset).toArray = ls at hl ⊢
  have hl : lv_has ls 6 [(0, .ref a0), (1, .int a1), (2, .int a2)] := hl
  have b_a1 := i32b a1
  have b_a2 := i32b a2
  have b_a0_0 := i32b a0_0
  have b_a0_1 := i32b a0_1
  have b_a0_2 := i32b a0_2
  have b_a0_3 := i32b a0_3
  have b_a0_9 := i32b a0_9
  have b_a0_10 := i32b a0_10
  have b_a0_12 := i32b a0_12
  have b_a0_13 := i32b a0_13
  have b_a0_14 := i32b a0_14
  have b_a0_15 := i32b a0_15
  have b_a0_16 := i32b a0_16
  have hp20 := vr_at h_a0_20_f (k := 0) rfl
  have hp21 := vr_at h_a0_21_f (k := 0) rfl
  refine lv_aload_n hx hb dX9_listed_0 rfl (lv_at hl 0 rfl) ?_
  refine lv_iconst (v := 0) hx hb dX9_listed_1 (by decide) ?_
  refine va_put (D := (dC, dI)) (ci := 8) (v := .int 0) (ty := .int) (C := RX9) (T := TX9) (N := 44) hx hb hts inlX9 tyX9 tyX9_ok nmX9 hown hK hP hD hS 0 rgL14_6e084ec rfl 0 (by decide) (hts (.fieldLink RX9 85 "ClosedUntilModel" "thrown" "I") qw_408) (fun _ h9 => h9) rfl (by decide +kernel) rfl rfl (Nat.le_of_ble_eq_true rfl) dX9_listed_2 (fun H locs hP9 hD9 hS9 => ?_)
  clear hP hD hS
  obtain ⟨hP, hD⟩ := rgS14_947ddd8 (e := (a0, .inr (8, [.int 0, .int a0_1, .int a0_2, .int a0_3, .ref a0_4, .int a0_5, .int a0_6, .int a0_7, .int a0_8, .int a0_9, .int a0_10, .long a0_11, .int a0_12, .int a0_13, .int a0_14, .int a0_15, .int a0_16, .int a0_17, .ref a0_18, .ref a0_19, .ref a0_20, .ref a0_21, .ref a0_22, .ref a0_23, .ref a0_24, .ref a0_25, .ref a0_26, .ref a0_27, .ref a0_28, .ref a0_29, .ref a0_30, .ref a0_31, .ref a0_32, .ref a0_33, .ref a0_34, .ref a0_35, .long a0_36, .int a0_37, .ref a0_38, .ref a0_39, .int a0_40, .ref a0_41, .ref a0_42, .ref a0_43]))) hP9 hD9 rfl
  have hS := hS9; clear hP9 hD9 hS9
  refine lv_aload_n hx hb dX9_listed_5 rfl (lv_at hl 0 rfl) ?_
  have qc0 : (0 : Int32).toInt = 0 := by decide
  have hPc := hP
  have hKc := hK
  have hDc := hD
  have hFc := freeW hDc hS hA
  refine va_callv (va_runV (As := []) (rest := []) ⟨hx, hb, hml, hown, hts⟩ (k_X9_laysEnds l dC dI g H.size (a0) (0) (a0_1) (a0_2) (a0_3) (a0_4) (a0_5) (a0_6) (a0_7) (a0_8) (a0_9) (a0_10) (a0_11) (a0_12) (a0_13) (a0_14) (a0_15) (a0_16) (a0_17) (a0_18) (a0_19) (a0_20) (a0_21) (a0_22) (a0_23) (a0_24) (a0_25) (a0_26) (a0_27) (a0_28) (a0_29) (a0_30) (a0_31) (a0_32) (a0_33) (a0_34) (a0_35) (a0_36) (a0_37) (a0_38) (a0_39) (a0_40) (a0_41) (a0_42) (a0_43) (a0_20_c) (a0_20_f) (a0_21_c) (a0_21_f) (a0_23_c) (a0_23_f) (a0_26_c) (a0_26_f) (a0_29_c) (a0_29_f) (a0_30_c) (a0_30_f) (a0_31_c) (a0_31_f) (a0_32_c) (a0_32_f) (a0_33_c) (a0_33_f) (a0_34_c) (a0_34_f) (a0_35_c) (a0_35_f) (a0_38_c) (a0_38_f) (a0_43_c) (a0_43_f) (by omega) (by omega) (by omega) (by omega) (by omega) (by omega) (by omega) h_a0_20_f h_a0_21_f (by assumption) (by assumption)) (cwV 0 hts (gwV qw_630 qw_631 qw_632 qw_386 qw_629) rfl rfl rfl (by decide +kernel) ⟨Nat.le_of_ble_eq_true rfl, Nat.le_of_ble_eq_true rfl⟩) ⟨fun a U g9 mk q => ⟨q.1, q.2.1, q.2.2.1, va_K.moved (u := U) (U := U.calling g9 mk a) (Vm.Alike.refl U.vm) q.2.2.2.1, q.2.2.2.2.1, Ev.bl q.2.2.2.2.2⟩, va_recv hK hP (ci := 8) (q0 := 0) rfl rgL14_6e084ec, fun U hU hW => ⟨rfl, by rw [hU], atB hU hPc, va_K.moved hW.alike hKc, hDc.weaken (fun _ _ _ _ => trivial), hE.go hS hFc hU hW⟩⟩ rfl rfl hl.1 rfl (lv_room (Nat.le_of_ble_eq_true rfl)) dX9_listed_6 ⟨Nat.le_of_ble_eq_true rfl, Nat.le_of_ble_eq_true rfl⟩) hS (fun q _ h => hFc q h) hFc (fun u1 t H1 locs ht hvm h_u1 hB hz1 hk1 hS => ?_)
  obtain ⟨za0_1_3, za0_2_4, za0_3_5, za0_43_f_6, hP1, hK1, hD1⟩ := hB
  have hK1 := va_K.moved hvm.symm hK1
  have hJ9 := rgJ14_93bd4e1 hP hD hk1 hFc (atH ht hP1) hD1
  clear hP hD hPc hKc hDc hFc hP1 hD1 hk1 hz1
  obtain ⟨hP, hD⟩ := hJ9
  clear hK1
  generalize H1 = H at hP hS ⊢
  refine W.widen (k := 0) (n := 0) (Nat.le_of_ble_eq_true rfl) (Nat.le_of_ble_eq_true rfl) ?_
  refine lv_iload_n hx hb dX9_listed_9 rfl (lv_at hl 2 rfl) ?_
  have hPc := (rgP14_13c4e7a hP)
  have hKc := (rgK13_332f5b0 hK)
  refine vp_callSi ((va_runS (As := [.int a2]) (rest := []) ⟨hx, hb, hml, hown, hts⟩ (k_X9_areReaders l dC dI g (a2) ) (va_cwS 1 hts (gwS qw_546 qw_547 qw_386 qw_545) rfl rfl rfl (by decide +kernel) ⟨Nat.le_of_ble_eq_true rfl, Nat.le_of_ble_eq_true rfl⟩) ⟨fun a U g9 mk q => ⟨q.1, q.2.1, va_K.moved (u := U) (U := U.calling g9 mk a) (Vm.Alike.refl U.vm) q.2.2.1, Ev.bl q.2.2.2⟩, fun U hU hW => ⟨rfl, atB hU hPc, va_K.moved hW.alike hKc, hE.go hS (fun _ h => h.elim) hU hW⟩⟩ rfl rfl hl.1 rfl (lv_room (Nat.le_of_ble_eq_true rfl)) dX9_listed_10 ⟨Nat.le_of_ble_eq_true rfl, Nat.le_of_ble_eq_true rfl⟩)).run (fun r7 h_r7 => ?_)
  have h_r7 : (r7 = 0 ∨ r7 = 1) := h_r7
  have b_r7 := z01 (show r7 = 0 ∨ r7 = 1 from h_r7)
  refine lv_if_ne (tgt := 18) hx hb dX9_listed_13 (by decide) (fun c13_8 => ?_) (fun c13_8 => ?_)
  · have c13_8 : ¬ (r7.toInt = 0) := mt (cv_eq rfl (by decide)).mpr c13_8
    refine lv_iconst (v := 0) hx hb dX9_listed_18 (by decide) ?_
    refine lv_istore_n (lv' := [(3, .int 0), (0, .ref a0), (1, .int a1), (2, .int a2)]) hx hb dX9_listed_19 rfl hl (by decide) rfl (fun ls hl => ?_)
    have qc0 : (0 : Int32).toInt = 0 := by decide
    refine wloop (fun n H locs ls => ∃ (l20_3 : Int32), n = (2147483647 - l20_3.toInt).toNat ∧ (0 ≤ l20_3.toInt) ∧ lv_has ls 6 [(3, .int l20_3), (0, .ref a0), (1, .int a1), (2, .int a2)] ∧ va_P (dC, dI) vwCl [(a0, .inr (8, [.int 0, .int za0_1_3, .int za0_2_4, .int za0_3_5, .ref a0_4, .int a0_5, .int a0_6, .int a0_7, .int a0_8, .int a0_9, .int a0_10, .long a0_11, .int a0_12, .int a0_13, .int a0_14, .int a0_15, .int a0_16, .int a0_17, .ref a0_18, .ref a0_19, .ref a0_20, .ref a0_21, .ref a0_22, .ref a0_23, .ref a0_24, .ref a0_25, .ref a0_26, .ref a0_27, .ref a0_28, .ref a0_29, .ref a0_30, .ref a0_31, .ref a0_32, .ref a0_33, .ref a0_34, .ref a0_35, .long a0_36, .int a0_37, .ref a0_38, .ref a0_39, .int a0_40, .ref a0_41, .ref a0_42, .ref a0_43])), (a0_20, .inl (a0_20_c, 2, .inl a0_20_f)), (a0_21, .inl (a0_21_c, 2, .inl a0_21_f)), (a0_23, .inl (a0_23_c, 16, .inl a0_23_f)), (a0_26, .inl (a0_26_c, 8, .inl a0_26_f)), (a0_29, .inl (a0_29_c, 48, .inl a0_29_f)), (a0_30, .inl (a0_30_c, 48, .inl a0_30_f)), (a0_31, .inl (a0_31_c, 48, .inl a0_31_f)), (a0_32, .inl (a0_32_c, 24, .inl a0_32_f)), (a0_33, .inl (a0_33_c, 24, .inl a0_33_f)), (a0_34, .inl (a0_34_c, 72, .inl a0_34_f)), (a0_35, .inl (a0_35_c, 24, .inl a0_35_f)), (a0_38, .inl (a0_38_c, 176, .inl a0_38_f)), (a0_43, .inl (a0_43_c, 288, .inl za0_43_f_6))] H ∧ va_D A [(a0, .inr (8, [.int 0, .int za0_1_3, .int za0_2_4, .int za0_3_5, .ref a0_4, .int a0_5, .int a0_6, .int a0_7, .int a0_8, .int a0_9, .int a0_10, .long a0_11, .int a0_12, .int a0_13, .int a0_14, .int a0_15, .int a0_16, .int a0_17, .ref a0_18, .ref a0_19, .ref a0_20, .ref a0_21, .ref a0_22, .ref a0_23, .ref a0_24, .ref a0_25, .ref a0_26, .ref a0_27, .ref a0_28, .ref a0_29, .ref a0_30, .ref a0_31, .ref a0_32, .ref a0_33, .ref a0_34, .ref a0_35, .long a0_36, .int a0_37, .ref a0_38, .ref a0_39, .int a0_40, .ref a0_41, .ref a0_42, .ref a0_43])), (a0_20, .inl (a0_20_c, 2, .inl a0_20_f)), (a0_21, .inl (a0_21_c, 2, .inl a0_21_f)), (a0_23, .inl (a0_23_c, 16, .inl a0_23_f)), (a0_26, .inl (a0_26_c, 8, .inl a0_26_f)), (a0_29, .inl (a0_29_c, 48, .inl a0_29_f)), (a0_30, .inl (a0_30_c, 48, .inl a0_30_f)), (a0_31, .inl (a0_31_c, 48, .inl a0_31_f)), (a0_32, .inl (a0_32_c, 24, .inl a0_32_f)), (a0_33, .inl (a0_33_c, 24, .inl a0_33_f)), (a0_34, .inl (a0_34_c, 72, .inl a0_34_f)), (a0_35, .inl (a0_35_c, 24, .inl a0_35_f)), (a0_38, .inl (a0_38_c, 176, .inl a0_38_f)), (a0_43, .inl (a0_43_c, 288, .inl za0_43_f_6))] ∧ va_S A s.heap H locs) ?_ ((2147483647 - (0 : Int32).toInt).toNat) _ _ _ ⟨0, rfl, (by omega), lv_sub hl [0, 1, 2, 3] rfl, hP, hD, hS⟩
    intro n20 H locs ls hI ih20
    obtain ⟨l20_3, hn20, g_l20_3, hl, hP, hD, hS⟩ := hI
    have b_l20_3 := i32b l20_3
    refine lv_iload_n hx hb dX9_listed_20 rfl (lv_at hl 0 rfl) ?_
    refine lv_aload_n hx hb dX9_listed_21 rfl (lv_at hl 1 rfl) ?_
    refine va_get (D := (dC, dI)) (ci := 8) (v := .ref a0_20) (C := RX9) (T := TX9) (N := 44) hx hb hts inlX9 hown hK hP 0 rgL14_6e084ec rfl 20 (by decide) (hts (.fieldLink RX9 20 "ClosedUntilModel" "pieces" "[I") qw_439) (fun _ h9 => h9) rfl dX9_listed_22 ?_
    refine lv_iconst (v := 0) hx hb dX9_listed_25 (by decide) ?_
    refine va_iald hx hb hK hP 1 0 rgL14_2dacc1d rgT13_f65b496 (vin0 (by decide)) dX9_listed_26 ?_
    refine lv_topi (fun x9 e_x9 => ?_)
    have q_x9 : x9.toInt = (a0_20_f 0).toInt := congrArg Int32.toInt e_x9
    have b_x9 : 0 ≤ x9.toInt ∧ x9.toInt ≤ 24 := vr_at (lo := 0) (hi := 24) (f := a0_20_f) h_a0_20_f e_x9
    refine lv_icmp_ge (tgt := 88) hx hb dX9_listed_27 (by decide) (fun c27_10 => ?_) (fun c27_10 => ?_)
    · have c27_10 : x9.toInt ≤ l20_3.toInt := (cv_le rfl rfl).mp c27_10
      refine lv_iconst (v := (-1)) hx hb dX9_listed_88 (by decide) ?_
      have qcm1 : ((-1) : Int32).toInt = (-1) := by decide
      have qc0 : (0 : Int32).toInt = 0 := by decide
      refine W.widen (k := 0) (n := 0) (Nat.le_of_ble_eq_true rfl) (Nat.le_of_ble_eq_true rfl) ?_
      have hP9 := hP
      have hD9 := hD
      have hK9 := (rgK13_332f5b0 hK)
      exact W.iret (v := (-1)) hx hb hr (fun t ht hW => ⟨⟨(-1), (-1), rfl, rfl, 0, za0_1_3, za0_2_4, za0_3_5, za0_43_f_6, atB ht hP9, va_K.moved hW.alike hK9, hD9⟩, hS.F ht⟩) hS.2.2 dX9_listed_89
    · have c27_10 : ¬ (x9.toInt ≤ l20_3.toInt) := mt (cv_le rfl rfl).mpr c27_10
      refine lv_iconst (v := 0) hx hb dX9_listed_30 (by decide) ?_
      refine lv_istore (lv' := [(4, .int 0), (3, .int l20_3), (0, .ref a0), (1, .int a1), (2, .int a2)]) hx hb dX9_listed_31 hl (by decide) rfl (fun ls hl => ?_)
      refine lv_iconst (v := 0) hx hb dX9_listed_33 (by decide) ?_
      refine lv_istore (lv' := [(5, .int 0), (4, .int 0), (3, .int l20_3), (0, .ref a0), (1, .int a1), (2, .int a2)]) hx hb dX9_listed_34 hl (by decide) rfl (fun ls hl => ?_)
      have qc0 : (0 : Int32).toInt = 0 := by decide
      refine wloop (fun n H locs ls => ∃ (l36_5 : Int32) (l36_4 : Int32), n = (2147483647 - l36_5.toInt).toNat ∧ (0 ≤ l36_5.toInt) ∧ lv_has ls 6 [(5, .int l36_5), (4, .int l36_4), (3, .int l20_3), (0, .ref a0), (1, .int a1), (2, .int a2)] ∧ va_P (dC, dI) vwCl [(a0, .inr (8, [.int 0, .int za0_1_3, .int za0_2_4, .int za0_3_5, .ref a0_4, .int a0_5, .int a0_6, .int a0_7, .int a0_8, .int a0_9, .int a0_10, .long a0_11, .int a0_12, .int a0_13, .int a0_14, .int a0_15, .int a0_16, .int a0_17, .ref a0_18, .ref a0_19, .ref a0_20, .ref a0_21, .ref a0_22, .ref a0_23, .ref a0_24, .ref a0_25, .ref a0_26, .ref a0_27, .ref a0_28, .ref a0_29, .ref a0_30, .ref a0_31, .ref a0_32, .ref a0_33, .ref a0_34, .ref a0_35, .long a0_36, .int a0_37, .ref a0_38, .ref a0_39, .int a0_40, .ref a0_41, .ref a0_42, .ref a0_43])), (a0_20, .inl (a0_20_c, 2, .inl a0_20_f)), (a0_21, .inl (a0_21_c, 2, .inl a0_21_f)), (a0_23, .inl (a0_23_c, 16, .inl a0_23_f)), (a0_26, .inl (a0_26_c, 8, .inl a0_26_f)), (a0_29, .inl (a0_29_c, 48, .inl a0_29_f)), (a0_30, .inl (a0_30_c, 48, .inl a0_30_f)), (a0_31, .inl (a0_31_c, 48, .inl a0_31_f)), (a0_32, .inl (a0_32_c, 24, .inl a0_32_f)), (a0_33, .inl (a0_33_c, 24, .inl a0_33_f)), (a0_34, .inl (a0_34_c, 72, .inl a0_34_f)), (a0_35, .inl (a0_35_c, 24, .inl a0_35_f)), (a0_38, .inl (a0_38_c, 176, .inl a0_38_f)), (a0_43, .inl (a0_43_c, 288, .inl za0_43_f_6))] H ∧ va_D A [(a0, .inr (8, [.int 0, .int za0_1_3, .int za0_2_4, .int za0_3_5, .ref a0_4, .int a0_5, .int a0_6, .int a0_7, .int a0_8, .int a0_9, .int a0_10, .long a0_11, .int a0_12, .int a0_13, .int a0_14, .int a0_15, .int a0_16, .int a0_17, .ref a0_18, .ref a0_19, .ref a0_20, .ref a0_21, .ref a0_22, .ref a0_23, .ref a0_24, .ref a0_25, .ref a0_26, .ref a0_27, .ref a0_28, .ref a0_29, .ref a0_30, .ref a0_31, .ref a0_32, .ref a0_33, .ref a0_34, .ref a0_35, .long a0_36, .int a0_37, .ref a0_38, .ref a0_39, .int a0_40, .ref a0_41, .ref a0_42, .ref a0_43])), (a0_20, .inl (a0_20_c, 2, .inl a0_20_f)), (a0_21, .inl (a0_21_c, 2, .inl a0_21_f)), (a0_23, .inl (a0_23_c, 16, .inl a0_23_f)), (a0_26, .inl (a0_26_c, 8, .inl a0_26_f)), (a0_29, .inl (a0_29_c, 48, .inl a0_29_f)), (a0_30, .inl (a0_30_c, 48, .inl a0_30_f)), (a0_31, .inl (a0_31_c, 48, .inl a0_31_f)), (a0_32, .inl (a0_32_c, 24, .inl a0_32_f)), (a0_33, .inl (a0_33_c, 24, .inl a0_33_f)), (a0_34, .inl (a0_34_c, 72, .inl a0_34_f)), (a0_35, .inl (a0_35_c, 24, .inl a0_35_f)), (a0_38, .inl (a0_38_c, 176, .inl a0_38_f)), (a0_43, .inl (a0_43_c, 288, .inl za0_43_f_6))] ∧ va_S A s.heap H locs) ?_ ((2147483647 - (0 : Int32).toInt).toNat) _ _ _ ⟨0, 0, rfl, (by omega), lv_sub hl [0, 1, 2, 3, 4, 5] rfl, hP, hD, hS⟩
      intro n36 H locs ls hI ih36
      obtain ⟨l36_5, l36_4, hn36, g_l36_5, hl, hP, hD, hS⟩ := hI
      have b_l36_5 := i32b l36_5
      have b_l36_4 := i32b l36_4
      refine lv_iload hx hb dX9_listed_36 (lv_at hl 0 rfl) ?_
      refine lv_aload_n hx hb dX9_listed_38 rfl (lv_at hl 3 rfl) ?_
      refine va_get (D := (dC, dI)) (ci := 8) (v := .ref a0_20) (C := RX9) (T := TX9) (N := 44) hx hb hts inlX9 hown hK hP 0 rgL14_6e084ec rfl 20 (by decide) (hts (.fieldLink RX9 20 "ClosedUntilModel" "pieces" "[I") qw_439) (fun _ h9 => h9) rfl dX9_listed_39 ?_
      refine lv_iconst (v := 0) hx hb dX9_listed_42 (by decide) ?_
      refine va_iald hx hb hK hP 1 0 rgL14_2dacc1d rgT13_f65b496 (vin0 (by decide)) dX9_listed_43 ?_
      refine lv_topi (fun x11 e_x11 => ?_)
      have q_x11 : x11.toInt = (a0_20_f 0).toInt := congrArg Int32.toInt e_x11
      have b_x11 : 0 ≤ x11.toInt ∧ x11.toInt ≤ 24 := vr_at (lo := 0) (hi := 24) (f := a0_20_f) h_a0_20_f e_x11
      refine lv_icmp_ge (tgt := 74) hx hb dX9_listed_44 (by decide) (fun c44_12 => ?_) (fun c44_12 => ?_)
      · have c44_12 : x11.toInt ≤ l36_5.toInt := (cv_le rfl rfl).mp c44_12
        refine lv_iload hx hb dX9_listed_74 (lv_at hl 1 rfl) ?_
        refine lv_iload_n hx hb dX9_listed_76 rfl (lv_at hl 4 rfl) ?_
        refine lv_icmp_ne (tgt := 82) hx hb dX9_listed_77 (by decide) (fun c77_13 => ?_) (fun c77_13 => ?_)
        · have c77_13 : ¬ (l36_4.toInt = a1.toInt) := mt (cv_eq rfl rfl).mpr c77_13
          obtain ⟨x14, e_x14⟩ : ∃ y : Int32, y = l20_3 + 1 := ⟨_, rfl⟩
          refine lv_iinc (v := x14) (lv' := [(3, .int x14), (5, .int l36_5), (4, .int l36_4), (0, .ref a0), (1, .int a1), (2, .int a2)]) hx hb dX9_listed_82 hl (k := 2) rfl (by rw [e_x14]; rfl) (by decide) rfl (fun ls hl => ?_)
          try have e_x14 := ti_add e_x14 rfl (show (1 : Int32).toInt = 1 by decide) (by omega)
          refine lv_goto (tgt := 20) hx hb dX9_listed_85 (by decide) ?_
          exact ih20 ((2147483647 - x14.toInt).toNat) _ _ _ (by omega) ⟨x14, rfl, (by omega), lv_sub hl [0, 3, 4, 5] rfl, hP, hD, hS⟩
        · have c77_13 : l36_4.toInt = a1.toInt := (cv_eq rfl rfl).mp c77_13
          refine lv_iload_n hx hb dX9_listed_80 rfl (lv_at hl 2 rfl) ?_
          have qc0 : (0 : Int32).toInt = 0 := by decide
          refine W.widen (k := 0) (n := 0) (Nat.le_of_ble_eq_true rfl) (Nat.le_of_ble_eq_true rfl) ?_
          have hP9 := hP
          have hD9 := hD
          have hK9 := (rgK13_332f5b0 hK)
          exact W.iret (v := l20_3) hx hb hr (fun t ht hW => ⟨⟨l20_3, l20_3, rfl, rfl, 0, za0_1_3, za0_2_4, za0_3_5, za0_43_f_6, atB ht hP9, va_K.moved hW.alike hK9, hD9⟩, hS.F ht⟩) hS.2.2 dX9_listed_81
      · have c44_12 : ¬ (x11.toInt ≤ l36_5.toInt) := mt (cv_le rfl rfl).mpr c44_12
        refine lv_iload hx hb dX9_listed_47 (lv_at hl 1 rfl) ?_
        refine lv_aload_n hx hb dX9_listed_49 rfl (lv_at hl 3 rfl) ?_
        refine lv_iload hx hb dX9_listed_50 (lv_at hl 0 rfl) ?_
        refine lv_iload_n hx hb dX9_listed_52 rfl (lv_at hl 2 rfl) ?_
        refine lv_iload_n hx hb dX9_listed_53 rfl (lv_at hl 5 rfl) ?_
        have qc0 : (0 : Int32).toInt = 0 := by decide
        have hPc := (rgP14_00aefce hP)
        have hKc := (rgK13_33899b2 hK)
        refine vp_callSi ((va_runV (As := [.int l36_5, .int l20_3, .int a2]) (rest := [.int l36_4]) ⟨hx, hb, hml, hown, hts⟩ (k_X9_isAhead l dC dI g (a0) (l36_5) (l20_3) (a2) (0) (za0_1_3) (za0_2_4) (za0_3_5) (a0_4) (a0_5) (a0_6) (a0_7) (a0_8) (a0_9) (a0_10) (a0_11) (a0_12) (a0_13) (a0_14) (a0_15) (a0_16) (a0_17) (a0_18) (a0_19) (a0_20) (a0_21) (a0_22) (a0_23) (a0_24) (a0_25) (a0_26) (a0_27) (a0_28) (a0_29) (a0_30) (a0_31) (a0_32) (a0_33) (a0_34) (a0_35) (a0_36) (a0_37) (a0_38) (a0_39) (a0_40) (a0_41) (a0_42) (a0_43) (a0_21_c) (a0_21_f) (a0_32_c) (a0_32_f) (a0_38_c) (a0_38_f) (a0_43_c) (za0_43_f_6) ((a0_20_f 0).toInt) (by omega) (by omega) (by omega) (by omega) (by omega) (by omega) (by omega) h_a0_21_f (by omega) (by assumption) (by omega) (by omega)) (cwV 3 hts (gwV qw_642 qw_643 qw_644 qw_386 qw_641) rfl rfl rfl (by decide +kernel) ⟨Nat.le_of_ble_eq_true rfl, Nat.le_of_ble_eq_true rfl⟩) ⟨fun a U g9 mk q => ⟨q.1, q.2.1, va_K.moved (u := U) (U := U.calling g9 mk a) (Vm.Alike.refl U.vm) q.2.2.1, Ev.bl q.2.2.2⟩, va_recv hK hP (ci := 8) (q0 := 0) rfl rgL14_6e084ec, fun U hU hW => ⟨rfl, atB hU hPc, va_K.moved hW.alike hKc, hE.go hS (fun _ h => h.elim) hU hW⟩⟩ rfl rfl hl.1 rfl (lv_room (Nat.le_of_ble_eq_true rfl)) dX9_listed_54 ⟨Nat.le_of_ble_eq_true rfl, Nat.le_of_ble_eq_true rfl⟩)).run (fun r15 h_r15 => ?_)
        have h_r15 : (r15 = 0 ∨ r15 = 1) := h_r15
        have b_r15 := z01 (show r15 = 0 ∨ r15 = 1 from h_r15)
        refine lv_if_eq (tgt := 64) hx hb dX9_listed_57 (by decide) (fun c57_16 => ?_) (fun c57_16 => ?_)
        · have c57_16 : r15.toInt = 0 := (cv_eq rfl (by decide)).mp c57_16
          refine lv_iconst (v := 0) hx hb dX9_listed_64 (by decide) ?_
          refine lv_iadd hx hb dX9_listed_65 ?_
          refine lv_topi (fun x17 e_x17 => ?_)
          try have e_x17 := ti_add e_x17 rfl (show (0 : Int32).toInt = 0 by decide) (by omega)
          refine lv_istore (lv' := [(4, .int x17), (5, .int l36_5), (3, .int l20_3), (0, .ref a0), (1, .int a1), (2, .int a2)]) hx hb dX9_listed_66 hl (by decide) rfl (fun ls hl => ?_)
          obtain ⟨x18, e_x18⟩ : ∃ y : Int32, y = l36_5 + 1 := ⟨_, rfl⟩
          refine lv_iinc (v := x18) (lv' := [(5, .int x18), (4, .int x17), (3, .int l20_3), (0, .ref a0), (1, .int a1), (2, .int a2)]) hx hb dX9_listed_68 hl (k := 1) rfl (by rw [e_x18]; rfl) (by decide) rfl (fun ls hl => ?_)
          try have e_x18 := ti_add e_x18 rfl (show (1 : Int32).toInt = 1 by decide) (by omega)
          refine lv_goto (tgt := 36) hx hb dX9_listed_71 (by decide) ?_
          exact ih36 ((2147483647 - x18.toInt).toNat) _ _ _ (by omega) ⟨x18, x17, rfl, (by omega), lv_sub hl [0, 1, 2, 3, 4, 5] rfl, hP, hD, hS⟩
        · have c57_16 : ¬ (r15.toInt = 0) := mt (cv_eq rfl (by decide)).mpr c57_16
          refine lv_iconst (v := 1) hx hb dX9_listed_60 (by decide) ?_
          refine lv_goto (tgt := 65) hx hb dX9_listed_61 (by decide) ?_
          refine lv_iadd hx hb dX9_listed_65 ?_
          refine lv_topi (fun x19 e_x19 => ?_)
          try have e_x19 := ti_add e_x19 rfl (show (1 : Int32).toInt = 1 by decide) (by omega)
          refine lv_istore (lv' := [(4, .int x19), (5, .int l36_5), (3, .int l20_3), (0, .ref a0), (1, .int a1), (2, .int a2)]) hx hb dX9_listed_66 hl (by decide) rfl (fun ls hl => ?_)
          obtain ⟨x20, e_x20⟩ : ∃ y : Int32, y = l36_5 + 1 := ⟨_, rfl⟩
          refine lv_iinc (v := x20) (lv' := [(5, .int x20), (4, .int x19), (3, .int l20_3), (0, .ref a0), (1, .int a1), (2, .int a2)]) hx hb dX9_listed_68 hl (k := 1) rfl (by rw [e_x20]; rfl) (by decide) rfl (fun ls hl => ?_)
          try have e_x20 := ti_add e_x20 rfl (show (1 : Int32).toInt = 1 by decide) (by omega)
          refine lv_goto (tgt := 36) hx hb dX9_listed_71 (by decide) ?_
          exact ih36 ((2147483647 - x20.toInt).toNat) _ _ _ (by omega) ⟨x20, x19, rfl, (by omega), lv_sub hl [0, 1, 2, 3, 4, 5] rfl, hP, hD, hS⟩
  · have c13_8 : r7.toInt = 0 := (cv_eq rfl (by decide)).mp c13_8
    refine lv_iconst (v := (-1)) hx hb dX9_listed_16 (by decide) ?_
    have qcm1 : ((-1) : Int32).toInt = (-1) := by decide
    have qc0 : (0 : Int32).toInt = 0 := by decide
    refine W.widen (k := 0) (n := 0) (Nat.le_of_ble_eq_true rfl) (Nat.le_of_ble_eq_true rfl) ?_
    have hP9 := hP
    have hD9 := hD
    have hK9 := (rgK13_332f5b0 hK)
    exact W.iret (v := (-1)) hx hb hr (fun t ht hW => ⟨⟨(-1), (-1), rfl, rfl, 0, za0_1_3, za0_2_4, za0_3_5, za0_43_f_6, atB ht hP9, va_K.moved hW.alike hK9, hD9⟩, hS.F ht⟩) hS.2.2 dX9_listed_17
set_option maxHeartbeats 4000000 in
set_option maxRecDepth 100000 in
theorem k_X9_mustGo (l : Launch) (dC : Nat → ClassId) (dI : Nat → Nat → Nat) (g : Gv) (sz : Nat) (a0 : Nat) (a1 : Int32) (a2 : Int32) (a3 : Int32) (a0_0 : Int32) (a0_1 : Int32) (a0_2 : Int32) (a0_3 : Int32) (a0_4 : Nat) (a0_5 : Int32) (a0_6 : Int32) (a0_7 : Int32) (a0_8 : Int32) (a0_9 : Int32) (a0_10 : Int32) (a0_11 : Int64) (a0_12 : Int32) (a0_13 : Int32) (a0_14 : Int32) (a0_15 : Int32) (a0_16 : Int32) (a0_17 : Int32) (a0_18 : Nat) (a0_19 : Nat) (a0_20 : Nat) (a0_21 : Nat) (a0_22 : Nat) (a0_23 : Nat) (a0_24 : Nat) (a0_25 : Nat) (a0_26 : Nat) (a0_27 : Nat) (a0_28 : Nat) (a0_29 : Nat) (a0_30 : Nat) (a0_31 : Nat) (a0_32 : Nat) (a0_33 : Nat) (a0_34 : Nat) (a0_35 : Nat) (a0_36 : Int64) (a0_37 : Int32) (a0_38 : Nat) (a0_39 : Nat) (a0_40 : Int32) (a0_41 : Nat) (a0_42 : Nat) (a0_43 : Nat) (a0_20_c : ClassId) (a0_20_f : Nat → Int32) (a0_21_c : ClassId) (a0_21_f : Nat → Int32) (a0_23_c : ClassId) (a0_23_f : Nat → Int32) (a0_26_c : ClassId) (a0_26_f : Nat → Int32) (a0_29_c : ClassId) (a0_29_f : Nat → Int32) (a0_30_c : ClassId) (a0_30_f : Nat → Int32) (a0_31_c : ClassId) (a0_31_f : Nat → Int32) (a0_32_c : ClassId) (a0_32_f : Nat → Int32) (a0_33_c : ClassId) (a0_33_f : Nat → Int32) (a0_34_c : ClassId) (a0_34_f : Nat → Int32) (a0_35_c : ClassId) (a0_35_f : Nat → Int32) (a0_38_c : ClassId) (a0_38_f : Nat → Int32) (h_a0_5 : 0 ≤ a0_5.toInt ∧ a0_5.toInt ≤ 1000) (h_a0_6 : 0 ≤ a0_6.toInt ∧ a0_6.toInt ≤ 1000) (h_a0_7 : 0 ≤ a0_7.toInt ∧ a0_7.toInt ≤ 1000) (h_a0_8 : 0 ≤ a0_8.toInt ∧ a0_8.toInt ≤ 1000) (h_a0_17 : 0 ≤ a0_17.toInt ∧ a0_17.toInt ≤ 1) (h_a0_37 : (-1) ≤ a0_37.toInt ∧ a0_37.toInt ≤ 23) (h_a0_40 : 0 ≤ a0_40.toInt ∧ a0_40.toInt ≤ 12) (h_a0_20_f : vr 0 24 a0_20_f) (h_a0_21_f : vr 0 12 a0_21_f) (hms : RowOk (a0_20_f 0).toInt a0_38_f 0) (hmw : WOk a0_32_f a0_33_f 0 (a0_21_f 0).toInt) : Met l yX9_mustGo (.code yX9_mustGo cX9_mustGo 7 (some .int) :: TBL) ({ frames := 7, cells := 0, slots := 0, locals := 164 }) (va_Pc [.ref a0, .int a1, .int a2, .int a3] (fun U => U.heap.size = sz ∧ va_P (dC, dI) vwCl [(a0, .inr (8, [.int a0_0, .int a0_1, .int a0_2, .int a0_3, .ref a0_4, .int a0_5, .int a0_6, .int a0_7, .int a0_8, .int a0_9, .int a0_10, .long a0_11, .int a0_12, .int a0_13, .int a0_14, .int a0_15, .int a0_16, .int a0_17, .ref a0_18, .ref a0_19, .ref a0_20, .ref a0_21, .ref a0_22, .ref a0_23, .ref a0_24, .ref a0_25, .ref a0_26, .ref a0_27, .ref a0_28, .ref a0_29, .ref a0_30, .ref a0_31, .ref a0_32, .ref a0_33, .ref a0_34, .ref a0_35, .long a0_36, .int a0_37, .ref a0_38, .ref a0_39, .int a0_40, .ref a0_41, .ref a0_42, .ref a0_43])), (a0_20, .inl (a0_20_c, 2, .inl a0_20_f)), (a0_21, .inl (a0_21_c, 2, .inl a0_21_f)), (a0_23, .inl (a0_23_c, 16, .inl a0_23_f)), (a0_26, .inl (a0_26_c, 8, .inl a0_26_f)), (a0_29, .inl (a0_29_c, 48, .inl a0_29_f)), (a0_30, .inl (a0_30_c, 48, .inl a0_30_f)), (a0_31, .inl (a0_31_c, 48, .inl a0_31_f)), (a0_32, .inl (a0_32_c, 24, .inl a0_32_f)), (a0_33, .inl (a0_33_c, 24, .inl a0_33_f)), (a0_34, .inl (a0_34_c, 72, .inl a0_34_f)), (a0_35, .inl (a0_35_c, 24, .inl a0_35_f)), (a0_38, .inl (a0_38_c, 176, .inl a0_38_f))] U.heap ∧ va_K (dC, dI) vwCl [(a0_20_c, .int), (a0_21_c, .int), (a0_23_c, .int), (a0_26_c, .int), (a0_29_c, .int), (a0_30_c, .int), (a0_31_c, .int), (a0_32_c, .int), (a0_33_c, .int), (a0_34_c, .int), (a0_35_c, .boolean), (a0_38_c, .int)] U ∧ va_D (fun _ => True) [(a0, .inr (8, [.int a0_0, .int a0_1, .int a0_2, .int a0_3, .ref a0_4, .int a0_5, .int a0_6, .int a0_7, .int a0_8, .int a0_9, .int a0_10, .long a0_11, .int a0_12, .int a0_13, .int a0_14, .int a0_15, .int a0_16, .int a0_17, .ref a0_18, .ref a0_19, .ref a0_20, .ref a0_21, .ref a0_22, .ref a0_23, .ref a0_24, .ref a0_25, .ref a0_26, .ref a0_27, .ref a0_28, .ref a0_29, .ref a0_30, .ref a0_31, .ref a0_32, .ref a0_33, .ref a0_34, .ref a0_35, .long a0_36, .int a0_37, .ref a0_38, .ref a0_39, .int a0_40, .ref a0_41, .ref a0_42, .ref a0_43])), (a0_20, .inl (a0_20_c, 2, .inl a0_20_f)), (a0_21, .inl (a0_21_c, 2, .inl a0_21_f)), (a0_23, .inl (a0_23_c, 16, .inl a0_23_f)), (a0_26, .inl (a0_26_c, 8, .inl a0_26_f)), (a0_29, .inl (a0_29_c, 48, .inl a0_29_f)), (a0_30, .inl (a0_30_c, 48, .inl a0_30_f)), (a0_31, .inl (a0_31_c, 48, .inl a0_31_f)), (a0_32, .inl (a0_32_c, 24, .inl a0_32_f)), (a0_33, .inl (a0_33_c, 24, .inl a0_33_f)), (a0_34, .inl (a0_34_c, 72, .inl a0_34_f)), (a0_35, .inl (a0_35_c, 24, .inl a0_35_f)), (a0_38, .inl (a0_38_c, 176, .inl a0_38_f))] ∧ Ev g (va_A [(a0, .inr (8, [.int a0_0, .int a0_1, .int a0_2, .int a0_3, .ref a0_4, .int a0_5, .int a0_6, .int a0_7, .int a0_8, .int a0_9, .int a0_10, .long a0_11, .int a0_12, .int a0_13, .int a0_14, .int a0_15, .int a0_16, .int a0_17, .ref a0_18, .ref a0_19, .ref a0_20, .ref a0_21, .ref a0_22, .ref a0_23, .ref a0_24, .ref a0_25, .ref a0_26, .ref a0_27, .ref a0_28, .ref a0_29, .ref a0_30, .ref a0_31, .ref a0_32, .ref a0_33, .ref a0_34, .ref a0_35, .long a0_36, .int a0_37, .ref a0_38, .ref a0_39, .int a0_40, .ref a0_41, .ref a0_42, .ref a0_43])), (a0_20, .inl (a0_20_c, 2, .inl a0_20_f)), (a0_21, .inl (a0_21_c, 2, .inl a0_21_f)), (a0_23, .inl (a0_23_c, 16, .inl a0_23_f)), (a0_26, .inl (a0_26_c, 8, .inl a0_26_f)), (a0_29, .inl (a0_29_c, 48, .inl a0_29_f)), (a0_30, .inl (a0_30_c, 48, .inl a0_30_f)), (a0_31, .inl (a0_31_c, 48, .inl a0_31_f)), (a0_32, .inl (a0_32_c, 24, .inl a0_32_f)), (a0_33, .inl (a0_33_c, 24, .inl a0_33_f)), (a0_34, .inl (a0_34_c, 72, .inl a0_34_f)), (a0_35, .inl (a0_35_c, 24, .inl a0_35_f)), (a0_38, .inl (a0_38_c, 176, .inl a0_38_f))] sz) U)) (va_Qi (fun (r : Int32) (u : Int32) => u = r) (fun (u : Int32) (t : State) => ∃ (za0_0 : Int32) (za0_1 : Int32) (za0_2 : Int32) (za0_3 : Int32), va_P (dC, dI) vwCl [(a0, .inr (8, [.int za0_0, .int za0_1, .int za0_2, .int za0_3, .ref a0_4, .int a0_5, .int a0_6, .int a0_7, .int a0_8, .int a0_9, .int a0_10, .long a0_11, .int a0_12, .int a0_13, .int a0_14, .int a0_15, .int a0_16, .int a0_17, .ref a0_18, .ref a0_19, .ref a0_20, .ref a0_21, .ref a0_22, .ref a0_23, .ref a0_24, .ref a0_25, .ref a0_26, .ref a0_27, .ref a0_28, .ref a0_29, .ref a0_30, .ref a0_31, .ref a0_32, .ref a0_33, .ref a0_34, .ref a0_35, .long a0_36, .int a0_37, .ref a0_38, .ref a0_39, .int a0_40, .ref a0_41, .ref a0_42, .ref a0_43])), (a0_20, .inl (a0_20_c, 2, .inl a0_20_f)), (a0_21, .inl (a0_21_c, 2, .inl a0_21_f)), (a0_23, .inl (a0_23_c, 16, .inl a0_23_f)), (a0_26, .inl (a0_26_c, 8, .inl a0_26_f)), (a0_29, .inl (a0_29_c, 48, .inl a0_29_f)), (a0_30, .inl (a0_30_c, 48, .inl a0_30_f)), (a0_31, .inl (a0_31_c, 48, .inl a0_31_f)), (a0_32, .inl (a0_32_c, 24, .inl a0_32_f)), (a0_33, .inl (a0_33_c, 24, .inl a0_33_f)), (a0_34, .inl (a0_34_c, 72, .inl a0_34_f)), (a0_35, .inl (a0_35_c, 24, .inl a0_35_f)), (a0_38, .inl (a0_38_c, 176, .inl a0_38_f))] t.heap ∧ va_K (dC, dI) vwCl [] t ∧ va_D (va_A [(a0, .inr (8, [.int a0_0, .int a0_1, .int a0_2, .int a0_3, .ref a0_4, .int a0_5, .int a0_6, .int a0_7, .int a0_8, .int a0_9, .int a0_10, .long a0_11, .int a0_12, .int a0_13, .int a0_14, .int a0_15, .int a0_16, .int a0_17, .ref a0_18, .ref a0_19, .ref a0_20, .ref a0_21, .ref a0_22, .ref a0_23, .ref a0_24, .ref a0_25, .ref a0_26, .ref a0_27, .ref a0_28, .ref a0_29, .ref a0_30, .ref a0_31, .ref a0_32, .ref a0_33, .ref a0_34, .ref a0_35, .long a0_36, .int a0_37, .ref a0_38, .ref a0_39, .int a0_40, .ref a0_41, .ref a0_42, .ref a0_43])), (a0_20, .inl (a0_20_c, 2, .inl a0_20_f)), (a0_21, .inl (a0_21_c, 2, .inl a0_21_f)), (a0_23, .inl (a0_23_c, 16, .inl a0_23_f)), (a0_26, .inl (a0_26_c, 8, .inl a0_26_f)), (a0_29, .inl (a0_29_c, 48, .inl a0_29_f)), (a0_30, .inl (a0_30_c, 48, .inl a0_30_f)), (a0_31, .inl (a0_31_c, 48, .inl a0_31_f)), (a0_32, .inl (a0_32_c, 24, .inl a0_32_f)), (a0_33, .inl (a0_33_c, 24, .inl a0_33_f)), (a0_34, .inl (a0_34_c, 72, .inl a0_34_f)), (a0_35, .inl (a0_35_c, 24, .inl a0_35_f)), (a0_38, .inl (a0_38_c, 176, .inl a0_38_f))] sz) [(a0, .inr (8, [.int za0_0, .int za0_1, .int za0_2, .int za0_3, .ref a0_4, .int a0_5, .int a0_6, .int a0_7, .int a0_8, .int a0_9, .int a0_10, .long a0_11, .int a0_12, .int a0_13, .int a0_14, .int a0_15, .int a0_16, .int a0_17, .ref a0_18, .ref a0_19, .ref a0_20, .ref a0_21, .ref a0_22, .ref a0_23, .ref a0_24, .ref a0_25, .ref a0_26, .ref a0_27, .ref a0_28, .ref a0_29, .ref a0_30, .ref a0_31, .ref a0_32, .ref a0_33, .ref a0_34, .ref a0_35, .long a0_36, .int a0_37, .ref a0_38, .ref a0_39, .int a0_40, .ref a0_41, .ref a0_42, .ref a0_43])), (a0_20, .inl (a0_20_c, 2, .inl a0_20_f)), (a0_21, .inl (a0_21_c, 2, .inl a0_21_f)), (a0_23, .inl (a0_23_c, 16, .inl a0_23_f)), (a0_26, .inl (a0_26_c, 8, .inl a0_26_f)), (a0_29, .inl (a0_29_c, 48, .inl a0_29_f)), (a0_30, .inl (a0_30_c, 48, .inl a0_30_f)), (a0_31, .inl (a0_31_c, 48, .inl a0_31_f)), (a0_32, .inl (a0_32_c, 24, .inl a0_32_f)), (a0_33, .inl (a0_33_c, 24, .inl a0_33_f)), (a0_34, .inl (a0_34_c, 72, .inl a0_34_f)), (a0_35, .inl (a0_35_c, 24, .inl a0_35_f)), (a0_38, .inl (a0_38_c, 176, .inl a0_38_f))]) (va_A [(a0, .inr (8, [.int a0_0, .int a0_1, .int a0_2, .int a0_3, .ref a0_4, .int a0_5, .int a0_6, .int a0_7, .int a0_8, .int a0_9, .int a0_10, .long a0_11, .int a0_12, .int a0_13, .int a0_14, .int a0_15, .int a0_16, .int a0_17, .ref a0_18, .ref a0_19, .ref a0_20, .ref a0_21, .ref a0_22, .ref a0_23, .ref a0_24, .ref a0_25, .ref a0_26, .ref a0_27, .ref a0_28, .ref a0_29, .ref a0_30, .ref a0_31, .ref a0_32, .ref a0_33, .ref a0_34, .ref a0_35, .long a0_36, .int a0_37, .ref a0_38, .ref a0_39, .int a0_40, .ref a0_41, .ref a0_42, .ref a0_43])), (a0_20, .inl (a0_20_c, 2, .inl a0_20_f)), (a0_21, .inl (a0_21_c, 2, .inl a0_21_f)), (a0_23, .inl (a0_23_c, 16, .inl a0_23_f)), (a0_26, .inl (a0_26_c, 8, .inl a0_26_f)), (a0_29, .inl (a0_29_c, 48, .inl a0_29_f)), (a0_30, .inl (a0_30_c, 48, .inl a0_30_f)), (a0_31, .inl (a0_31_c, 48, .inl a0_31_f)), (a0_32, .inl (a0_32_c, 24, .inl a0_32_f)), (a0_33, .inl (a0_33_c, 24, .inl a0_33_f)), (a0_34, .inl (a0_34_c, 72, .inl a0_34_f)), (a0_35, .inl (a0_35_c, 24, .inl a0_35_f)), (a0_38, .inl (a0_38_c, 176, .inl a0_38_f))] sz)) 0 0 (va_A [(a0, .inr (8, [.int a0_0, .int a0_1, .int a0_2, .int a0_3, .ref a0_4, .int a0_5, .int a0_6, .int a0_7, .int a0_8, .int a0_9, .int a0_10, .long a0_11, .int a0_12, .int a0_13, .int a0_14, .int a0_15, .int a0_16, .int a0_17, .ref a0_18, .ref a0_19, .ref a0_20, .ref a0_21, .ref a0_22, .ref a0_23, .ref a0_24, .ref a0_25, .ref a0_26, .ref a0_27, .ref a0_28, .ref a0_29, .ref a0_30, .ref a0_31, .ref a0_32, .ref a0_33, .ref a0_34, .ref a0_35, .long a0_36, .int a0_37, .ref a0_38, .ref a0_39, .int a0_40, .ref a0_41, .ref a0_42, .ref a0_43])), (a0_20, .inl (a0_20_c, 2, .inl a0_20_f)), (a0_21, .inl (a0_21_c, 2, .inl a0_21_f)), (a0_23, .inl (a0_23_c, 16, .inl a0_23_f)), (a0_26, .inl (a0_26_c, 8, .inl a0_26_f)), (a0_29, .inl (a0_29_c, 48, .inl a0_29_f)), (a0_30, .inl (a0_30_c, 48, .inl a0_30_f)), (a0_31, .inl (a0_31_c, 48, .inl a0_31_f)), (a0_32, .inl (a0_32_c, 24, .inl a0_32_f)), (a0_33, .inl (a0_33_c, 24, .inl a0_33_f)), (a0_34, .inl (a0_34_c, 72, .inl a0_34_f)), (a0_35, .inl (a0_35_c, 24, .inl a0_35_f)), (a0_38, .inl (a0_38_c, 176, .inl a0_38_f))] sz) := by
  refine Met.ofW (cc := cX9_mustGo) (maxL := 7) (ret := (some .int)) (by decide) rfl ?_
  intro p e s m args below meth c s₁ B hml hv
  obtain ⟨rfl, hsz, hP, hK, hD0, hE⟩ := hv
  have hx := B.exec
  have hb := B.bytes
  have hr := B.returns
  have hts0 := atoms_spec (ws := (.code yX9_mustGo cX9_mustGo 7 (some .int) :: TBL)) B.pre
  have hts := fun (w : Cond) (h : w ∈ TBL) => hts0 w (List.mem_cons_of_mem _ h)
  have hown : s.vm.findClass RX9 = some m.cls := findClass_of_methodNamed B.named
  have hlocks := B.notSynchronized
  have hN := hE.1
  subst hsz
  have hD := hD0.self (sz := s.heap.size)
  generalize hAe : va_A [(a0, .inr (8, [.int a0_0, .int a0_1, .int a0_2, .int a0_3, .ref a0_4, .int a0_5, .int a0_6, .int a0_7, .int a0_8, .int a0_9, .int a0_10, .long a0_11, .int a0_12, .int a0_13, .int a0_14, .int a0_15, .int a0_16, .int a0_17, .ref a0_18, .ref a0_19, .ref a0_20, .ref a0_21, .ref a0_22, .ref a0_23, .ref a0_24, .ref a0_25, .ref a0_26, .ref a0_27, .ref a0_28, .ref a0_29, .ref a0_30, .ref a0_31, .ref a0_32, .ref a0_33, .ref a0_34, .ref a0_35, .long a0_36, .int a0_37, .ref a0_38, .ref a0_39, .int a0_40, .ref a0_41, .ref a0_42, .ref a0_43])), (a0_20, .inl (a0_20_c, 2, .inl a0_20_f)), (a0_21, .inl (a0_21_c, 2, .inl a0_21_f)), (a0_23, .inl (a0_23_c, 16, .inl a0_23_f)), (a0_26, .inl (a0_26_c, 8, .inl a0_26_f)), (a0_29, .inl (a0_29_c, 48, .inl a0_29_f)), (a0_30, .inl (a0_30_c, 48, .inl a0_30_f)), (a0_31, .inl (a0_31_c, 48, .inl a0_31_f)), (a0_32, .inl (a0_32_c, 24, .inl a0_32_f)), (a0_33, .inl (a0_33_c, 24, .inl a0_33_f)), (a0_34, .inl (a0_34_c, 72, .inl a0_34_f)), (a0_35, .inl (a0_35_c, 24, .inl a0_35_f)), (a0_38, .inl (a0_38_c, 176, .inl a0_38_f))] s.heap.size = A at hD hE ⊢
  have hA : ∀ q : Nat, s.heap.size ≤ q → A q := fun q h => by rw [← hAe]; exact Or.inr h
  have hS : va_S A s.heap s.heap [] := va_S.rf
  replace hP : va_P (dC, dI) vwCl [(a0, .inr (8, [.int a0_0, .int a0_1, .int a0_2, .int a0_3, .ref a0_4, .int a0_5, .int a0_6, .int a0_7, .int a0_8, .int a0_9, .int a0_10, .long a0_11, .int a0_12, .int a0_13, .int a0_14, .int a0_15, .int a0_16, .int a0_17, .ref a0_18, .ref a0_19, .ref a0_20, .ref a0_21, .ref a0_22, .ref a0_23, .ref a0_24, .ref a0_25, .ref a0_26, .ref a0_27, .ref a0_28, .ref a0_29, .ref a0_30, .ref a0_31, .ref a0_32, .ref a0_33, .ref a0_34, .ref a0_35, .long a0_36, .int a0_37, .ref a0_38, .ref a0_39, .int a0_40, .ref a0_41, .ref a0_42, .ref a0_43])), (a0_20, .inl (a0_20_c, 2, .inl a0_20_f)), (a0_21, .inl (a0_21_c, 2, .inl a0_21_f)), (a0_23, .inl (a0_23_c, 16, .inl a0_23_f)), (a0_26, .inl (a0_26_c, 8, .inl a0_26_f)), (a0_29, .inl (a0_29_c, 48, .inl a0_29_f)), (a0_30, .inl (a0_30_c, 48, .inl a0_30_f)), (a0_31, .inl (a0_31_c, 48, .inl a0_31_f)), (a0_32, .inl (a0_32_c, 24, .inl a0_32_f)), (a0_33, .inl (a0_33_c, 24, .inl a0_33_f)), (a0_34, .inl (a0_34_c, 72, .inl a0_34_f)), (a0_35, .inl (a0_35_c, 24, .inl a0_35_f)), (a0_38, .inl (a0_38_c, 176, .inl a0_38_f))] s.heap := hP
  have hl := lv_entry ([.ref a0, .int a1, .int a2, .int a3]) (n := 7) (Nat.le_of_ble_eq_true rfl)
  rw [lg_entry_eq]
  generalize (lg_sl ([.ref a0, .int a1, .int a2, .int a3]) ++ List.replicate (7 - (lg_sl ([.ref a0, .int a1, .int a2, .int a3])).length) Slot.unset).toArray = ls at hl ⊢
  have hl : lv_has ls 7 [(0, .ref a0), (1, .int a1), (2, .int a2), (3, .int a3)] := hl
  have b_a1 := i32b a1
  have b_a2 := i32b a2
  have b_a3 := i32b a3
  have b_a0_0 := i32b a0_0
  have b_a0_1 := i32b a0_1
  have b_a0_2 := i32b a0_2
  have b_a0_3 := i32b a0_3
  have b_a0_9 := i32b a0_9
  have b_a0_10 := i32b a0_10
  have b_a0_12 := i32b a0_12
  have b_a0_13 := i32b a0_13
  have b_a0_14 := i32b a0_14
  have b_a0_15 := i32b a0_15
  have b_a0_16 := i32b a0_16
  have hp20 := vr_at h_a0_20_f (k := 0) rfl
  have hp21 := vr_at h_a0_21_f (k := 0) rfl
  refine lv_aload_n hx hb dX9_mustGo_0 rfl (lv_at hl 0 rfl) ?_
  refine lv_iconst (v := 0) hx hb dX9_mustGo_1 (by decide) ?_
  refine va_put (D := (dC, dI)) (ci := 8) (v := .int 0) (ty := .int) (C := RX9) (T := TX9) (N := 44) hx hb hts inlX9 tyX9 tyX9_ok nmX9 hown hK hP hD hS 0 rgL13_890e5ad rfl 0 (by decide) (hts (.fieldLink RX9 85 "ClosedUntilModel" "thrown" "I") qw_408) (fun _ h9 => h9) rfl (by decide +kernel) rfl rfl (Nat.le_of_ble_eq_true rfl) dX9_mustGo_2 (fun H locs hP9 hD9 hS9 => ?_)
  clear hP hD hS
  obtain ⟨hP, hD⟩ := rgS13_d750318 (e := (a0, .inr (8, [.int 0, .int a0_1, .int a0_2, .int a0_3, .ref a0_4, .int a0_5, .int a0_6, .int a0_7, .int a0_8, .int a0_9, .int a0_10, .long a0_11, .int a0_12, .int a0_13, .int a0_14, .int a0_15, .int a0_16, .int a0_17, .ref a0_18, .ref a0_19, .ref a0_20, .ref a0_21, .ref a0_22, .ref a0_23, .ref a0_24, .ref a0_25, .ref a0_26, .ref a0_27, .ref a0_28, .ref a0_29, .ref a0_30, .ref a0_31, .ref a0_32, .ref a0_33, .ref a0_34, .ref a0_35, .long a0_36, .int a0_37, .ref a0_38, .ref a0_39, .int a0_40, .ref a0_41, .ref a0_42, .ref a0_43]))) hP9 hD9 rfl
  have hS := hS9; clear hP9 hD9 hS9
  refine lv_aload_n hx hb dX9_mustGo_5 rfl (lv_at hl 0 rfl) ?_
  refine lv_iload_n hx hb dX9_mustGo_6 rfl (lv_at hl 1 rfl) ?_
  have qc0 : (0 : Int32).toInt = 0 := by decide
  have hPc := (rgP13_e9f0d34 hP)
  have hKc := (rgK12_2fc2b8d hK)
  refine vp_callSi ((va_runV (As := [.int a1]) (rest := []) ⟨hx, hb, hml, hown, hts⟩ (k_X9_isPiece l dC dI g (a0) (a1) (0) (a0_1) (a0_2) (a0_3) (a0_4) (a0_5) (a0_6) (a0_7) (a0_8) (a0_9) (a0_10) (a0_11) (a0_12) (a0_13) (a0_14) (a0_15) (a0_16) (a0_17) (a0_18) (a0_19) (a0_20) (a0_21) (a0_22) (a0_23) (a0_24) (a0_25) (a0_26) (a0_27) (a0_28) (a0_29) (a0_30) (a0_31) (a0_32) (a0_33) (a0_34) (a0_35) (a0_36) (a0_37) (a0_38) (a0_39) (a0_40) (a0_41) (a0_42) (a0_43) (a0_20_c) (a0_20_f) (by omega) (by omega) (by omega) (by omega) (by omega) (by omega) (by omega) h_a0_20_f) (cwV 1 hts (gwV qw_602 qw_603 qw_604 qw_386 qw_601) rfl rfl rfl (by decide +kernel) ⟨Nat.le_of_ble_eq_true rfl, Nat.le_of_ble_eq_true rfl⟩) ⟨fun a U g9 mk q => ⟨q.1, q.2.1, va_K.moved (u := U) (U := U.calling g9 mk a) (Vm.Alike.refl U.vm) q.2.2.1, Ev.bl q.2.2.2⟩, va_recv hK hP (ci := 8) (q0 := 0) rfl rgL13_890e5ad, fun U hU hW => ⟨rfl, atB hU hPc, va_K.moved hW.alike hKc, hE.go hS (fun _ h => h.elim) hU hW⟩⟩ rfl rfl hl.1 rfl (lv_room (Nat.le_of_ble_eq_true rfl)) dX9_mustGo_7 ⟨Nat.le_of_ble_eq_true rfl, Nat.le_of_ble_eq_true rfl⟩)).run (fun r1 h_r1 => ?_)
  have h_r1 : (r1 = 0 ∨ r1 = 1) ∧ ((r1.toInt = 1 ∧ 0 ≤ a1.toInt ∧ a1.toInt < (a0_20_f 0).toInt) ∨ r1.toInt = 0) := h_r1
  have b_r1 := z01 (show r1 = 0 ∨ r1 = 1 from h_r1.1)
  refine lv_if_eq (tgt := 21) hx hb dX9_mustGo_10 (by decide) (fun c10_2 => ?_) (fun c10_2 => ?_)
  · have c10_2 : r1.toInt = 0 := (cv_eq rfl (by decide)).mp c10_2
    refine lv_iconst (v := (-1)) hx hb dX9_mustGo_21 (by decide) ?_
    have qcm1 : ((-1) : Int32).toInt = (-1) := by decide
    have qc0 : (0 : Int32).toInt = 0 := by decide
    refine W.widen (k := 0) (n := 0) (Nat.le_of_ble_eq_true rfl) (Nat.le_of_ble_eq_true rfl) ?_
    have hP9 := hP
    have hD9 := hD
    have hK9 := (rgK12_8728a0f hK)
    exact W.iret (v := (-1)) hx hb hr (fun t ht hW => ⟨⟨(-1), (-1), rfl, rfl, 0, a0_1, a0_2, a0_3, atB ht hP9, va_K.moved hW.alike hK9, hD9⟩, hS.F ht⟩) hS.2.2 dX9_mustGo_22
  · have c10_2 : ¬ (r1.toInt = 0) := mt (cv_eq rfl (by decide)).mpr c10_2
    refine lv_iload_n hx hb dX9_mustGo_13 rfl (lv_at hl 2 rfl) ?_
    refine lv_iload_n hx hb dX9_mustGo_14 rfl (lv_at hl 3 rfl) ?_
    have hPc := (rgP13_cd0f0b0 hP)
    have hKc := (rgK12_8728a0f hK)
    refine vp_callSi ((va_runS (As := [.int a2, .int a3]) (rest := []) ⟨hx, hb, hml, hown, hts⟩ (k_X9_isAsked l dC dI g (a2) (a3) ) (va_cwS 2 hts (gwS qw_634 qw_635 qw_386 qw_633) rfl rfl rfl (by decide +kernel) ⟨Nat.le_of_ble_eq_true rfl, Nat.le_of_ble_eq_true rfl⟩) ⟨fun a U g9 mk q => ⟨q.1, q.2.1, va_K.moved (u := U) (U := U.calling g9 mk a) (Vm.Alike.refl U.vm) q.2.2.1, Ev.bl q.2.2.2⟩, fun U hU hW => ⟨rfl, atB hU hPc, va_K.moved hW.alike hKc, hE.go hS (fun _ h => h.elim) hU hW⟩⟩ rfl rfl hl.1 rfl (lv_room (Nat.le_of_ble_eq_true rfl)) dX9_mustGo_15 ⟨Nat.le_of_ble_eq_true rfl, Nat.le_of_ble_eq_true rfl⟩)).run (fun r3 h_r3 => ?_)
    have h_r3 : (r3 = 0 ∨ r3 = 1) := h_r3
    have b_r3 := z01 (show r3 = 0 ∨ r3 = 1 from h_r3)
    refine lv_if_ne (tgt := 23) hx hb dX9_mustGo_18 (by decide) (fun c18_4 => ?_) (fun c18_4 => ?_)
    · have c18_4 : ¬ (r3.toInt = 0) := mt (cv_eq rfl (by decide)).mpr c18_4
      refine lv_iconst (v := 0) hx hb dX9_mustGo_23 (by decide) ?_
      refine lv_istore (lv' := [(4, .int 0), (0, .ref a0), (1, .int a1), (2, .int a2), (3, .int a3)]) hx hb dX9_mustGo_24 hl (by decide) rfl (fun ls hl => ?_)
      refine lv_iconst (v := 0) hx hb dX9_mustGo_26 (by decide) ?_
      refine lv_istore (lv' := [(5, .int 0), (4, .int 0), (0, .ref a0), (1, .int a1), (2, .int a2), (3, .int a3)]) hx hb dX9_mustGo_27 hl (by decide) rfl (fun ls hl => ?_)
      have qc0 : (0 : Int32).toInt = 0 := by decide
      refine wloop (fun n H locs ls => ∃ (l29_5 : Int32) (l29_4 : Int32) (f29_0_1 : Int32) (f29_0_2 : Int32) (f29_0_3 : Int32), n = (2147483647 - l29_5.toInt).toNat ∧ (0 ≤ l29_5.toInt) ∧ lv_has ls 7 [(5, .int l29_5), (4, .int l29_4), (0, .ref a0), (1, .int a1), (2, .int a2), (3, .int a3)] ∧ va_P (dC, dI) vwCl [(a0, .inr (8, [.int 0, .int f29_0_1, .int f29_0_2, .int f29_0_3, .ref a0_4, .int a0_5, .int a0_6, .int a0_7, .int a0_8, .int a0_9, .int a0_10, .long a0_11, .int a0_12, .int a0_13, .int a0_14, .int a0_15, .int a0_16, .int a0_17, .ref a0_18, .ref a0_19, .ref a0_20, .ref a0_21, .ref a0_22, .ref a0_23, .ref a0_24, .ref a0_25, .ref a0_26, .ref a0_27, .ref a0_28, .ref a0_29, .ref a0_30, .ref a0_31, .ref a0_32, .ref a0_33, .ref a0_34, .ref a0_35, .long a0_36, .int a0_37, .ref a0_38, .ref a0_39, .int a0_40, .ref a0_41, .ref a0_42, .ref a0_43])), (a0_20, .inl (a0_20_c, 2, .inl a0_20_f)), (a0_21, .inl (a0_21_c, 2, .inl a0_21_f)), (a0_23, .inl (a0_23_c, 16, .inl a0_23_f)), (a0_26, .inl (a0_26_c, 8, .inl a0_26_f)), (a0_29, .inl (a0_29_c, 48, .inl a0_29_f)), (a0_30, .inl (a0_30_c, 48, .inl a0_30_f)), (a0_31, .inl (a0_31_c, 48, .inl a0_31_f)), (a0_32, .inl (a0_32_c, 24, .inl a0_32_f)), (a0_33, .inl (a0_33_c, 24, .inl a0_33_f)), (a0_34, .inl (a0_34_c, 72, .inl a0_34_f)), (a0_35, .inl (a0_35_c, 24, .inl a0_35_f)), (a0_38, .inl (a0_38_c, 176, .inl a0_38_f))] H ∧ va_D A [(a0, .inr (8, [.int 0, .int f29_0_1, .int f29_0_2, .int f29_0_3, .ref a0_4, .int a0_5, .int a0_6, .int a0_7, .int a0_8, .int a0_9, .int a0_10, .long a0_11, .int a0_12, .int a0_13, .int a0_14, .int a0_15, .int a0_16, .int a0_17, .ref a0_18, .ref a0_19, .ref a0_20, .ref a0_21, .ref a0_22, .ref a0_23, .ref a0_24, .ref a0_25, .ref a0_26, .ref a0_27, .ref a0_28, .ref a0_29, .ref a0_30, .ref a0_31, .ref a0_32, .ref a0_33, .ref a0_34, .ref a0_35, .long a0_36, .int a0_37, .ref a0_38, .ref a0_39, .int a0_40, .ref a0_41, .ref a0_42, .ref a0_43])), (a0_20, .inl (a0_20_c, 2, .inl a0_20_f)), (a0_21, .inl (a0_21_c, 2, .inl a0_21_f)), (a0_23, .inl (a0_23_c, 16, .inl a0_23_f)), (a0_26, .inl (a0_26_c, 8, .inl a0_26_f)), (a0_29, .inl (a0_29_c, 48, .inl a0_29_f)), (a0_30, .inl (a0_30_c, 48, .inl a0_30_f)), (a0_31, .inl (a0_31_c, 48, .inl a0_31_f)), (a0_32, .inl (a0_32_c, 24, .inl a0_32_f)), (a0_33, .inl (a0_33_c, 24, .inl a0_33_f)), (a0_34, .inl (a0_34_c, 72, .inl a0_34_f)), (a0_35, .inl (a0_35_c, 24, .inl a0_35_f)), (a0_38, .inl (a0_38_c, 176, .inl a0_38_f))] ∧ va_S A s.heap H locs) ?_ ((2147483647 - (0 : Int32).toInt).toNat) _ _ _ ⟨0, 0, a0_1, a0_2, a0_3, rfl, (by omega), lv_sub hl [0, 1, 2, 3, 4, 5] rfl, hP, hD, hS⟩
      intro n29 H locs ls hI ih29
      obtain ⟨l29_5, l29_4, f29_0_1, f29_0_2, f29_0_3, hn29, g_l29_5, hl, hP, hD, hS⟩ := hI
      have b_l29_5 := i32b l29_5
      have b_l29_4 := i32b l29_4
      have b_f29_0_1 := i32b f29_0_1
      have b_f29_0_2 := i32b f29_0_2
      have b_f29_0_3 := i32b f29_0_3
      refine lv_iload hx hb dX9_mustGo_29 (lv_at hl 0 rfl) ?_
      refine lv_aload_n hx hb dX9_mustGo_31 rfl (lv_at hl 2 rfl) ?_
      refine va_get (D := (dC, dI)) (ci := 8) (v := .ref a0_20) (C := RX9) (T := TX9) (N := 44) hx hb hts inlX9 hown hK hP 0 rgL13_890e5ad rfl 20 (by decide) (hts (.fieldLink RX9 20 "ClosedUntilModel" "pieces" "[I") qw_439) (fun _ h9 => h9) rfl dX9_mustGo_32 ?_
      refine lv_iconst (v := 0) hx hb dX9_mustGo_35 (by decide) ?_
      refine va_iald hx hb hK hP 1 0 rgL13_042e8a6 rgT12_6037471 (vin0 (by decide)) dX9_mustGo_36 ?_
      refine lv_topi (fun x5 e_x5 => ?_)
      have q_x5 : x5.toInt = (a0_20_f 0).toInt := congrArg Int32.toInt e_x5
      have b_x5 : 0 ≤ x5.toInt ∧ x5.toInt ≤ 24 := vr_at (lo := 0) (hi := 24) (f := a0_20_f) h_a0_20_f e_x5
      refine lv_icmp_ge (tgt := 115) hx hb dX9_mustGo_37 (by decide) (fun c37_6 => ?_) (fun c37_6 => ?_)
      · have c37_6 : x5.toInt ≤ l29_5.toInt := (cv_le rfl rfl).mp c37_6
        refine lv_iload hx hb dX9_mustGo_115 (lv_at hl 1 rfl) ?_
        have qc0 : (0 : Int32).toInt = 0 := by decide
        refine W.widen (k := 0) (n := 0) (Nat.le_of_ble_eq_true rfl) (Nat.le_of_ble_eq_true rfl) ?_
        have hP9 := hP
        have hD9 := hD
        have hK9 := (rgK12_8728a0f hK)
        exact W.iret (v := l29_4) hx hb hr (fun t ht hW => ⟨⟨l29_4, l29_4, rfl, rfl, 0, f29_0_1, f29_0_2, f29_0_3, atB ht hP9, va_K.moved hW.alike hK9, hD9⟩, hS.F ht⟩) hS.2.2 dX9_mustGo_117
      · have c37_6 : ¬ (x5.toInt ≤ l29_5.toInt) := mt (cv_le rfl rfl).mpr c37_6
        refine lv_aload_n hx hb dX9_mustGo_40 rfl (lv_at hl 2 rfl) ?_
        refine lv_iload hx hb dX9_mustGo_41 (lv_at hl 0 rfl) ?_
        refine lv_iload_n hx hb dX9_mustGo_43 rfl (lv_at hl 3 rfl) ?_
        have qc0 : (0 : Int32).toInt = 0 := by decide
        have hPc := (rgP13_3246ca5 hP)
        have hKc := (rgK12_2a1ca9e hK)
        refine vp_callSi ((va_runV (As := [.int l29_5, .int a1]) (rest := []) ⟨hx, hb, hml, hown, hts⟩ (k_X9_isUnder l dC dI g (a0) (l29_5) (a1) (0) (f29_0_1) (f29_0_2) (f29_0_3) (a0_4) (a0_5) (a0_6) (a0_7) (a0_8) (a0_9) (a0_10) (a0_11) (a0_12) (a0_13) (a0_14) (a0_15) (a0_16) (a0_17) (a0_18) (a0_19) (a0_20) (a0_21) (a0_22) (a0_23) (a0_24) (a0_25) (a0_26) (a0_27) (a0_28) (a0_29) (a0_30) (a0_31) (a0_32) (a0_33) (a0_34) (a0_35) (a0_36) (a0_37) (a0_38) (a0_39) (a0_40) (a0_41) (a0_42) (a0_43) (a0_38_c) (a0_38_f) ((a0_20_f 0).toInt) (by omega) (by omega) (by omega) (by omega) (by omega) (by omega) (by omega) (by omega) (by assumption) (by omega) (by omega)) (cwV 2 hts (gwV qw_504 qw_505 qw_506 qw_386 qw_503) rfl rfl rfl (by decide +kernel) ⟨Nat.le_of_ble_eq_true rfl, Nat.le_of_ble_eq_true rfl⟩) ⟨fun a U g9 mk q => ⟨q.1, q.2.1, va_K.moved (u := U) (U := U.calling g9 mk a) (Vm.Alike.refl U.vm) q.2.2.1, Ev.bl q.2.2.2⟩, va_recv hK hP (ci := 8) (q0 := 0) rfl rgL13_890e5ad, fun U hU hW => ⟨rfl, atB hU hPc, va_K.moved hW.alike hKc, hE.go hS (fun _ h => h.elim) hU hW⟩⟩ rfl rfl hl.1 rfl (lv_room (Nat.le_of_ble_eq_true rfl)) dX9_mustGo_44 ⟨Nat.le_of_ble_eq_true rfl, Nat.le_of_ble_eq_true rfl⟩)).run (fun r7 h_r7 => ?_)
        have h_r7 : (r7 = 0 ∨ r7 = 1) ∧ (r7.toInt = 0 → UQ a0_38_f a1 l29_5) := h_r7
        have b_r7 := z01 (show r7 = 0 ∨ r7 = 1 from h_r7.1)
        refine lv_if_ne (tgt := 53) hx hb dX9_mustGo_47 (by decide) (fun c47_8 => ?_) (fun c47_8 => ?_)
        · have c47_8 : ¬ (r7.toInt = 0) := mt (cv_eq rfl (by decide)).mpr c47_8
          refine lv_iconst (v := 0) hx hb dX9_mustGo_53 (by decide) ?_
          refine lv_istore (lv' := [(6, .int 0), (5, .int l29_5), (4, .int l29_4), (0, .ref a0), (1, .int a1), (2, .int a2), (3, .int a3)]) hx hb dX9_mustGo_54 hl (by decide) rfl (fun ls hl => ?_)
          have qc0 : (0 : Int32).toInt = 0 := by decide
          refine wloop (fun n H locs ls => ∃ (l56_6 : Int32) (l56_4 : Int32) (f56_0_1 : Int32) (f56_0_2 : Int32) (f56_0_3 : Int32), n = (2147483647 - l56_6.toInt).toNat ∧ (0 ≤ l56_6.toInt) ∧ lv_has ls 7 [(6, .int l56_6), (5, .int l29_5), (4, .int l56_4), (0, .ref a0), (1, .int a1), (2, .int a2), (3, .int a3)] ∧ va_P (dC, dI) vwCl [(a0, .inr (8, [.int 0, .int f56_0_1, .int f56_0_2, .int f56_0_3, .ref a0_4, .int a0_5, .int a0_6, .int a0_7, .int a0_8, .int a0_9, .int a0_10, .long a0_11, .int a0_12, .int a0_13, .int a0_14, .int a0_15, .int a0_16, .int a0_17, .ref a0_18, .ref a0_19, .ref a0_20, .ref a0_21, .ref a0_22, .ref a0_23, .ref a0_24, .ref a0_25, .ref a0_26, .ref a0_27, .ref a0_28, .ref a0_29, .ref a0_30, .ref a0_31, .ref a0_32, .ref a0_33, .ref a0_34, .ref a0_35, .long a0_36, .int a0_37, .ref a0_38, .ref a0_39, .int a0_40, .ref a0_41, .ref a0_42, .ref a0_43])), (a0_20, .inl (a0_20_c, 2, .inl a0_20_f)), (a0_21, .inl (a0_21_c, 2, .inl a0_21_f)), (a0_23, .inl (a0_23_c, 16, .inl a0_23_f)), (a0_26, .inl (a0_26_c, 8, .inl a0_26_f)), (a0_29, .inl (a0_29_c, 48, .inl a0_29_f)), (a0_30, .inl (a0_30_c, 48, .inl a0_30_f)), (a0_31, .inl (a0_31_c, 48, .inl a0_31_f)), (a0_32, .inl (a0_32_c, 24, .inl a0_32_f)), (a0_33, .inl (a0_33_c, 24, .inl a0_33_f)), (a0_34, .inl (a0_34_c, 72, .inl a0_34_f)), (a0_35, .inl (a0_35_c, 24, .inl a0_35_f)), (a0_38, .inl (a0_38_c, 176, .inl a0_38_f))] H ∧ va_D A [(a0, .inr (8, [.int 0, .int f56_0_1, .int f56_0_2, .int f56_0_3, .ref a0_4, .int a0_5, .int a0_6, .int a0_7, .int a0_8, .int a0_9, .int a0_10, .long a0_11, .int a0_12, .int a0_13, .int a0_14, .int a0_15, .int a0_16, .int a0_17, .ref a0_18, .ref a0_19, .ref a0_20, .ref a0_21, .ref a0_22, .ref a0_23, .ref a0_24, .ref a0_25, .ref a0_26, .ref a0_27, .ref a0_28, .ref a0_29, .ref a0_30, .ref a0_31, .ref a0_32, .ref a0_33, .ref a0_34, .ref a0_35, .long a0_36, .int a0_37, .ref a0_38, .ref a0_39, .int a0_40, .ref a0_41, .ref a0_42, .ref a0_43])), (a0_20, .inl (a0_20_c, 2, .inl a0_20_f)), (a0_21, .inl (a0_21_c, 2, .inl a0_21_f)), (a0_23, .inl (a0_23_c, 16, .inl a0_23_f)), (a0_26, .inl (a0_26_c, 8, .inl a0_26_f)), (a0_29, .inl (a0_29_c, 48, .inl a0_29_f)), (a0_30, .inl (a0_30_c, 48, .inl a0_30_f)), (a0_31, .inl (a0_31_c, 48, .inl a0_31_f)), (a0_32, .inl (a0_32_c, 24, .inl a0_32_f)), (a0_33, .inl (a0_33_c, 24, .inl a0_33_f)), (a0_34, .inl (a0_34_c, 72, .inl a0_34_f)), (a0_35, .inl (a0_35_c, 24, .inl a0_35_f)), (a0_38, .inl (a0_38_c, 176, .inl a0_38_f))] ∧ va_S A s.heap H locs) ?_ ((2147483647 - (0 : Int32).toInt).toNat) _ _ _ ⟨0, l29_4, f29_0_1, f29_0_2, f29_0_3, rfl, (by omega), lv_sub hl [0, 1, 2, 3, 4, 5, 6] rfl, hP, hD, hS⟩
          intro n56 H locs ls hI ih56
          obtain ⟨l56_6, l56_4, f56_0_1, f56_0_2, f56_0_3, hn56, g_l56_6, hl, hP, hD, hS⟩ := hI
          have b_l56_6 := i32b l56_6
          have b_l56_4 := i32b l56_4
          have b_f56_0_1 := i32b f56_0_1
          have b_f56_0_2 := i32b f56_0_2
          have b_f56_0_3 := i32b f56_0_3
          refine lv_iload hx hb dX9_mustGo_56 (lv_at hl 0 rfl) ?_
          refine lv_aload_n hx hb dX9_mustGo_58 rfl (lv_at hl 3 rfl) ?_
          refine va_get (D := (dC, dI)) (ci := 8) (v := .ref a0_21) (C := RX9) (T := TX9) (N := 44) hx hb hts inlX9 hown hK hP 0 rgL13_890e5ad rfl 21 (by decide) (hts (.fieldLink RX9 23 "ClosedUntilModel" "closures" "[I") qw_501) (fun _ h9 => h9) rfl dX9_mustGo_59 ?_
          refine lv_iconst (v := 0) hx hb dX9_mustGo_62 (by decide) ?_
          refine va_iald hx hb hK hP 2 1 rgL13_d2ab6f9 rgT12_9de3ffa (vin0 (by decide)) dX9_mustGo_63 ?_
          refine lv_topi (fun x9 e_x9 => ?_)
          have q_x9 : x9.toInt = (a0_21_f 0).toInt := congrArg Int32.toInt e_x9
          have b_x9 : 0 ≤ x9.toInt ∧ x9.toInt ≤ 12 := vr_at (lo := 0) (hi := 12) (f := a0_21_f) h_a0_21_f e_x9
          refine lv_icmp_ge (tgt := 109) hx hb dX9_mustGo_64 (by decide) (fun c64_10 => ?_) (fun c64_10 => ?_)
          · have c64_10 : x9.toInt ≤ l56_6.toInt := (cv_le rfl rfl).mp c64_10
            obtain ⟨x11, e_x11⟩ : ∃ y : Int32, y = l29_5 + 1 := ⟨_, rfl⟩
            refine lv_iinc (v := x11) (lv' := [(5, .int x11), (6, .int l56_6), (4, .int l56_4), (0, .ref a0), (1, .int a1), (2, .int a2), (3, .int a3)]) hx hb dX9_mustGo_109 hl (k := 1) rfl (by rw [e_x11]; rfl) (by decide) rfl (fun ls hl => ?_)
            try have e_x11 := ti_add e_x11 rfl (show (1 : Int32).toInt = 1 by decide) (by omega)
            refine lv_goto (tgt := 29) hx hb dX9_mustGo_112 (by decide) ?_
            exact ih29 ((2147483647 - x11.toInt).toNat) _ _ _ (by omega) ⟨x11, l56_4, f56_0_1, f56_0_2, f56_0_3, rfl, (by omega), lv_sub hl [0, 2, 3, 4, 5, 6] rfl, hP, hD, hS⟩
          · have c64_10 : ¬ (x9.toInt ≤ l56_6.toInt) := mt (cv_le rfl rfl).mpr c64_10
            refine lv_iload hx hb dX9_mustGo_67 (lv_at hl 2 rfl) ?_
            refine lv_aload_n hx hb dX9_mustGo_69 rfl (lv_at hl 3 rfl) ?_
            refine lv_iload hx hb dX9_mustGo_70 (lv_at hl 0 rfl) ?_
            refine lv_iload_n hx hb dX9_mustGo_72 rfl (lv_at hl 6 rfl) ?_
            refine lv_iconst (v := 0) hx hb dX9_mustGo_73 (by decide) ?_
            have qc0 : (0 : Int32).toInt = 0 := by decide
            have hPc := (rgP13_f5af449 hP)
            have hKc := (rgK12_e191d58 hK)
            refine vp_callSi ((va_runV (As := [.int l56_6, .int a3, .int 0]) (rest := [.int l56_4]) ⟨hx, hb, hml, hown, hts⟩ (k_X9_holds l dC dI g (a0) (l56_6) (a3) (0) (0) (f56_0_1) (f56_0_2) (f56_0_3) (a0_4) (a0_5) (a0_6) (a0_7) (a0_8) (a0_9) (a0_10) (a0_11) (a0_12) (a0_13) (a0_14) (a0_15) (a0_16) (a0_17) (a0_18) (a0_19) (a0_20) (a0_21) (a0_22) (a0_23) (a0_24) (a0_25) (a0_26) (a0_27) (a0_28) (a0_29) (a0_30) (a0_31) (a0_32) (a0_33) (a0_34) (a0_35) (a0_36) (a0_37) (a0_38) (a0_39) (a0_40) (a0_41) (a0_42) (a0_43) (a0_32_c) (a0_32_f) (by omega) (by omega) (by omega) (by omega) (by omega) (by omega) (by omega) (by omega)) (cwV 3 hts (gwV qw_537 qw_538 qw_539 qw_386 qw_536) rfl rfl rfl (by decide +kernel) ⟨Nat.le_of_ble_eq_true rfl, Nat.le_of_ble_eq_true rfl⟩) ⟨fun a U g9 mk q => ⟨q.1, q.2.1, va_K.moved (u := U) (U := U.calling g9 mk a) (Vm.Alike.refl U.vm) q.2.2.1, Ev.bl q.2.2.2⟩, va_recv hK hP (ci := 8) (q0 := 0) rfl rgL13_890e5ad, fun U hU hW => ⟨rfl, atB hU hPc, va_K.moved hW.alike hKc, hE.go hS (fun _ h => h.elim) hU hW⟩⟩ rfl rfl hl.1 rfl (lv_room (Nat.le_of_ble_eq_true rfl)) dX9_mustGo_74 ⟨Nat.le_of_ble_eq_true rfl, Nat.le_of_ble_eq_true rfl⟩)).run (fun r12 h_r12 => ?_)
            have h_r12 : (r12 = 0 ∨ r12 = 1) := h_r12
            have b_r12 := z01 (show r12 = 0 ∨ r12 = 1 from h_r12)
            refine lv_if_eq (tgt := 99) hx hb dX9_mustGo_77 (by decide) (fun c77_13 => ?_) (fun c77_13 => ?_)
            · have c77_13 : r12.toInt = 0 := (cv_eq rfl (by decide)).mp c77_13
              refine lv_iconst (v := 0) hx hb dX9_mustGo_99 (by decide) ?_
              refine lv_ior hx hb dX9_mustGo_100 ?_
              refine lv_topi (fun x14 e_x14 => ?_)
              refine lv_istore (lv' := [(4, .int x14), (6, .int l56_6), (5, .int l29_5), (0, .ref a0), (1, .int a1), (2, .int a2), (3, .int a3)]) hx hb dX9_mustGo_101 hl (by decide) rfl (fun ls hl => ?_)
              obtain ⟨x15, e_x15⟩ : ∃ y : Int32, y = l56_6 + 1 := ⟨_, rfl⟩
              refine lv_iinc (v := x15) (lv' := [(6, .int x15), (4, .int x14), (5, .int l29_5), (0, .ref a0), (1, .int a1), (2, .int a2), (3, .int a3)]) hx hb dX9_mustGo_103 hl (k := 1) rfl (by rw [e_x15]; rfl) (by decide) rfl (fun ls hl => ?_)
              try have e_x15 := ti_add e_x15 rfl (show (1 : Int32).toInt = 1 by decide) (by omega)
              refine lv_goto (tgt := 56) hx hb dX9_mustGo_106 (by decide) ?_
              exact ih56 ((2147483647 - x15.toInt).toNat) _ _ _ (by omega) ⟨x15, x14, f56_0_1, f56_0_2, f56_0_3, rfl, (by omega), lv_sub hl [0, 2, 1, 3, 4, 5, 6] rfl, hP, hD, hS⟩
            · have c77_13 : ¬ (r12.toInt = 0) := mt (cv_eq rfl (by decide)).mpr c77_13
              refine lv_aload_n hx hb dX9_mustGo_80 rfl (lv_at hl 3 rfl) ?_
              refine lv_iload hx hb dX9_mustGo_81 (lv_at hl 0 rfl) ?_
              refine lv_iload hx hb dX9_mustGo_83 (lv_at hl 1 rfl) ?_
              have qc0 : (0 : Int32).toInt = 0 := by decide
              have hPc := (rgP13_87d50a7 hP)
              have hKc := (rgK12_948a3ee hK)
              have hDc := (rgD13_53497a6 hD)
              have hFc := freeW hDc hS hA
              refine va_calli (va_runV (As := [.int l56_6, .int l29_5]) (rest := [.int l56_4]) ⟨hx, hb, hml, hown, hts⟩ (k_X9_endsOf l dC dI g H.size (a0) (l56_6) (l29_5) (0) (f56_0_1) (f56_0_2) (f56_0_3) (a0_4) (a0_5) (a0_6) (a0_7) (a0_8) (a0_9) (a0_10) (a0_11) (a0_12) (a0_13) (a0_14) (a0_15) (a0_16) (a0_17) (a0_18) (a0_19) (a0_20) (a0_21) (a0_22) (a0_23) (a0_24) (a0_25) (a0_26) (a0_27) (a0_28) (a0_29) (a0_30) (a0_31) (a0_32) (a0_33) (a0_34) (a0_35) (a0_36) (a0_37) (a0_38) (a0_39) (a0_40) (a0_41) (a0_42) (a0_43) (a0_23_c) (a0_23_f) (a0_26_c) (a0_26_f) (a0_29_c) (a0_29_f) (a0_30_c) (a0_30_f) (a0_31_c) (a0_31_f) (a0_32_c) (a0_32_f) (a0_33_c) (a0_33_f) (a0_34_c) (a0_34_f) (a0_35_c) (a0_35_f) (a0_38_c) (a0_38_f) ((a0_20_f 0).toInt) ((a0_21_f 0).toInt) (by omega) (by omega) (by omega) (by omega) (by omega) (by omega) (by omega) (by omega) (by assumption) (by omega) (by assumption) (by omega) (by omega)) (cwV 2 hts (gwV qw_532 qw_533 qw_534 qw_386 qw_531) rfl rfl rfl (by decide +kernel) ⟨Nat.le_of_ble_eq_true rfl, Nat.le_of_ble_eq_true rfl⟩) ⟨fun a U g9 mk q => ⟨q.1, q.2.1, q.2.2.1, va_K.moved (u := U) (U := U.calling g9 mk a) (Vm.Alike.refl U.vm) q.2.2.2.1, q.2.2.2.2.1, Ev.bl q.2.2.2.2.2⟩, va_recv hK hP (ci := 8) (q0 := 0) rfl rgL13_890e5ad, fun U hU hW => ⟨rfl, by rw [hU], atB hU hPc, va_K.moved hW.alike hKc, hDc.weaken (fun _ _ _ _ => trivial), hE.go hS hFc hU hW⟩⟩ rfl rfl hl.1 rfl (lv_room (Nat.le_of_ble_eq_true rfl)) dX9_mustGo_85 ⟨Nat.le_of_ble_eq_true rfl, Nat.le_of_ble_eq_true rfl⟩) hS (fun q _ h => hFc q h) hFc (fun r17 u16 t H1 locs ht hvm h_u16 hB hz1 hk1 hS => ?_)
              obtain ⟨za0_1_18, za0_2_19, za0_3_20, hP1, hK1, hD1⟩ := hB
              have hK1 := va_K.moved hvm.symm hK1
              have hJ9 := rgJ13_1725318 hP hD hk1 hFc (atH ht hP1) hD1
              clear hP hD hPc hKc hDc hFc hP1 hD1 hk1 hz1
              obtain ⟨hP, hD⟩ := hJ9
              clear hK1
              generalize H1 = H at hP hS ⊢
              refine W.widen (k := 0) (n := 0) (Nat.le_of_ble_eq_true rfl) (Nat.le_of_ble_eq_true rfl) ?_
              have h_r17 := congrArg Int32.toInt h_u16
              have b_r17 := i32b r17
              refine lv_iload_n hx hb dX9_mustGo_88 rfl (lv_at hl 5 rfl) ?_
              refine lv_icmp_le (tgt := 99) hx hb dX9_mustGo_89 (by decide) (fun c89_21 => ?_) (fun c89_21 => ?_)
              · have c89_21 : r17.toInt ≤ a2.toInt := (cv_le rfl rfl).mp c89_21
                refine lv_iconst (v := 0) hx hb dX9_mustGo_99 (by decide) ?_
                refine lv_ior hx hb dX9_mustGo_100 ?_
                refine lv_topi (fun x22 e_x22 => ?_)
                refine lv_istore (lv' := [(4, .int x22), (6, .int l56_6), (5, .int l29_5), (0, .ref a0), (1, .int a1), (2, .int a2), (3, .int a3)]) hx hb dX9_mustGo_101 hl (by decide) rfl (fun ls hl => ?_)
                obtain ⟨x23, e_x23⟩ : ∃ y : Int32, y = l56_6 + 1 := ⟨_, rfl⟩
                refine lv_iinc (v := x23) (lv' := [(6, .int x23), (4, .int x22), (5, .int l29_5), (0, .ref a0), (1, .int a1), (2, .int a2), (3, .int a3)]) hx hb dX9_mustGo_103 hl (k := 1) rfl (by rw [e_x23]; rfl) (by decide) rfl (fun ls hl => ?_)
                try have e_x23 := ti_add e_x23 rfl (show (1 : Int32).toInt = 1 by decide) (by omega)
                refine lv_goto (tgt := 56) hx hb dX9_mustGo_106 (by decide) ?_
                exact ih56 ((2147483647 - x23.toInt).toNat) _ _ _ (by omega) ⟨x23, x22, za0_1_18, za0_2_19, za0_3_20, rfl, (by omega), lv_sub hl [0, 2, 1, 3, 4, 5, 6] rfl, hP, hD, hS⟩
              · have c89_21 : ¬ (r17.toInt ≤ a2.toInt) := mt (cv_le rfl rfl).mpr c89_21
                refine lv_iconst (v := 1) hx hb dX9_mustGo_92 (by decide) ?_
                refine lv_iload hx hb dX9_mustGo_93 (lv_at hl 0 rfl) ?_
                refine lv_ishl hx hb dX9_mustGo_95 ?_
                refine lv_topi (fun x24 e_x24 => ?_)
                refine lv_goto (tgt := 100) hx hb dX9_mustGo_96 (by decide) ?_
                refine lv_ior hx hb dX9_mustGo_100 ?_
                refine lv_topi (fun x25 e_x25 => ?_)
                refine lv_istore (lv' := [(4, .int x25), (6, .int l56_6), (5, .int l29_5), (0, .ref a0), (1, .int a1), (2, .int a2), (3, .int a3)]) hx hb dX9_mustGo_101 hl (by decide) rfl (fun ls hl => ?_)
                obtain ⟨x26, e_x26⟩ : ∃ y : Int32, y = l56_6 + 1 := ⟨_, rfl⟩
                refine lv_iinc (v := x26) (lv' := [(6, .int x26), (4, .int x25), (5, .int l29_5), (0, .ref a0), (1, .int a1), (2, .int a2), (3, .int a3)]) hx hb dX9_mustGo_103 hl (k := 1) rfl (by rw [e_x26]; rfl) (by decide) rfl (fun ls hl => ?_)
                try have e_x26 := ti_add e_x26 rfl (show (1 : Int32).toInt = 1 by decide) (by omega)
                refine lv_goto (tgt := 56) hx hb dX9_mustGo_106 (by decide) ?_
                exact ih56 ((2147483647 - x26.toInt).toNat) _ _ _ (by omega) ⟨x26, x25, za0_1_18, za0_2_19, za0_3_20, rfl, (by omega), lv_sub hl [0, 2, 1, 3, 4, 5, 6] rfl, hP, hD, hS⟩
        · have c47_8 : r7.toInt = 0 := (cv_eq rfl (by decide)).mp c47_8
          refine lv_goto (tgt := 109) hx hb dX9_mustGo_50 (by decide) ?_
          obtain ⟨x27, e_x27⟩ : ∃ y : Int32, y = l29_5 + 1 := ⟨_, rfl⟩
          refine lv_iinc (v := x27) (lv' := [(5, .int x27), (4, .int l29_4), (0, .ref a0), (1, .int a1), (2, .int a2), (3, .int a3)]) hx hb dX9_mustGo_109 hl (k := 0) rfl (by rw [e_x27]; rfl) (by decide) rfl (fun ls hl => ?_)
          try have e_x27 := ti_add e_x27 rfl (show (1 : Int32).toInt = 1 by decide) (by omega)
          refine lv_goto (tgt := 29) hx hb dX9_mustGo_112 (by decide) ?_
          exact ih29 ((2147483647 - x27.toInt).toNat) _ _ _ (by omega) ⟨x27, l29_4, f29_0_1, f29_0_2, f29_0_3, rfl, (by omega), lv_sub hl [0, 1, 2, 3, 4, 5] rfl, hP, hD, hS⟩
    · have c18_4 : r3.toInt = 0 := (cv_eq rfl (by decide)).mp c18_4
      refine lv_iconst (v := (-1)) hx hb dX9_mustGo_21 (by decide) ?_
      have qcm1 : ((-1) : Int32).toInt = (-1) := by decide
      have qc0 : (0 : Int32).toInt = 0 := by decide
      refine W.widen (k := 0) (n := 0) (Nat.le_of_ble_eq_true rfl) (Nat.le_of_ble_eq_true rfl) ?_
      have hP9 := hP
      have hD9 := hD
      have hK9 := (rgK12_8728a0f hK)
      exact W.iret (v := (-1)) hx hb hr (fun t ht hW => ⟨⟨(-1), (-1), rfl, rfl, 0, a0_1, a0_2, a0_3, atB ht hP9, va_K.moved hW.alike hK9, hD9⟩, hS.F ht⟩) hS.2.2 dX9_mustGo_22
set_option maxHeartbeats 4000000 in
set_option maxRecDepth 100000 in
theorem k_X9_best (l : Launch) (dC : Nat → ClassId) (dI : Nat → Nat → Nat) (g : Gv) (sz : Nat) (a0 : Nat) (a1 : Int32) (a2 : Int32) (a3 : Int32) (a0_0 : Int32) (a0_1 : Int32) (a0_2 : Int32) (a0_3 : Int32) (a0_4 : Nat) (a0_5 : Int32) (a0_6 : Int32) (a0_7 : Int32) (a0_8 : Int32) (a0_9 : Int32) (a0_10 : Int32) (a0_11 : Int64) (a0_12 : Int32) (a0_13 : Int32) (a0_14 : Int32) (a0_15 : Int32) (a0_16 : Int32) (a0_17 : Int32) (a0_18 : Nat) (a0_19 : Nat) (a0_20 : Nat) (a0_21 : Nat) (a0_22 : Nat) (a0_23 : Nat) (a0_24 : Nat) (a0_25 : Nat) (a0_26 : Nat) (a0_27 : Nat) (a0_28 : Nat) (a0_29 : Nat) (a0_30 : Nat) (a0_31 : Nat) (a0_32 : Nat) (a0_33 : Nat) (a0_34 : Nat) (a0_35 : Nat) (a0_36 : Int64) (a0_37 : Int32) (a0_38 : Nat) (a0_39 : Nat) (a0_40 : Int32) (a0_41 : Nat) (a0_42 : Nat) (a0_43 : Nat) (a0_20_c : ClassId) (a0_20_f : Nat → Int32) (a0_21_c : ClassId) (a0_21_f : Nat → Int32) (a0_23_c : ClassId) (a0_23_f : Nat → Int32) (a0_26_c : ClassId) (a0_26_f : Nat → Int32) (a0_29_c : ClassId) (a0_29_f : Nat → Int32) (a0_30_c : ClassId) (a0_30_f : Nat → Int32) (a0_31_c : ClassId) (a0_31_f : Nat → Int32) (a0_32_c : ClassId) (a0_32_f : Nat → Int32) (a0_33_c : ClassId) (a0_33_f : Nat → Int32) (a0_34_c : ClassId) (a0_34_f : Nat → Int32) (a0_35_c : ClassId) (a0_35_f : Nat → Int32) (a0_38_c : ClassId) (a0_38_f : Nat → Int32) (a0_43_c : ClassId) (a0_43_f : Nat → Int32) (h_a0_5 : 0 ≤ a0_5.toInt ∧ a0_5.toInt ≤ 1000) (h_a0_6 : 0 ≤ a0_6.toInt ∧ a0_6.toInt ≤ 1000) (h_a0_7 : 0 ≤ a0_7.toInt ∧ a0_7.toInt ≤ 1000) (h_a0_8 : 0 ≤ a0_8.toInt ∧ a0_8.toInt ≤ 1000) (h_a0_17 : 0 ≤ a0_17.toInt ∧ a0_17.toInt ≤ 1) (h_a0_37 : (-1) ≤ a0_37.toInt ∧ a0_37.toInt ≤ 23) (h_a0_40 : 0 ≤ a0_40.toInt ∧ a0_40.toInt ≤ 12) (h_a0_20_f : vr 0 24 a0_20_f) (h_a0_21_f : vr 0 12 a0_21_f) (hms : RowOk (a0_20_f 0).toInt a0_38_f 0) (hmw : WOk a0_32_f a0_33_f 0 (a0_21_f 0).toInt) : Met l yX9_best (.code yX9_best cX9_best 9 (some .int) :: TBL) ({ frames := 8, cells := 0, slots := 0, locals := 186 }) (va_Pc [.ref a0, .int a1, .int a2, .int a3] (fun U => U.heap.size = sz ∧ va_P (dC, dI) vwCl [(a0, .inr (8, [.int a0_0, .int a0_1, .int a0_2, .int a0_3, .ref a0_4, .int a0_5, .int a0_6, .int a0_7, .int a0_8, .int a0_9, .int a0_10, .long a0_11, .int a0_12, .int a0_13, .int a0_14, .int a0_15, .int a0_16, .int a0_17, .ref a0_18, .ref a0_19, .ref a0_20, .ref a0_21, .ref a0_22, .ref a0_23, .ref a0_24, .ref a0_25, .ref a0_26, .ref a0_27, .ref a0_28, .ref a0_29, .ref a0_30, .ref a0_31, .ref a0_32, .ref a0_33, .ref a0_34, .ref a0_35, .long a0_36, .int a0_37, .ref a0_38, .ref a0_39, .int a0_40, .ref a0_41, .ref a0_42, .ref a0_43])), (a0_20, .inl (a0_20_c, 2, .inl a0_20_f)), (a0_21, .inl (a0_21_c, 2, .inl a0_21_f)), (a0_23, .inl (a0_23_c, 16, .inl a0_23_f)), (a0_26, .inl (a0_26_c, 8, .inl a0_26_f)), (a0_29, .inl (a0_29_c, 48, .inl a0_29_f)), (a0_30, .inl (a0_30_c, 48, .inl a0_30_f)), (a0_31, .inl (a0_31_c, 48, .inl a0_31_f)), (a0_32, .inl (a0_32_c, 24, .inl a0_32_f)), (a0_33, .inl (a0_33_c, 24, .inl a0_33_f)), (a0_34, .inl (a0_34_c, 72, .inl a0_34_f)), (a0_35, .inl (a0_35_c, 24, .inl a0_35_f)), (a0_38, .inl (a0_38_c, 176, .inl a0_38_f)), (a0_43, .inl (a0_43_c, 288, .inl a0_43_f))] U.heap ∧ va_K (dC, dI) vwCl [(a0_20_c, .int), (a0_21_c, .int), (a0_23_c, .int), (a0_26_c, .int), (a0_29_c, .int), (a0_30_c, .int), (a0_31_c, .int), (a0_32_c, .int), (a0_33_c, .int), (a0_34_c, .int), (a0_35_c, .boolean), (a0_38_c, .int), (a0_43_c, .int)] U ∧ va_D (fun _ => True) [(a0, .inr (8, [.int a0_0, .int a0_1, .int a0_2, .int a0_3, .ref a0_4, .int a0_5, .int a0_6, .int a0_7, .int a0_8, .int a0_9, .int a0_10, .long a0_11, .int a0_12, .int a0_13, .int a0_14, .int a0_15, .int a0_16, .int a0_17, .ref a0_18, .ref a0_19, .ref a0_20, .ref a0_21, .ref a0_22, .ref a0_23, .ref a0_24, .ref a0_25, .ref a0_26, .ref a0_27, .ref a0_28, .ref a0_29, .ref a0_30, .ref a0_31, .ref a0_32, .ref a0_33, .ref a0_34, .ref a0_35, .long a0_36, .int a0_37, .ref a0_38, .ref a0_39, .int a0_40, .ref a0_41, .ref a0_42, .ref a0_43])), (a0_20, .inl (a0_20_c, 2, .inl a0_20_f)), (a0_21, .inl (a0_21_c, 2, .inl a0_21_f)), (a0_23, .inl (a0_23_c, 16, .inl a0_23_f)), (a0_26, .inl (a0_26_c, 8, .inl a0_26_f)), (a0_29, .inl (a0_29_c, 48, .inl a0_29_f)), (a0_30, .inl (a0_30_c, 48, .inl a0_30_f)), (a0_31, .inl (a0_31_c, 48, .inl a0_31_f)), (a0_32, .inl (a0_32_c, 24, .inl a0_32_f)), (a0_33, .inl (a0_33_c, 24, .inl a0_33_f)), (a0_34, .inl (a0_34_c, 72, .inl a0_34_f)), (a0_35, .inl (a0_35_c, 24, .inl a0_35_f)), (a0_38, .inl (a0_38_c, 176, .inl a0_38_f)), (a0_43, .inl (a0_43_c, 288, .inl a0_43_f))] ∧ Ev g (va_A [(a0, .inr (8, [.int a0_0, .int a0_1, .int a0_2, .int a0_3, .ref a0_4, .int a0_5, .int a0_6, .int a0_7, .int a0_8, .int a0_9, .int a0_10, .long a0_11, .int a0_12, .int a0_13, .int a0_14, .int a0_15, .int a0_16, .int a0_17, .ref a0_18, .ref a0_19, .ref a0_20, .ref a0_21, .ref a0_22, .ref a0_23, .ref a0_24, .ref a0_25, .ref a0_26, .ref a0_27, .ref a0_28, .ref a0_29, .ref a0_30, .ref a0_31, .ref a0_32, .ref a0_33, .ref a0_34, .ref a0_35, .long a0_36, .int a0_37, .ref a0_38, .ref a0_39, .int a0_40, .ref a0_41, .ref a0_42, .ref a0_43])), (a0_20, .inl (a0_20_c, 2, .inl a0_20_f)), (a0_21, .inl (a0_21_c, 2, .inl a0_21_f)), (a0_23, .inl (a0_23_c, 16, .inl a0_23_f)), (a0_26, .inl (a0_26_c, 8, .inl a0_26_f)), (a0_29, .inl (a0_29_c, 48, .inl a0_29_f)), (a0_30, .inl (a0_30_c, 48, .inl a0_30_f)), (a0_31, .inl (a0_31_c, 48, .inl a0_31_f)), (a0_32, .inl (a0_32_c, 24, .inl a0_32_f)), (a0_33, .inl (a0_33_c, 24, .inl a0_33_f)), (a0_34, .inl (a0_34_c, 72, .inl a0_34_f)), (a0_35, .inl (a0_35_c, 24, .inl a0_35_f)), (a0_38, .inl (a0_38_c, 176, .inl a0_38_f)), (a0_43, .inl (a0_43_c, 288, .inl a0_43_f))] sz) U)) (va_Qi (fun (r : Int32) (u : Int32) => u = r) (fun (u : Int32) (t : State) => ∃ (za0_0 : Int32) (za0_1 : Int32) (za0_2 : Int32) (za0_3 : Int32) (za0_43_f : Nat → Int32), va_P (dC, dI) vwCl [(a0, .inr (8, [.int za0_0, .int za0_1, .int za0_2, .int za0_3, .ref a0_4, .int a0_5, .int a0_6, .int a0_7, .int a0_8, .int a0_9, .int a0_10, .long a0_11, .int a0_12, .int a0_13, .int a0_14, .int a0_15, .int a0_16, .int a0_17, .ref a0_18, .ref a0_19, .ref a0_20, .ref a0_21, .ref a0_22, .ref a0_23, .ref a0_24, .ref a0_25, .ref a0_26, .ref a0_27, .ref a0_28, .ref a0_29, .ref a0_30, .ref a0_31, .ref a0_32, .ref a0_33, .ref a0_34, .ref a0_35, .long a0_36, .int a0_37, .ref a0_38, .ref a0_39, .int a0_40, .ref a0_41, .ref a0_42, .ref a0_43])), (a0_20, .inl (a0_20_c, 2, .inl a0_20_f)), (a0_21, .inl (a0_21_c, 2, .inl a0_21_f)), (a0_23, .inl (a0_23_c, 16, .inl a0_23_f)), (a0_26, .inl (a0_26_c, 8, .inl a0_26_f)), (a0_29, .inl (a0_29_c, 48, .inl a0_29_f)), (a0_30, .inl (a0_30_c, 48, .inl a0_30_f)), (a0_31, .inl (a0_31_c, 48, .inl a0_31_f)), (a0_32, .inl (a0_32_c, 24, .inl a0_32_f)), (a0_33, .inl (a0_33_c, 24, .inl a0_33_f)), (a0_34, .inl (a0_34_c, 72, .inl a0_34_f)), (a0_35, .inl (a0_35_c, 24, .inl a0_35_f)), (a0_38, .inl (a0_38_c, 176, .inl a0_38_f)), (a0_43, .inl (a0_43_c, 288, .inl za0_43_f))] t.heap ∧ va_K (dC, dI) vwCl [] t ∧ va_D (va_A [(a0, .inr (8, [.int a0_0, .int a0_1, .int a0_2, .int a0_3, .ref a0_4, .int a0_5, .int a0_6, .int a0_7, .int a0_8, .int a0_9, .int a0_10, .long a0_11, .int a0_12, .int a0_13, .int a0_14, .int a0_15, .int a0_16, .int a0_17, .ref a0_18, .ref a0_19, .ref a0_20, .ref a0_21, .ref a0_22, .ref a0_23, .ref a0_24, .ref a0_25, .ref a0_26, .ref a0_27, .ref a0_28, .ref a0_29, .ref a0_30, .ref a0_31, .ref a0_32, .ref a0_33, .ref a0_34, .ref a0_35, .long a0_36, .int a0_37, .ref a0_38, .ref a0_39, .int a0_40, .ref a0_41, .ref a0_42, .ref a0_43])), (a0_20, .inl (a0_20_c, 2, .inl a0_20_f)), (a0_21, .inl (a0_21_c, 2, .inl a0_21_f)), (a0_23, .inl (a0_23_c, 16, .inl a0_23_f)), (a0_26, .inl (a0_26_c, 8, .inl a0_26_f)), (a0_29, .inl (a0_29_c, 48, .inl a0_29_f)), (a0_30, .inl (a0_30_c, 48, .inl a0_30_f)), (a0_31, .inl (a0_31_c, 48, .inl a0_31_f)), (a0_32, .inl (a0_32_c, 24, .inl a0_32_f)), (a0_33, .inl (a0_33_c, 24, .inl a0_33_f)), (a0_34, .inl (a0_34_c, 72, .inl a0_34_f)), (a0_35, .inl (a0_35_c, 24, .inl a0_35_f)), (a0_38, .inl (a0_38_c, 176, .inl a0_38_f)), (a0_43, .inl (a0_43_c, 288, .inl a0_43_f))] sz) [(a0, .inr (8, [.int za0_0, .int za0_1, .int za0_2, .int za0_3, .ref a0_4, .int a0_5, .int a0_6, .int a0_7, .int a0_8, .int a0_9, .int a0_10, .long a0_11, .int a0_12, .int a0_13, .int a0_14, .int a0_15, .int a0_16, .int a0_17, .ref a0_18, .ref a0_19, .ref a0_20, .ref a0_21, .ref a0_22, .ref a0_23, .ref a0_24, .ref a0_25, .ref a0_26, .ref a0_27, .ref a0_28, .ref a0_29, .ref a0_30, .ref a0_31, .ref a0_32, .ref a0_33, .ref a0_34, .ref a0_35, .long a0_36, .int a0_37, .ref a0_38, .ref a0_39, .int a0_40, .ref a0_41, .ref a0_42, .ref a0_43])), (a0_20, .inl (a0_20_c, 2, .inl a0_20_f)), (a0_21, .inl (a0_21_c, 2, .inl a0_21_f)), (a0_23, .inl (a0_23_c, 16, .inl a0_23_f)), (a0_26, .inl (a0_26_c, 8, .inl a0_26_f)), (a0_29, .inl (a0_29_c, 48, .inl a0_29_f)), (a0_30, .inl (a0_30_c, 48, .inl a0_30_f)), (a0_31, .inl (a0_31_c, 48, .inl a0_31_f)), (a0_32, .inl (a0_32_c, 24, .inl a0_32_f)), (a0_33, .inl (a0_33_c, 24, .inl a0_33_f)), (a0_34, .inl (a0_34_c, 72, .inl a0_34_f)), (a0_35, .inl (a0_35_c, 24, .inl a0_35_f)), (a0_38, .inl (a0_38_c, 176, .inl a0_38_f)), (a0_43, .inl (a0_43_c, 288, .inl za0_43_f))]) (va_A [(a0, .inr (8, [.int a0_0, .int a0_1, .int a0_2, .int a0_3, .ref a0_4, .int a0_5, .int a0_6, .int a0_7, .int a0_8, .int a0_9, .int a0_10, .long a0_11, .int a0_12, .int a0_13, .int a0_14, .int a0_15, .int a0_16, .int a0_17, .ref a0_18, .ref a0_19, .ref a0_20, .ref a0_21, .ref a0_22, .ref a0_23, .ref a0_24, .ref a0_25, .ref a0_26, .ref a0_27, .ref a0_28, .ref a0_29, .ref a0_30, .ref a0_31, .ref a0_32, .ref a0_33, .ref a0_34, .ref a0_35, .long a0_36, .int a0_37, .ref a0_38, .ref a0_39, .int a0_40, .ref a0_41, .ref a0_42, .ref a0_43])), (a0_20, .inl (a0_20_c, 2, .inl a0_20_f)), (a0_21, .inl (a0_21_c, 2, .inl a0_21_f)), (a0_23, .inl (a0_23_c, 16, .inl a0_23_f)), (a0_26, .inl (a0_26_c, 8, .inl a0_26_f)), (a0_29, .inl (a0_29_c, 48, .inl a0_29_f)), (a0_30, .inl (a0_30_c, 48, .inl a0_30_f)), (a0_31, .inl (a0_31_c, 48, .inl a0_31_f)), (a0_32, .inl (a0_32_c, 24, .inl a0_32_f)), (a0_33, .inl (a0_33_c, 24, .inl a0_33_f)), (a0_34, .inl (a0_34_c, 72, .inl a0_34_f)), (a0_35, .inl (a0_35_c, 24, .inl a0_35_f)), (a0_38, .inl (a0_38_c, 176, .inl a0_38_f)), (a0_43, .inl (a0_43_c, 288, .inl a0_43_f))] sz)) 0 0 (va_A [(a0, .inr (8, [.int a0_0, .int a0_1, .int a0_2, .int a0_3, .ref a0_4, .int a0_5, .int a0_6, .int a0_7, .int a0_8, .int a0_9, .int a0_10, .long a0_11, .int a0_12, .int a0_13, .int a0_14, .int a0_15, .int a0_16, .int a0_17, .ref a0_18, .ref a0_19, .ref a0_20, .ref a0_21, .ref a0_22, .ref a0_23, .ref a0_24, .ref a0_25, .ref a0_26, .ref a0_27, .ref a0_28, .ref a0_29, .ref a0_30, .ref a0_31, .ref a0_32, .ref a0_33, .ref a0_34, .ref a0_35, .long a0_36, .int a0_37, .ref a0_38, .ref a0_39, .int a0_40, .ref a0_41, .ref a0_42, .ref a0_43])), (a0_20, .inl (a0_20_c, 2, .inl a0_20_f)), (a0_21, .inl (a0_21_c, 2, .inl a0_21_f)), (a0_23, .inl (a0_23_c, 16, .inl a0_23_f)), (a0_26, .inl (a0_26_c, 8, .inl a0_26_f)), (a0_29, .inl (a0_29_c, 48, .inl a0_29_f)), (a0_30, .inl (a0_30_c, 48, .inl a0_30_f)), (a0_31, .inl (a0_31_c, 48, .inl a0_31_f)), (a0_32, .inl (a0_32_c, 24, .inl a0_32_f)), (a0_33, .inl (a0_33_c, 24, .inl a0_33_f)), (a0_34, .inl (a0_34_c, 72, .inl a0_34_f)), (a0_35, .inl (a0_35_c, 24, .inl a0_35_f)), (a0_38, .inl (a0_38_c, 176, .inl a0_38_f)), (a0_43, .inl (a0_43_c, 288, .inl a0_43_f))] sz) := by
  refine Met.ofW (cc := cX9_best) (maxL := 9) (ret := (some .int)) (by decide) rfl ?_
  intro p e s m args below meth c s₁ B hml hv
  obtain ⟨rfl, hsz, hP, hK, hD0, hE⟩ := hv
  have hx := B.exec
  have hb := B.bytes
  have hr := B.returns
  have hts0 := atoms_spec (ws := (.code yX9_best cX9_best 9 (some .int) :: TBL)) B.pre
  have hts := fun (w : Cond) (h : w ∈ TBL) => hts0 w (List.mem_cons_of_mem _ h)
  have hown : s.vm.findClass RX9 = some m.cls := findClass_of_methodNamed B.named
  have hlocks := B.notSynchronized
  have hN := hE.1
  subst hsz
  have hD := hD0.self (sz := s.heap.size)
  generalize hAe : va_A [(a0, .inr (8, [.int a0_0, .int a0_1, .int a0_2, .int a0_3, .ref a0_4, .int a0_5, .int a0_6, .int a0_7, .int a0_8, .int a0_9, .int a0_10, .long a0_11, .int a0_12, .int a0_13, .int a0_14, .int a0_15, .int a0_16, .int a0_17, .ref a0_18, .ref a0_19, .ref a0_20, .ref a0_21, .ref a0_22, .ref a0_23, .ref a0_24, .ref a0_25, .ref a0_26, .ref a0_27, .ref a0_28, .ref a0_29, .ref a0_30, .ref a0_31, .ref a0_32, .ref a0_33, .ref a0_34, .ref a0_35, .long a0_36, .int a0_37, .ref a0_38, .ref a0_39, .int a0_40, .ref a0_41, .ref a0_42, .ref a0_43])), (a0_20, .inl (a0_20_c, 2, .inl a0_20_f)), (a0_21, .inl (a0_21_c, 2, .inl a0_21_f)), (a0_23, .inl (a0_23_c, 16, .inl a0_23_f)), (a0_26, .inl (a0_26_c, 8, .inl a0_26_f)), (a0_29, .inl (a0_29_c, 48, .inl a0_29_f)), (a0_30, .inl (a0_30_c, 48, .inl a0_30_f)), (a0_31, .inl (a0_31_c, 48, .inl a0_31_f)), (a0_32, .inl (a0_32_c, 24, .inl a0_32_f)), (a0_33, .inl (a0_33_c, 24, .inl a0_33_f)), (a0_34, .inl (a0_34_c, 72, .inl a0_34_f)), (a0_35, .inl (a0_35_c, 24, .inl a0_35_f)), (a0_38, .inl (a0_38_c, 176, .inl a0_38_f)), (a0_43, .inl (a0_43_c, 288, .inl a0_43_f))] s.heap.size = A at hD hE ⊢
  have hA : ∀ q : Nat, s.heap.size ≤ q → A q := fun q h => by rw [← hAe]; exact Or.inr h
  have hS : va_S A s.heap s.heap [] := va_S.rf
  replace hP : va_P (dC, dI) vwCl [(a0, .inr (8, [.int a0_0, .int a0_1, .int a0_2, .int a0_3, .ref a0_4, .int a0_5, .int a0_6, .int a0_7, .int a0_8, .int a0_9, .int a0_10, .long a0_11, .int a0_12, .int a0_13, .int a0_14, .int a0_15, .int a0_16, .int a0_17, .ref a0_18, .ref a0_19, .ref a0_20, .ref a0_21, .ref a0_22, .ref a0_23, .ref a0_24, .ref a0_25, .ref a0_26, .ref a0_27, .ref a0_28, .ref a0_29, .ref a0_30, .ref a0_31, .ref a0_32, .ref a0_33, .ref a0_34, .ref a0_35, .long a0_36, .int a0_37, .ref a0_38, .ref a0_39, .int a0_40, .ref a0_41, .ref a0_42, .ref a0_43])), (a0_20, .inl (a0_20_c, 2, .inl a0_20_f)), (a0_21, .inl (a0_21_c, 2, .inl a0_21_f)), (a0_23, .inl (a0_23_c, 16, .inl a0_23_f)), (a0_26, .inl (a0_26_c, 8, .inl a0_26_f)), (a0_29, .inl (a0_29_c, 48, .inl a0_29_f)), (a0_30, .inl (a0_30_c, 48, .inl a0_30_f)), (a0_31, .inl (a0_31_c, 48, .inl a0_31_f)), (a0_32, .inl (a0_32_c, 24, .inl a0_32_f)), (a0_33, .inl (a0_33_c, 24, .inl a0_33_f)), (a0_34, .inl (a0_34_c, 72, .inl a0_34_f)), (a0_35, .inl (a0_35_c, 24, .inl a0_35_f)), (a0_38, .inl (a0_38_c, 176, .inl a0_38_f)), (a0_43, .inl (a0_43_c, 288, .inl a0_43_f))] s.heap := hP
  have hl := lv_entry ([.ref a0, .int a1, .int a2, .int a3]) (n := 9) (Nat.le_of_ble_eq_true rfl)
  rw [lg_entry_eq]
  generalize (lg_sl ([.ref a0, .int a1, .int a2, .int a3]) ++ List.replicate (9 - (lg_sl ([.ref a0, .int a1, .int a2, .int a3])).length) Slot.unset).toArray = ls at hl ⊢
  have hl : lv_has ls 9 [(0, .ref a0), (1, .int a1), (2, .int a2), (3, .int a3)] := hl
  have b_a1 := i32b a1
  have b_a2 := i32b a2
  have b_a3 := i32b a3
  have b_a0_0 := i32b a0_0
  have b_a0_1 := i32b a0_1
  have b_a0_2 := i32b a0_2
  have b_a0_3 := i32b a0_3
  have b_a0_9 := i32b a0_9
  have b_a0_10 := i32b a0_10
  have b_a0_12 := i32b a0_12
  have b_a0_13 := i32b a0_13
  have b_a0_14 := i32b a0_14
  have b_a0_15 := i32b a0_15
  have b_a0_16 := i32b a0_16
  have hp20 := vr_at h_a0_20_f (k := 0) rfl
  have hp21 := vr_at h_a0_21_f (k := 0) rfl
  refine lv_aload_n hx hb dX9_best_0 rfl (lv_at hl 0 rfl) ?_
  refine lv_iconst (v := 0) hx hb dX9_best_1 (by decide) ?_
  refine va_put (D := (dC, dI)) (ci := 8) (v := .int 0) (ty := .int) (C := RX9) (T := TX9) (N := 44) hx hb hts inlX9 tyX9 tyX9_ok nmX9 hown hK hP hD hS 0 rgL14_6e084ec rfl 0 (by decide) (hts (.fieldLink RX9 85 "ClosedUntilModel" "thrown" "I") qw_408) (fun _ h9 => h9) rfl (by decide +kernel) rfl rfl (Nat.le_of_ble_eq_true rfl) dX9_best_2 (fun H locs hP9 hD9 hS9 => ?_)
  clear hP hD hS
  obtain ⟨hP, hD⟩ := rgS14_947ddd8 (e := (a0, .inr (8, [.int 0, .int a0_1, .int a0_2, .int a0_3, .ref a0_4, .int a0_5, .int a0_6, .int a0_7, .int a0_8, .int a0_9, .int a0_10, .long a0_11, .int a0_12, .int a0_13, .int a0_14, .int a0_15, .int a0_16, .int a0_17, .ref a0_18, .ref a0_19, .ref a0_20, .ref a0_21, .ref a0_22, .ref a0_23, .ref a0_24, .ref a0_25, .ref a0_26, .ref a0_27, .ref a0_28, .ref a0_29, .ref a0_30, .ref a0_31, .ref a0_32, .ref a0_33, .ref a0_34, .ref a0_35, .long a0_36, .int a0_37, .ref a0_38, .ref a0_39, .int a0_40, .ref a0_41, .ref a0_42, .ref a0_43]))) hP9 hD9 rfl
  have hS := hS9; clear hP9 hD9 hS9
  refine lv_aload_n hx hb dX9_best_5 rfl (lv_at hl 0 rfl) ?_
  have qc0 : (0 : Int32).toInt = 0 := by decide
  have hPc := hP
  have hKc := hK
  have hDc := hD
  have hFc := freeW hDc hS hA
  refine va_callv (va_runV (As := []) (rest := []) ⟨hx, hb, hml, hown, hts⟩ (k_X9_laysEnds l dC dI g H.size (a0) (0) (a0_1) (a0_2) (a0_3) (a0_4) (a0_5) (a0_6) (a0_7) (a0_8) (a0_9) (a0_10) (a0_11) (a0_12) (a0_13) (a0_14) (a0_15) (a0_16) (a0_17) (a0_18) (a0_19) (a0_20) (a0_21) (a0_22) (a0_23) (a0_24) (a0_25) (a0_26) (a0_27) (a0_28) (a0_29) (a0_30) (a0_31) (a0_32) (a0_33) (a0_34) (a0_35) (a0_36) (a0_37) (a0_38) (a0_39) (a0_40) (a0_41) (a0_42) (a0_43) (a0_20_c) (a0_20_f) (a0_21_c) (a0_21_f) (a0_23_c) (a0_23_f) (a0_26_c) (a0_26_f) (a0_29_c) (a0_29_f) (a0_30_c) (a0_30_f) (a0_31_c) (a0_31_f) (a0_32_c) (a0_32_f) (a0_33_c) (a0_33_f) (a0_34_c) (a0_34_f) (a0_35_c) (a0_35_f) (a0_38_c) (a0_38_f) (a0_43_c) (a0_43_f) (by omega) (by omega) (by omega) (by omega) (by omega) (by omega) (by omega) h_a0_20_f h_a0_21_f (by assumption) (by assumption)) (cwV 0 hts (gwV qw_630 qw_631 qw_632 qw_386 qw_629) rfl rfl rfl (by decide +kernel) ⟨Nat.le_of_ble_eq_true rfl, Nat.le_of_ble_eq_true rfl⟩) ⟨fun a U g9 mk q => ⟨q.1, q.2.1, q.2.2.1, va_K.moved (u := U) (U := U.calling g9 mk a) (Vm.Alike.refl U.vm) q.2.2.2.1, q.2.2.2.2.1, Ev.bl q.2.2.2.2.2⟩, va_recv hK hP (ci := 8) (q0 := 0) rfl rgL14_6e084ec, fun U hU hW => ⟨rfl, by rw [hU], atB hU hPc, va_K.moved hW.alike hKc, hDc.weaken (fun _ _ _ _ => trivial), hE.go hS hFc hU hW⟩⟩ rfl rfl hl.1 rfl (lv_room (Nat.le_of_ble_eq_true rfl)) dX9_best_6 ⟨Nat.le_of_ble_eq_true rfl, Nat.le_of_ble_eq_true rfl⟩) hS (fun q _ h => hFc q h) hFc (fun u1 t H1 locs ht hvm h_u1 hB hz1 hk1 hS => ?_)
  obtain ⟨za0_1_3, za0_2_4, za0_3_5, za0_43_f_6, hP1, hK1, hD1⟩ := hB
  have hK1 := va_K.moved hvm.symm hK1
  have hJ9 := rgJ14_93bd4e1 hP hD hk1 hFc (atH ht hP1) hD1
  clear hP hD hPc hKc hDc hFc hP1 hD1 hk1 hz1
  obtain ⟨hP, hD⟩ := hJ9
  clear hK1
  generalize H1 = H at hP hS ⊢
  refine W.widen (k := 0) (n := 0) (Nat.le_of_ble_eq_true rfl) (Nat.le_of_ble_eq_true rfl) ?_
  refine lv_iload_n hx hb dX9_best_9 rfl (lv_at hl 1 rfl) ?_
  refine lv_iload_n hx hb dX9_best_10 rfl (lv_at hl 2 rfl) ?_
  have hPc := (rgP14_13c4e7a hP)
  have hKc := (rgK13_332f5b0 hK)
  refine vp_callSi ((va_runS (As := [.int a1, .int a2]) (rest := []) ⟨hx, hb, hml, hown, hts⟩ (k_X9_isAsked l dC dI g (a1) (a2) ) (va_cwS 2 hts (gwS qw_634 qw_635 qw_386 qw_633) rfl rfl rfl (by decide +kernel) ⟨Nat.le_of_ble_eq_true rfl, Nat.le_of_ble_eq_true rfl⟩) ⟨fun a U g9 mk q => ⟨q.1, q.2.1, va_K.moved (u := U) (U := U.calling g9 mk a) (Vm.Alike.refl U.vm) q.2.2.1, Ev.bl q.2.2.2⟩, fun U hU hW => ⟨rfl, atB hU hPc, va_K.moved hW.alike hKc, hE.go hS (fun _ h => h.elim) hU hW⟩⟩ rfl rfl hl.1 rfl (lv_room (Nat.le_of_ble_eq_true rfl)) dX9_best_11 ⟨Nat.le_of_ble_eq_true rfl, Nat.le_of_ble_eq_true rfl⟩)).run (fun r7 h_r7 => ?_)
  have h_r7 : (r7 = 0 ∨ r7 = 1) := h_r7
  have b_r7 := z01 (show r7 = 0 ∨ r7 = 1 from h_r7)
  refine lv_if_eq (tgt := 29) hx hb dX9_best_14 (by decide) (fun c14_8 => ?_) (fun c14_8 => ?_)
  · have c14_8 : r7.toInt = 0 := (cv_eq rfl (by decide)).mp c14_8
    refine lv_iconst (v := (-1)) hx hb dX9_best_29 (by decide) ?_
    have qcm1 : ((-1) : Int32).toInt = (-1) := by decide
    have qc0 : (0 : Int32).toInt = 0 := by decide
    refine W.widen (k := 0) (n := 0) (Nat.le_of_ble_eq_true rfl) (Nat.le_of_ble_eq_true rfl) ?_
    have hP9 := hP
    have hD9 := hD
    have hK9 := (rgK13_332f5b0 hK)
    exact W.iret (v := (-1)) hx hb hr (fun t ht hW => ⟨⟨(-1), (-1), rfl, rfl, 0, za0_1_3, za0_2_4, za0_3_5, za0_43_f_6, atB ht hP9, va_K.moved hW.alike hK9, hD9⟩, hS.F ht⟩) hS.2.2 dX9_best_30
  · have c14_8 : ¬ (r7.toInt = 0) := mt (cv_eq rfl (by decide)).mpr c14_8
    refine lv_iload_n hx hb dX9_best_17 rfl (lv_at hl 3 rfl) ?_
    refine lv_i2l hx hb dX9_best_18 rfl ?_
    refine lv_lconst (v := 0) hx hb dX9_best_19 (by decide) ?_
    refine lv_ldc2 (v := 3) hx hb hown (hts (.constantLong RX9 131 (3)) qw_448) dX9_best_20 ?_
    have hPc := (rgP14_13c4e7a hP)
    have hKc := (rgK13_332f5b0 hK)
    refine vp_callSi ((va_runS (As := [.long (a3.toInt64), .long 0, .long 3]) (rest := []) ⟨hx, hb, hml, hown, hts⟩ (k_X9_within l dC dI g ((a3.toInt64)) (0) (3) (a3.toInt) (0) (3) (w_li rfl) (by decide) (by decide)) (va_cwS 3 hts (gwS qw_444 qw_445 qw_386 qw_443) rfl rfl rfl (by decide +kernel) ⟨Nat.le_of_ble_eq_true rfl, Nat.le_of_ble_eq_true rfl⟩) ⟨fun a U g9 mk q => ⟨q.1, q.2.1, va_K.moved (u := U) (U := U.calling g9 mk a) (Vm.Alike.refl U.vm) q.2.2.1, Ev.bl q.2.2.2⟩, fun U hU hW => ⟨rfl, atB hU hPc, va_K.moved hW.alike hKc, hE.go hS (fun _ h => h.elim) hU hW⟩⟩ rfl rfl hl.1 rfl (lv_room (Nat.le_of_ble_eq_true rfl)) dX9_best_23 ⟨Nat.le_of_ble_eq_true rfl, Nat.le_of_ble_eq_true rfl⟩)).run (fun r9 h_r9 => ?_)
    have h_r9 : (r9 = 0 ∨ r9 = 1) ∧ ((r9.toInt = 1 ∧ 0 ≤ a3.toInt ∧ a3.toInt ≤ 3) ∨ (r9.toInt = 0 ∧ ¬ (0 ≤ a3.toInt ∧ a3.toInt ≤ 3))) := h_r9
    have b_r9 := z01 h_r9.1
    refine lv_if_ne (tgt := 31) hx hb dX9_best_26 (by decide) (fun c26_10 => ?_) (fun c26_10 => ?_)
    · have c26_10 : ¬ (r9.toInt = 0) := mt (cv_eq rfl (by decide)).mpr c26_10
      refine lv_iconst (v := (-1)) hx hb dX9_best_31 (by decide) ?_
      refine lv_istore (lv' := [(4, .int (-1)), (0, .ref a0), (1, .int a1), (2, .int a2), (3, .int a3)]) hx hb dX9_best_32 hl (by decide) rfl (fun ls hl => ?_)
      refine lv_iconst (v := 0) hx hb dX9_best_34 (by decide) ?_
      refine lv_istore (lv' := [(5, .int 0), (4, .int (-1)), (0, .ref a0), (1, .int a1), (2, .int a2), (3, .int a3)]) hx hb dX9_best_35 hl (by decide) rfl (fun ls hl => ?_)
      refine lv_iconst (v := 0) hx hb dX9_best_37 (by decide) ?_
      refine lv_istore (lv' := [(6, .int 0), (5, .int 0), (4, .int (-1)), (0, .ref a0), (1, .int a1), (2, .int a2), (3, .int a3)]) hx hb dX9_best_38 hl (by decide) rfl (fun ls hl => ?_)
      have qcm1 : ((-1) : Int32).toInt = (-1) := by decide
      have qc0 : (0 : Int32).toInt = 0 := by decide
      refine wloop (fun n H locs ls => ∃ (l40_6 : Int32) (l40_5 : Int32) (l40_4 : Int32), n = (2147483647 - l40_6.toInt).toNat ∧ (0 ≤ l40_6.toInt) ∧ lv_has ls 9 [(6, .int l40_6), (5, .int l40_5), (4, .int l40_4), (0, .ref a0), (1, .int a1), (2, .int a2), (3, .int a3)] ∧ va_P (dC, dI) vwCl [(a0, .inr (8, [.int 0, .int za0_1_3, .int za0_2_4, .int za0_3_5, .ref a0_4, .int a0_5, .int a0_6, .int a0_7, .int a0_8, .int a0_9, .int a0_10, .long a0_11, .int a0_12, .int a0_13, .int a0_14, .int a0_15, .int a0_16, .int a0_17, .ref a0_18, .ref a0_19, .ref a0_20, .ref a0_21, .ref a0_22, .ref a0_23, .ref a0_24, .ref a0_25, .ref a0_26, .ref a0_27, .ref a0_28, .ref a0_29, .ref a0_30, .ref a0_31, .ref a0_32, .ref a0_33, .ref a0_34, .ref a0_35, .long a0_36, .int a0_37, .ref a0_38, .ref a0_39, .int a0_40, .ref a0_41, .ref a0_42, .ref a0_43])), (a0_20, .inl (a0_20_c, 2, .inl a0_20_f)), (a0_21, .inl (a0_21_c, 2, .inl a0_21_f)), (a0_23, .inl (a0_23_c, 16, .inl a0_23_f)), (a0_26, .inl (a0_26_c, 8, .inl a0_26_f)), (a0_29, .inl (a0_29_c, 48, .inl a0_29_f)), (a0_30, .inl (a0_30_c, 48, .inl a0_30_f)), (a0_31, .inl (a0_31_c, 48, .inl a0_31_f)), (a0_32, .inl (a0_32_c, 24, .inl a0_32_f)), (a0_33, .inl (a0_33_c, 24, .inl a0_33_f)), (a0_34, .inl (a0_34_c, 72, .inl a0_34_f)), (a0_35, .inl (a0_35_c, 24, .inl a0_35_f)), (a0_38, .inl (a0_38_c, 176, .inl a0_38_f)), (a0_43, .inl (a0_43_c, 288, .inl za0_43_f_6))] H ∧ va_D A [(a0, .inr (8, [.int 0, .int za0_1_3, .int za0_2_4, .int za0_3_5, .ref a0_4, .int a0_5, .int a0_6, .int a0_7, .int a0_8, .int a0_9, .int a0_10, .long a0_11, .int a0_12, .int a0_13, .int a0_14, .int a0_15, .int a0_16, .int a0_17, .ref a0_18, .ref a0_19, .ref a0_20, .ref a0_21, .ref a0_22, .ref a0_23, .ref a0_24, .ref a0_25, .ref a0_26, .ref a0_27, .ref a0_28, .ref a0_29, .ref a0_30, .ref a0_31, .ref a0_32, .ref a0_33, .ref a0_34, .ref a0_35, .long a0_36, .int a0_37, .ref a0_38, .ref a0_39, .int a0_40, .ref a0_41, .ref a0_42, .ref a0_43])), (a0_20, .inl (a0_20_c, 2, .inl a0_20_f)), (a0_21, .inl (a0_21_c, 2, .inl a0_21_f)), (a0_23, .inl (a0_23_c, 16, .inl a0_23_f)), (a0_26, .inl (a0_26_c, 8, .inl a0_26_f)), (a0_29, .inl (a0_29_c, 48, .inl a0_29_f)), (a0_30, .inl (a0_30_c, 48, .inl a0_30_f)), (a0_31, .inl (a0_31_c, 48, .inl a0_31_f)), (a0_32, .inl (a0_32_c, 24, .inl a0_32_f)), (a0_33, .inl (a0_33_c, 24, .inl a0_33_f)), (a0_34, .inl (a0_34_c, 72, .inl a0_34_f)), (a0_35, .inl (a0_35_c, 24, .inl a0_35_f)), (a0_38, .inl (a0_38_c, 176, .inl a0_38_f)), (a0_43, .inl (a0_43_c, 288, .inl za0_43_f_6))] ∧ va_S A s.heap H locs) ?_ ((2147483647 - (0 : Int32).toInt).toNat) _ _ _ ⟨0, 0, (-1), rfl, (by omega), lv_sub hl [0, 1, 2, 3, 4, 5, 6] rfl, hP, hD, hS⟩
      intro n40 H locs ls hI ih40
      obtain ⟨l40_6, l40_5, l40_4, hn40, g_l40_6, hl, hP, hD, hS⟩ := hI
      have b_l40_6 := i32b l40_6
      have b_l40_5 := i32b l40_5
      have b_l40_4 := i32b l40_4
      refine lv_iload hx hb dX9_best_40 (lv_at hl 0 rfl) ?_
      refine lv_iconst (v := 1) hx hb dX9_best_42 (by decide) ?_
      refine lv_aload_n hx hb dX9_best_43 rfl (lv_at hl 3 rfl) ?_
      refine va_get (D := (dC, dI)) (ci := 8) (v := .ref a0_21) (C := RX9) (T := TX9) (N := 44) hx hb hts inlX9 hown hK hP 0 rgL14_6e084ec rfl 21 (by decide) (hts (.fieldLink RX9 23 "ClosedUntilModel" "closures" "[I") qw_501) (fun _ h9 => h9) rfl dX9_best_44 ?_
      refine lv_iconst (v := 0) hx hb dX9_best_47 (by decide) ?_
      refine va_iald hx hb hK hP 2 1 rgL14_9aeb737 rgT13_9ecce0a (vin0 (by decide)) dX9_best_48 ?_
      refine lv_topi (fun x11 e_x11 => ?_)
      have q_x11 : x11.toInt = (a0_21_f 0).toInt := congrArg Int32.toInt e_x11
      have b_x11 : 0 ≤ x11.toInt ∧ x11.toInt ≤ 12 := vr_at (lo := 0) (hi := 12) (f := a0_21_f) h_a0_21_f e_x11
      refine lv_ishl hx hb dX9_best_49 ?_
      refine lv_topi (fun x12 e_x12 => ?_)
      have b_x12 := i32b x12
      refine lv_icmp_ge (tgt := 139) hx hb dX9_best_50 (by decide) (fun c50_13 => ?_) (fun c50_13 => ?_)
      · have c50_13 : x12.toInt ≤ l40_6.toInt := (cv_le rfl rfl).mp c50_13
        refine lv_iload hx hb dX9_best_139 (lv_at hl 2 rfl) ?_
        have qc0 : (0 : Int32).toInt = 0 := by decide
        refine W.widen (k := 0) (n := 0) (Nat.le_of_ble_eq_true rfl) (Nat.le_of_ble_eq_true rfl) ?_
        have hP9 := hP
        have hD9 := hD
        have hK9 := (rgK13_332f5b0 hK)
        exact W.iret (v := l40_4) hx hb hr (fun t ht hW => ⟨⟨l40_4, l40_4, rfl, rfl, 0, za0_1_3, za0_2_4, za0_3_5, za0_43_f_6, atB ht hP9, va_K.moved hW.alike hK9, hD9⟩, hS.F ht⟩) hS.2.2 dX9_best_141
      · have c50_13 : ¬ (x12.toInt ≤ l40_6.toInt) := mt (cv_le rfl rfl).mpr c50_13
        refine lv_iload hx hb dX9_best_53 (lv_at hl 0 rfl) ?_
        have hPc := (rgP14_13c4e7a hP)
        have hKc := (rgK13_332f5b0 hK)
        refine vp_callSi ((va_runS (As := [.int l40_6]) (rest := []) ⟨hx, hb, hml, hown, hts⟩ (k_X9_count1 l dC dI g (l40_6) ) (va_cwS 1 hts (gwS qw_646 qw_647 qw_386 qw_645) rfl rfl rfl (by decide +kernel) ⟨Nat.le_of_ble_eq_true rfl, Nat.le_of_ble_eq_true rfl⟩) ⟨fun a U g9 mk q => ⟨q.1, q.2.1, va_K.moved (u := U) (U := U.calling g9 mk a) (Vm.Alike.refl U.vm) q.2.2.1, Ev.bl q.2.2.2⟩, fun U hU hW => ⟨rfl, atB hU hPc, va_K.moved hW.alike hKc, hE.go hS (fun _ h => h.elim) hU hW⟩⟩ rfl rfl hl.1 rfl (lv_room (Nat.le_of_ble_eq_true rfl)) dX9_best_55 ⟨Nat.le_of_ble_eq_true rfl, Nat.le_of_ble_eq_true rfl⟩)).run (fun r14 h_r14 => ?_)
        have b_r14 := i32b r14
        refine lv_iload_n hx hb dX9_best_58 rfl (lv_at hl 6 rfl) ?_
        refine lv_icmp_le (tgt := 65) hx hb dX9_best_59 (by decide) (fun c59_15 => ?_) (fun c59_15 => ?_)
        · have c59_15 : r14.toInt ≤ a3.toInt := (cv_le rfl rfl).mp c59_15
          refine lv_aload_n hx hb dX9_best_65 rfl (lv_at hl 3 rfl) ?_
          refine lv_iload_n hx hb dX9_best_66 rfl (lv_at hl 4 rfl) ?_
          refine lv_iload_n hx hb dX9_best_67 rfl (lv_at hl 5 rfl) ?_
          refine lv_iload hx hb dX9_best_68 (lv_at hl 0 rfl) ?_
          have qc0 : (0 : Int32).toInt = 0 := by decide
          have hPc := (rgP14_ae3a98f hP)
          have hKc := (rgK13_46755f9 hK)
          refine vp_callSi ((va_runV (As := [.int a1, .int a2, .int l40_6]) (rest := []) ⟨hx, hb, hml, hown, hts⟩ (k_X9_openOn l dC dI g (a0) (a1) (a2) (l40_6) (0) (za0_1_3) (za0_2_4) (za0_3_5) (a0_4) (a0_5) (a0_6) (a0_7) (a0_8) (a0_9) (a0_10) (a0_11) (a0_12) (a0_13) (a0_14) (a0_15) (a0_16) (a0_17) (a0_18) (a0_19) (a0_20) (a0_21) (a0_22) (a0_23) (a0_24) (a0_25) (a0_26) (a0_27) (a0_28) (a0_29) (a0_30) (a0_31) (a0_32) (a0_33) (a0_34) (a0_35) (a0_36) (a0_37) (a0_38) (a0_39) (a0_40) (a0_41) (a0_42) (a0_43) (a0_20_c) (a0_20_f) (a0_21_c) (a0_21_f) (a0_32_c) (a0_32_f) (a0_43_c) (za0_43_f_6) (by omega) (by omega) (by omega) (by omega) (by omega) (by omega) (by omega) h_a0_20_f h_a0_21_f) (cwV 3 hts (gwV qw_637 qw_638 qw_639 qw_386 qw_636) rfl rfl rfl (by decide +kernel) ⟨Nat.le_of_ble_eq_true rfl, Nat.le_of_ble_eq_true rfl⟩) ⟨fun a U g9 mk q => ⟨q.1, q.2.1, va_K.moved (u := U) (U := U.calling g9 mk a) (Vm.Alike.refl U.vm) q.2.2.1, Ev.bl q.2.2.2⟩, va_recv hK hP (ci := 8) (q0 := 0) rfl rgL14_6e084ec, fun U hU hW => ⟨rfl, atB hU hPc, va_K.moved hW.alike hKc, hE.go hS (fun _ h => h.elim) hU hW⟩⟩ rfl rfl hl.1 rfl (lv_room (Nat.le_of_ble_eq_true rfl)) dX9_best_70 ⟨Nat.le_of_ble_eq_true rfl, Nat.le_of_ble_eq_true rfl⟩)).run (fun r16 h_r16 => ?_)
          have b_r16 := i32b r16
          have hPc := (rgP14_13c4e7a hP)
          have hKc := (rgK13_332f5b0 hK)
          refine vp_callSi ((va_runS (As := [.int r16]) (rest := []) ⟨hx, hb, hml, hown, hts⟩ (k_X9_count1 l dC dI g (r16) ) (va_cwS 1 hts (gwS qw_646 qw_647 qw_386 qw_645) rfl rfl rfl (by decide +kernel) ⟨Nat.le_of_ble_eq_true rfl, Nat.le_of_ble_eq_true rfl⟩) ⟨fun a U g9 mk q => ⟨q.1, q.2.1, va_K.moved (u := U) (U := U.calling g9 mk a) (Vm.Alike.refl U.vm) q.2.2.1, Ev.bl q.2.2.2⟩, fun U hU hW => ⟨rfl, atB hU hPc, va_K.moved hW.alike hKc, hE.go hS (fun _ h => h.elim) hU hW⟩⟩ rfl rfl hl.1 rfl (lv_room (Nat.le_of_ble_eq_true rfl)) dX9_best_73 ⟨Nat.le_of_ble_eq_true rfl, Nat.le_of_ble_eq_true rfl⟩)).run (fun r17 h_r17 => ?_)
          have b_r17 := i32b r17
          refine lv_istore (lv' := [(7, .int r17), (6, .int l40_6), (5, .int l40_5), (4, .int l40_4), (0, .ref a0), (1, .int a1), (2, .int a2), (3, .int a3)]) hx hb dX9_best_76 hl (by decide) rfl (fun ls hl => ?_)
          refine lv_iload hx hb dX9_best_78 (lv_at hl 3 rfl) ?_
          refine lv_if_lt (tgt := 110) hx hb dX9_best_80 (by decide) (fun c80_18 => ?_) (fun c80_18 => ?_)
          · have c80_18 : l40_4.toInt < 0 := (cv_lt rfl (by decide)).mp c80_18
            refine lv_iconst (v := 1) hx hb dX9_best_110 (by decide) ?_
            refine lv_goto (tgt := 115) hx hb dX9_best_111 (by decide) ?_
            refine lv_istore (lv' := [(8, .int 1), (7, .int r17), (6, .int l40_6), (5, .int l40_5), (4, .int l40_4), (0, .ref a0), (1, .int a1), (2, .int a2), (3, .int a3)]) hx hb dX9_best_115 hl (by decide) rfl (fun ls hl => ?_)
            refine lv_iload hx hb dX9_best_117 (lv_at hl 0 rfl) ?_
            refine lv_if_ne (tgt := 125) hx hb dX9_best_119 (by decide) (fun c119_19 => ?_) (fun c119_19 => by exfalso; exact absurd c119_19 (by decide))
            refine lv_iload hx hb dX9_best_125 (lv_at hl 2 rfl) ?_
            refine lv_istore (lv' := [(4, .int l40_6), (8, .int 1), (7, .int r17), (6, .int l40_6), (5, .int l40_5), (0, .ref a0), (1, .int a1), (2, .int a2), (3, .int a3)]) hx hb dX9_best_127 hl (by decide) rfl (fun ls hl => ?_)
            refine lv_iload hx hb dX9_best_129 (lv_at hl 2 rfl) ?_
            refine lv_istore (lv' := [(5, .int r17), (4, .int l40_6), (8, .int 1), (7, .int r17), (6, .int l40_6), (0, .ref a0), (1, .int a1), (2, .int a2), (3, .int a3)]) hx hb dX9_best_131 hl (by decide) rfl (fun ls hl => ?_)
            obtain ⟨x20, e_x20⟩ : ∃ y : Int32, y = l40_6 + 1 := ⟨_, rfl⟩
            refine lv_iinc (v := x20) (lv' := [(6, .int x20), (5, .int r17), (4, .int l40_6), (8, .int 1), (7, .int r17), (0, .ref a0), (1, .int a1), (2, .int a2), (3, .int a3)]) hx hb dX9_best_133 hl (k := 4) rfl (by rw [e_x20]; rfl) (by decide) rfl (fun ls hl => ?_)
            try have e_x20 := ti_add e_x20 rfl (show (1 : Int32).toInt = 1 by decide) (by omega)
            refine lv_goto (tgt := 40) hx hb dX9_best_136 (by decide) ?_
            have qc1 : (1 : Int32).toInt = 1 := by decide
            exact ih40 ((2147483647 - x20.toInt).toNat) _ _ _ (by omega) ⟨x20, r17, l40_6, rfl, (by omega), lv_sub hl [0, 1, 2, 5, 6, 7, 8] rfl, hP, hD, hS⟩
          · have c80_18 : ¬ (l40_4.toInt < 0) := mt (cv_lt rfl (by decide)).mpr c80_18
            refine lv_iload hx hb dX9_best_83 (lv_at hl 0 rfl) ?_
            refine lv_iload hx hb dX9_best_85 (lv_at hl 2 rfl) ?_
            refine lv_icmp_gt (tgt := 110) hx hb dX9_best_87 (by decide) (fun c87_21 => ?_) (fun c87_21 => ?_)
            · have c87_21 : l40_5.toInt < r17.toInt := (cv_lt rfl rfl).mp c87_21
              refine lv_iconst (v := 1) hx hb dX9_best_110 (by decide) ?_
              refine lv_goto (tgt := 115) hx hb dX9_best_111 (by decide) ?_
              refine lv_istore (lv' := [(8, .int 1), (7, .int r17), (6, .int l40_6), (5, .int l40_5), (4, .int l40_4), (0, .ref a0), (1, .int a1), (2, .int a2), (3, .int a3)]) hx hb dX9_best_115 hl (by decide) rfl (fun ls hl => ?_)
              refine lv_iload hx hb dX9_best_117 (lv_at hl 0 rfl) ?_
              refine lv_if_ne (tgt := 125) hx hb dX9_best_119 (by decide) (fun c119_22 => ?_) (fun c119_22 => by exfalso; exact absurd c119_22 (by decide))
              refine lv_iload hx hb dX9_best_125 (lv_at hl 2 rfl) ?_
              refine lv_istore (lv' := [(4, .int l40_6), (8, .int 1), (7, .int r17), (6, .int l40_6), (5, .int l40_5), (0, .ref a0), (1, .int a1), (2, .int a2), (3, .int a3)]) hx hb dX9_best_127 hl (by decide) rfl (fun ls hl => ?_)
              refine lv_iload hx hb dX9_best_129 (lv_at hl 2 rfl) ?_
              refine lv_istore (lv' := [(5, .int r17), (4, .int l40_6), (8, .int 1), (7, .int r17), (6, .int l40_6), (0, .ref a0), (1, .int a1), (2, .int a2), (3, .int a3)]) hx hb dX9_best_131 hl (by decide) rfl (fun ls hl => ?_)
              obtain ⟨x23, e_x23⟩ : ∃ y : Int32, y = l40_6 + 1 := ⟨_, rfl⟩
              refine lv_iinc (v := x23) (lv' := [(6, .int x23), (5, .int r17), (4, .int l40_6), (8, .int 1), (7, .int r17), (0, .ref a0), (1, .int a1), (2, .int a2), (3, .int a3)]) hx hb dX9_best_133 hl (k := 4) rfl (by rw [e_x23]; rfl) (by decide) rfl (fun ls hl => ?_)
              try have e_x23 := ti_add e_x23 rfl (show (1 : Int32).toInt = 1 by decide) (by omega)
              refine lv_goto (tgt := 40) hx hb dX9_best_136 (by decide) ?_
              have qc1 : (1 : Int32).toInt = 1 := by decide
              exact ih40 ((2147483647 - x23.toInt).toNat) _ _ _ (by omega) ⟨x23, r17, l40_6, rfl, (by omega), lv_sub hl [0, 1, 2, 5, 6, 7, 8] rfl, hP, hD, hS⟩
            · have c87_21 : ¬ (l40_5.toInt < r17.toInt) := mt (cv_lt rfl rfl).mpr c87_21
              refine lv_iload hx hb dX9_best_90 (lv_at hl 0 rfl) ?_
              refine lv_iload hx hb dX9_best_92 (lv_at hl 2 rfl) ?_
              refine lv_icmp_ne (tgt := 114) hx hb dX9_best_94 (by decide) (fun c94_24 => ?_) (fun c94_24 => ?_)
              · have c94_24 : ¬ (r17.toInt = l40_5.toInt) := mt (cv_eq rfl rfl).mpr c94_24
                refine lv_iconst (v := 0) hx hb dX9_best_114 (by decide) ?_
                refine lv_istore (lv' := [(8, .int 0), (7, .int r17), (6, .int l40_6), (5, .int l40_5), (4, .int l40_4), (0, .ref a0), (1, .int a1), (2, .int a2), (3, .int a3)]) hx hb dX9_best_115 hl (by decide) rfl (fun ls hl => ?_)
                refine lv_iload hx hb dX9_best_117 (lv_at hl 0 rfl) ?_
                refine lv_if_ne (tgt := 125) hx hb dX9_best_119 (by decide) (fun c119_25 => by exfalso; exact absurd c119_25 (by decide)) (fun c119_25 => ?_)
                refine lv_goto (tgt := 133) hx hb dX9_best_122 (by decide) ?_
                obtain ⟨x26, e_x26⟩ : ∃ y : Int32, y = l40_6 + 1 := ⟨_, rfl⟩
                refine lv_iinc (v := x26) (lv' := [(6, .int x26), (8, .int 0), (7, .int r17), (5, .int l40_5), (4, .int l40_4), (0, .ref a0), (1, .int a1), (2, .int a2), (3, .int a3)]) hx hb dX9_best_133 hl (k := 2) rfl (by rw [e_x26]; rfl) (by decide) rfl (fun ls hl => ?_)
                try have e_x26 := ti_add e_x26 rfl (show (1 : Int32).toInt = 1 by decide) (by omega)
                refine lv_goto (tgt := 40) hx hb dX9_best_136 (by decide) ?_
                have qc0 : (0 : Int32).toInt = 0 := by decide
                exact ih40 ((2147483647 - x26.toInt).toNat) _ _ _ (by omega) ⟨x26, l40_5, l40_4, rfl, (by omega), lv_sub hl [0, 3, 4, 5, 6, 7, 8] rfl, hP, hD, hS⟩
              · have c94_24 : r17.toInt = l40_5.toInt := (cv_eq rfl rfl).mp c94_24
                refine lv_iload hx hb dX9_best_97 (lv_at hl 1 rfl) ?_
                have hPc := (rgP14_13c4e7a hP)
                have hKc := (rgK13_332f5b0 hK)
                refine vp_callSi ((va_runS (As := [.int l40_6]) (rest := []) ⟨hx, hb, hml, hown, hts⟩ (k_X9_count1 l dC dI g (l40_6) ) (va_cwS 1 hts (gwS qw_646 qw_647 qw_386 qw_645) rfl rfl rfl (by decide +kernel) ⟨Nat.le_of_ble_eq_true rfl, Nat.le_of_ble_eq_true rfl⟩) ⟨fun a U g9 mk q => ⟨q.1, q.2.1, va_K.moved (u := U) (U := U.calling g9 mk a) (Vm.Alike.refl U.vm) q.2.2.1, Ev.bl q.2.2.2⟩, fun U hU hW => ⟨rfl, atB hU hPc, va_K.moved hW.alike hKc, hE.go hS (fun _ h => h.elim) hU hW⟩⟩ rfl rfl hl.1 rfl (lv_room (Nat.le_of_ble_eq_true rfl)) dX9_best_99 ⟨Nat.le_of_ble_eq_true rfl, Nat.le_of_ble_eq_true rfl⟩)).run (fun r27 h_r27 => ?_)
                have b_r27 := i32b r27
                refine lv_iload hx hb dX9_best_102 (lv_at hl 3 rfl) ?_
                have hPc := (rgP14_13c4e7a hP)
                have hKc := (rgK13_332f5b0 hK)
                refine vp_callSi ((va_runS (As := [.int l40_4]) (rest := [.int r27]) ⟨hx, hb, hml, hown, hts⟩ (k_X9_count1 l dC dI g (l40_4) ) (va_cwS 1 hts (gwS qw_646 qw_647 qw_386 qw_645) rfl rfl rfl (by decide +kernel) ⟨Nat.le_of_ble_eq_true rfl, Nat.le_of_ble_eq_true rfl⟩) ⟨fun a U g9 mk q => ⟨q.1, q.2.1, va_K.moved (u := U) (U := U.calling g9 mk a) (Vm.Alike.refl U.vm) q.2.2.1, Ev.bl q.2.2.2⟩, fun U hU hW => ⟨rfl, atB hU hPc, va_K.moved hW.alike hKc, hE.go hS (fun _ h => h.elim) hU hW⟩⟩ rfl rfl hl.1 rfl (lv_room (Nat.le_of_ble_eq_true rfl)) dX9_best_104 ⟨Nat.le_of_ble_eq_true rfl, Nat.le_of_ble_eq_true rfl⟩)).run (fun r28 h_r28 => ?_)
                have b_r28 := i32b r28
                refine lv_icmp_ge (tgt := 114) hx hb dX9_best_107 (by decide) (fun c107_29 => ?_) (fun c107_29 => ?_)
                · have c107_29 : r28.toInt ≤ r27.toInt := (cv_le rfl rfl).mp c107_29
                  refine lv_iconst (v := 0) hx hb dX9_best_114 (by decide) ?_
                  refine lv_istore (lv' := [(8, .int 0), (7, .int r17), (6, .int l40_6), (5, .int l40_5), (4, .int l40_4), (0, .ref a0), (1, .int a1), (2, .int a2), (3, .int a3)]) hx hb dX9_best_115 hl (by decide) rfl (fun ls hl => ?_)
                  refine lv_iload hx hb dX9_best_117 (lv_at hl 0 rfl) ?_
                  refine lv_if_ne (tgt := 125) hx hb dX9_best_119 (by decide) (fun c119_30 => by exfalso; exact absurd c119_30 (by decide)) (fun c119_30 => ?_)
                  refine lv_goto (tgt := 133) hx hb dX9_best_122 (by decide) ?_
                  obtain ⟨x31, e_x31⟩ : ∃ y : Int32, y = l40_6 + 1 := ⟨_, rfl⟩
                  refine lv_iinc (v := x31) (lv' := [(6, .int x31), (8, .int 0), (7, .int r17), (5, .int l40_5), (4, .int l40_4), (0, .ref a0), (1, .int a1), (2, .int a2), (3, .int a3)]) hx hb dX9_best_133 hl (k := 2) rfl (by rw [e_x31]; rfl) (by decide) rfl (fun ls hl => ?_)
                  try have e_x31 := ti_add e_x31 rfl (show (1 : Int32).toInt = 1 by decide) (by omega)
                  refine lv_goto (tgt := 40) hx hb dX9_best_136 (by decide) ?_
                  have qc0 : (0 : Int32).toInt = 0 := by decide
                  exact ih40 ((2147483647 - x31.toInt).toNat) _ _ _ (by omega) ⟨x31, l40_5, l40_4, rfl, (by omega), lv_sub hl [0, 3, 4, 5, 6, 7, 8] rfl, hP, hD, hS⟩
                · have c107_29 : ¬ (r28.toInt ≤ r27.toInt) := mt (cv_le rfl rfl).mpr c107_29
                  refine lv_iconst (v := 1) hx hb dX9_best_110 (by decide) ?_
                  refine lv_goto (tgt := 115) hx hb dX9_best_111 (by decide) ?_
                  refine lv_istore (lv' := [(8, .int 1), (7, .int r17), (6, .int l40_6), (5, .int l40_5), (4, .int l40_4), (0, .ref a0), (1, .int a1), (2, .int a2), (3, .int a3)]) hx hb dX9_best_115 hl (by decide) rfl (fun ls hl => ?_)
                  refine lv_iload hx hb dX9_best_117 (lv_at hl 0 rfl) ?_
                  refine lv_if_ne (tgt := 125) hx hb dX9_best_119 (by decide) (fun c119_32 => ?_) (fun c119_32 => by exfalso; exact absurd c119_32 (by decide))
                  refine lv_iload hx hb dX9_best_125 (lv_at hl 2 rfl) ?_
                  refine lv_istore (lv' := [(4, .int l40_6), (8, .int 1), (7, .int r17), (6, .int l40_6), (5, .int l40_5), (0, .ref a0), (1, .int a1), (2, .int a2), (3, .int a3)]) hx hb dX9_best_127 hl (by decide) rfl (fun ls hl => ?_)
                  refine lv_iload hx hb dX9_best_129 (lv_at hl 2 rfl) ?_
                  refine lv_istore (lv' := [(5, .int r17), (4, .int l40_6), (8, .int 1), (7, .int r17), (6, .int l40_6), (0, .ref a0), (1, .int a1), (2, .int a2), (3, .int a3)]) hx hb dX9_best_131 hl (by decide) rfl (fun ls hl => ?_)
                  obtain ⟨x33, e_x33⟩ : ∃ y : Int32, y = l40_6 + 1 := ⟨_, rfl⟩
                  refine lv_iinc (v := x33) (lv' := [(6, .int x33), (5, .int r17), (4, .int l40_6), (8, .int 1), (7, .int r17), (0, .ref a0), (1, .int a1), (2, .int a2), (3, .int a3)]) hx hb dX9_best_133 hl (k := 4) rfl (by rw [e_x33]; rfl) (by decide) rfl (fun ls hl => ?_)
                  try have e_x33 := ti_add e_x33 rfl (show (1 : Int32).toInt = 1 by decide) (by omega)
                  refine lv_goto (tgt := 40) hx hb dX9_best_136 (by decide) ?_
                  have qc1 : (1 : Int32).toInt = 1 := by decide
                  exact ih40 ((2147483647 - x33.toInt).toNat) _ _ _ (by omega) ⟨x33, r17, l40_6, rfl, (by omega), lv_sub hl [0, 1, 2, 5, 6, 7, 8] rfl, hP, hD, hS⟩
        · have c59_15 : ¬ (r14.toInt ≤ a3.toInt) := mt (cv_le rfl rfl).mpr c59_15
          refine lv_goto (tgt := 133) hx hb dX9_best_62 (by decide) ?_
          obtain ⟨x34, e_x34⟩ : ∃ y : Int32, y = l40_6 + 1 := ⟨_, rfl⟩
          refine lv_iinc (v := x34) (lv' := [(6, .int x34), (5, .int l40_5), (4, .int l40_4), (0, .ref a0), (1, .int a1), (2, .int a2), (3, .int a3)]) hx hb dX9_best_133 hl (k := 0) rfl (by rw [e_x34]; rfl) (by decide) rfl (fun ls hl => ?_)
          try have e_x34 := ti_add e_x34 rfl (show (1 : Int32).toInt = 1 by decide) (by omega)
          refine lv_goto (tgt := 40) hx hb dX9_best_136 (by decide) ?_
          exact ih40 ((2147483647 - x34.toInt).toNat) _ _ _ (by omega) ⟨x34, l40_5, l40_4, rfl, (by omega), lv_sub hl [0, 1, 2, 3, 4, 5, 6] rfl, hP, hD, hS⟩
    · have c26_10 : r9.toInt = 0 := (cv_eq rfl (by decide)).mp c26_10
      refine lv_iconst (v := (-1)) hx hb dX9_best_29 (by decide) ?_
      have qcm1 : ((-1) : Int32).toInt = (-1) := by decide
      have qc0 : (0 : Int32).toInt = 0 := by decide
      refine W.widen (k := 0) (n := 0) (Nat.le_of_ble_eq_true rfl) (Nat.le_of_ble_eq_true rfl) ?_
      have hP9 := hP
      have hD9 := hD
      have hK9 := (rgK13_332f5b0 hK)
      exact W.iret (v := (-1)) hx hb hr (fun t ht hW => ⟨⟨(-1), (-1), rfl, rfl, 0, za0_1_3, za0_2_4, za0_3_5, za0_43_f_6, atB ht hP9, va_K.moved hW.alike hK9, hD9⟩, hS.F ht⟩) hS.2.2 dX9_best_30
set_option maxHeartbeats 4000000 in
set_option maxRecDepth 100000 in
theorem k_X9_openWithout (l : Launch) (dC : Nat → ClassId) (dI : Nat → Nat → Nat) (g : Gv) (sz : Nat) (a0 : Nat) (a1 : Int32) (a2 : Int32) (a3 : Int32) (a0_0 : Int32) (a0_1 : Int32) (a0_2 : Int32) (a0_3 : Int32) (a0_4 : Nat) (a0_5 : Int32) (a0_6 : Int32) (a0_7 : Int32) (a0_8 : Int32) (a0_9 : Int32) (a0_10 : Int32) (a0_11 : Int64) (a0_12 : Int32) (a0_13 : Int32) (a0_14 : Int32) (a0_15 : Int32) (a0_16 : Int32) (a0_17 : Int32) (a0_18 : Nat) (a0_19 : Nat) (a0_20 : Nat) (a0_21 : Nat) (a0_22 : Nat) (a0_23 : Nat) (a0_24 : Nat) (a0_25 : Nat) (a0_26 : Nat) (a0_27 : Nat) (a0_28 : Nat) (a0_29 : Nat) (a0_30 : Nat) (a0_31 : Nat) (a0_32 : Nat) (a0_33 : Nat) (a0_34 : Nat) (a0_35 : Nat) (a0_36 : Int64) (a0_37 : Int32) (a0_38 : Nat) (a0_39 : Nat) (a0_40 : Int32) (a0_41 : Nat) (a0_42 : Nat) (a0_43 : Nat) (a0_20_c : ClassId) (a0_20_f : Nat → Int32) (a0_21_c : ClassId) (a0_21_f : Nat → Int32) (a0_23_c : ClassId) (a0_23_f : Nat → Int32) (a0_26_c : ClassId) (a0_26_f : Nat → Int32) (a0_29_c : ClassId) (a0_29_f : Nat → Int32) (a0_30_c : ClassId) (a0_30_f : Nat → Int32) (a0_31_c : ClassId) (a0_31_f : Nat → Int32) (a0_32_c : ClassId) (a0_32_f : Nat → Int32) (a0_33_c : ClassId) (a0_33_f : Nat → Int32) (a0_34_c : ClassId) (a0_34_f : Nat → Int32) (a0_35_c : ClassId) (a0_35_f : Nat → Int32) (a0_38_c : ClassId) (a0_38_f : Nat → Int32) (a0_43_c : ClassId) (a0_43_f : Nat → Int32) (h_a0_5 : 0 ≤ a0_5.toInt ∧ a0_5.toInt ≤ 1000) (h_a0_6 : 0 ≤ a0_6.toInt ∧ a0_6.toInt ≤ 1000) (h_a0_7 : 0 ≤ a0_7.toInt ∧ a0_7.toInt ≤ 1000) (h_a0_8 : 0 ≤ a0_8.toInt ∧ a0_8.toInt ≤ 1000) (h_a0_17 : 0 ≤ a0_17.toInt ∧ a0_17.toInt ≤ 1) (h_a0_37 : (-1) ≤ a0_37.toInt ∧ a0_37.toInt ≤ 23) (h_a0_40 : 0 ≤ a0_40.toInt ∧ a0_40.toInt ≤ 12) (h_a0_20_f : vr 0 24 a0_20_f) (h_a0_21_f : vr 0 12 a0_21_f) (hms : RowOk (a0_20_f 0).toInt a0_38_f 0) (hmw : WOk a0_32_f a0_33_f 0 (a0_21_f 0).toInt) : Met l yX9_openWithout (.code yX9_openWithout cX9_openWithout 4 (some .int) :: TBL) ({ frames := 8, cells := 0, slots := 0, locals := 186 }) (va_Pc [.ref a0, .int a1, .int a2, .int a3] (fun U => U.heap.size = sz ∧ va_P (dC, dI) vwCl [(a0, .inr (8, [.int a0_0, .int a0_1, .int a0_2, .int a0_3, .ref a0_4, .int a0_5, .int a0_6, .int a0_7, .int a0_8, .int a0_9, .int a0_10, .long a0_11, .int a0_12, .int a0_13, .int a0_14, .int a0_15, .int a0_16, .int a0_17, .ref a0_18, .ref a0_19, .ref a0_20, .ref a0_21, .ref a0_22, .ref a0_23, .ref a0_24, .ref a0_25, .ref a0_26, .ref a0_27, .ref a0_28, .ref a0_29, .ref a0_30, .ref a0_31, .ref a0_32, .ref a0_33, .ref a0_34, .ref a0_35, .long a0_36, .int a0_37, .ref a0_38, .ref a0_39, .int a0_40, .ref a0_41, .ref a0_42, .ref a0_43])), (a0_20, .inl (a0_20_c, 2, .inl a0_20_f)), (a0_21, .inl (a0_21_c, 2, .inl a0_21_f)), (a0_23, .inl (a0_23_c, 16, .inl a0_23_f)), (a0_26, .inl (a0_26_c, 8, .inl a0_26_f)), (a0_29, .inl (a0_29_c, 48, .inl a0_29_f)), (a0_30, .inl (a0_30_c, 48, .inl a0_30_f)), (a0_31, .inl (a0_31_c, 48, .inl a0_31_f)), (a0_32, .inl (a0_32_c, 24, .inl a0_32_f)), (a0_33, .inl (a0_33_c, 24, .inl a0_33_f)), (a0_34, .inl (a0_34_c, 72, .inl a0_34_f)), (a0_35, .inl (a0_35_c, 24, .inl a0_35_f)), (a0_38, .inl (a0_38_c, 176, .inl a0_38_f)), (a0_43, .inl (a0_43_c, 288, .inl a0_43_f))] U.heap ∧ va_K (dC, dI) vwCl [(a0_20_c, .int), (a0_21_c, .int), (a0_23_c, .int), (a0_26_c, .int), (a0_29_c, .int), (a0_30_c, .int), (a0_31_c, .int), (a0_32_c, .int), (a0_33_c, .int), (a0_34_c, .int), (a0_35_c, .boolean), (a0_38_c, .int), (a0_43_c, .int)] U ∧ va_D (fun _ => True) [(a0, .inr (8, [.int a0_0, .int a0_1, .int a0_2, .int a0_3, .ref a0_4, .int a0_5, .int a0_6, .int a0_7, .int a0_8, .int a0_9, .int a0_10, .long a0_11, .int a0_12, .int a0_13, .int a0_14, .int a0_15, .int a0_16, .int a0_17, .ref a0_18, .ref a0_19, .ref a0_20, .ref a0_21, .ref a0_22, .ref a0_23, .ref a0_24, .ref a0_25, .ref a0_26, .ref a0_27, .ref a0_28, .ref a0_29, .ref a0_30, .ref a0_31, .ref a0_32, .ref a0_33, .ref a0_34, .ref a0_35, .long a0_36, .int a0_37, .ref a0_38, .ref a0_39, .int a0_40, .ref a0_41, .ref a0_42, .ref a0_43])), (a0_20, .inl (a0_20_c, 2, .inl a0_20_f)), (a0_21, .inl (a0_21_c, 2, .inl a0_21_f)), (a0_23, .inl (a0_23_c, 16, .inl a0_23_f)), (a0_26, .inl (a0_26_c, 8, .inl a0_26_f)), (a0_29, .inl (a0_29_c, 48, .inl a0_29_f)), (a0_30, .inl (a0_30_c, 48, .inl a0_30_f)), (a0_31, .inl (a0_31_c, 48, .inl a0_31_f)), (a0_32, .inl (a0_32_c, 24, .inl a0_32_f)), (a0_33, .inl (a0_33_c, 24, .inl a0_33_f)), (a0_34, .inl (a0_34_c, 72, .inl a0_34_f)), (a0_35, .inl (a0_35_c, 24, .inl a0_35_f)), (a0_38, .inl (a0_38_c, 176, .inl a0_38_f)), (a0_43, .inl (a0_43_c, 288, .inl a0_43_f))] ∧ Ev g (va_A [(a0, .inr (8, [.int a0_0, .int a0_1, .int a0_2, .int a0_3, .ref a0_4, .int a0_5, .int a0_6, .int a0_7, .int a0_8, .int a0_9, .int a0_10, .long a0_11, .int a0_12, .int a0_13, .int a0_14, .int a0_15, .int a0_16, .int a0_17, .ref a0_18, .ref a0_19, .ref a0_20, .ref a0_21, .ref a0_22, .ref a0_23, .ref a0_24, .ref a0_25, .ref a0_26, .ref a0_27, .ref a0_28, .ref a0_29, .ref a0_30, .ref a0_31, .ref a0_32, .ref a0_33, .ref a0_34, .ref a0_35, .long a0_36, .int a0_37, .ref a0_38, .ref a0_39, .int a0_40, .ref a0_41, .ref a0_42, .ref a0_43])), (a0_20, .inl (a0_20_c, 2, .inl a0_20_f)), (a0_21, .inl (a0_21_c, 2, .inl a0_21_f)), (a0_23, .inl (a0_23_c, 16, .inl a0_23_f)), (a0_26, .inl (a0_26_c, 8, .inl a0_26_f)), (a0_29, .inl (a0_29_c, 48, .inl a0_29_f)), (a0_30, .inl (a0_30_c, 48, .inl a0_30_f)), (a0_31, .inl (a0_31_c, 48, .inl a0_31_f)), (a0_32, .inl (a0_32_c, 24, .inl a0_32_f)), (a0_33, .inl (a0_33_c, 24, .inl a0_33_f)), (a0_34, .inl (a0_34_c, 72, .inl a0_34_f)), (a0_35, .inl (a0_35_c, 24, .inl a0_35_f)), (a0_38, .inl (a0_38_c, 176, .inl a0_38_f)), (a0_43, .inl (a0_43_c, 288, .inl a0_43_f))] sz) U)) (va_Qi (fun (r : Int32) (u : Int32) => u = r) (fun (u : Int32) (t : State) => ∃ (za0_0 : Int32) (za0_1 : Int32) (za0_2 : Int32) (za0_3 : Int32) (za0_43_f : Nat → Int32), va_P (dC, dI) vwCl [(a0, .inr (8, [.int za0_0, .int za0_1, .int za0_2, .int za0_3, .ref a0_4, .int a0_5, .int a0_6, .int a0_7, .int a0_8, .int a0_9, .int a0_10, .long a0_11, .int a0_12, .int a0_13, .int a0_14, .int a0_15, .int a0_16, .int a0_17, .ref a0_18, .ref a0_19, .ref a0_20, .ref a0_21, .ref a0_22, .ref a0_23, .ref a0_24, .ref a0_25, .ref a0_26, .ref a0_27, .ref a0_28, .ref a0_29, .ref a0_30, .ref a0_31, .ref a0_32, .ref a0_33, .ref a0_34, .ref a0_35, .long a0_36, .int a0_37, .ref a0_38, .ref a0_39, .int a0_40, .ref a0_41, .ref a0_42, .ref a0_43])), (a0_20, .inl (a0_20_c, 2, .inl a0_20_f)), (a0_21, .inl (a0_21_c, 2, .inl a0_21_f)), (a0_23, .inl (a0_23_c, 16, .inl a0_23_f)), (a0_26, .inl (a0_26_c, 8, .inl a0_26_f)), (a0_29, .inl (a0_29_c, 48, .inl a0_29_f)), (a0_30, .inl (a0_30_c, 48, .inl a0_30_f)), (a0_31, .inl (a0_31_c, 48, .inl a0_31_f)), (a0_32, .inl (a0_32_c, 24, .inl a0_32_f)), (a0_33, .inl (a0_33_c, 24, .inl a0_33_f)), (a0_34, .inl (a0_34_c, 72, .inl a0_34_f)), (a0_35, .inl (a0_35_c, 24, .inl a0_35_f)), (a0_38, .inl (a0_38_c, 176, .inl a0_38_f)), (a0_43, .inl (a0_43_c, 288, .inl za0_43_f))] t.heap ∧ va_K (dC, dI) vwCl [] t ∧ va_D (va_A [(a0, .inr (8, [.int a0_0, .int a0_1, .int a0_2, .int a0_3, .ref a0_4, .int a0_5, .int a0_6, .int a0_7, .int a0_8, .int a0_9, .int a0_10, .long a0_11, .int a0_12, .int a0_13, .int a0_14, .int a0_15, .int a0_16, .int a0_17, .ref a0_18, .ref a0_19, .ref a0_20, .ref a0_21, .ref a0_22, .ref a0_23, .ref a0_24, .ref a0_25, .ref a0_26, .ref a0_27, .ref a0_28, .ref a0_29, .ref a0_30, .ref a0_31, .ref a0_32, .ref a0_33, .ref a0_34, .ref a0_35, .long a0_36, .int a0_37, .ref a0_38, .ref a0_39, .int a0_40, .ref a0_41, .ref a0_42, .ref a0_43])), (a0_20, .inl (a0_20_c, 2, .inl a0_20_f)), (a0_21, .inl (a0_21_c, 2, .inl a0_21_f)), (a0_23, .inl (a0_23_c, 16, .inl a0_23_f)), (a0_26, .inl (a0_26_c, 8, .inl a0_26_f)), (a0_29, .inl (a0_29_c, 48, .inl a0_29_f)), (a0_30, .inl (a0_30_c, 48, .inl a0_30_f)), (a0_31, .inl (a0_31_c, 48, .inl a0_31_f)), (a0_32, .inl (a0_32_c, 24, .inl a0_32_f)), (a0_33, .inl (a0_33_c, 24, .inl a0_33_f)), (a0_34, .inl (a0_34_c, 72, .inl a0_34_f)), (a0_35, .inl (a0_35_c, 24, .inl a0_35_f)), (a0_38, .inl (a0_38_c, 176, .inl a0_38_f)), (a0_43, .inl (a0_43_c, 288, .inl a0_43_f))] sz) [(a0, .inr (8, [.int za0_0, .int za0_1, .int za0_2, .int za0_3, .ref a0_4, .int a0_5, .int a0_6, .int a0_7, .int a0_8, .int a0_9, .int a0_10, .long a0_11, .int a0_12, .int a0_13, .int a0_14, .int a0_15, .int a0_16, .int a0_17, .ref a0_18, .ref a0_19, .ref a0_20, .ref a0_21, .ref a0_22, .ref a0_23, .ref a0_24, .ref a0_25, .ref a0_26, .ref a0_27, .ref a0_28, .ref a0_29, .ref a0_30, .ref a0_31, .ref a0_32, .ref a0_33, .ref a0_34, .ref a0_35, .long a0_36, .int a0_37, .ref a0_38, .ref a0_39, .int a0_40, .ref a0_41, .ref a0_42, .ref a0_43])), (a0_20, .inl (a0_20_c, 2, .inl a0_20_f)), (a0_21, .inl (a0_21_c, 2, .inl a0_21_f)), (a0_23, .inl (a0_23_c, 16, .inl a0_23_f)), (a0_26, .inl (a0_26_c, 8, .inl a0_26_f)), (a0_29, .inl (a0_29_c, 48, .inl a0_29_f)), (a0_30, .inl (a0_30_c, 48, .inl a0_30_f)), (a0_31, .inl (a0_31_c, 48, .inl a0_31_f)), (a0_32, .inl (a0_32_c, 24, .inl a0_32_f)), (a0_33, .inl (a0_33_c, 24, .inl a0_33_f)), (a0_34, .inl (a0_34_c, 72, .inl a0_34_f)), (a0_35, .inl (a0_35_c, 24, .inl a0_35_f)), (a0_38, .inl (a0_38_c, 176, .inl a0_38_f)), (a0_43, .inl (a0_43_c, 288, .inl za0_43_f))]) (va_A [(a0, .inr (8, [.int a0_0, .int a0_1, .int a0_2, .int a0_3, .ref a0_4, .int a0_5, .int a0_6, .int a0_7, .int a0_8, .int a0_9, .int a0_10, .long a0_11, .int a0_12, .int a0_13, .int a0_14, .int a0_15, .int a0_16, .int a0_17, .ref a0_18, .ref a0_19, .ref a0_20, .ref a0_21, .ref a0_22, .ref a0_23, .ref a0_24, .ref a0_25, .ref a0_26, .ref a0_27, .ref a0_28, .ref a0_29, .ref a0_30, .ref a0_31, .ref a0_32, .ref a0_33, .ref a0_34, .ref a0_35, .long a0_36, .int a0_37, .ref a0_38, .ref a0_39, .int a0_40, .ref a0_41, .ref a0_42, .ref a0_43])), (a0_20, .inl (a0_20_c, 2, .inl a0_20_f)), (a0_21, .inl (a0_21_c, 2, .inl a0_21_f)), (a0_23, .inl (a0_23_c, 16, .inl a0_23_f)), (a0_26, .inl (a0_26_c, 8, .inl a0_26_f)), (a0_29, .inl (a0_29_c, 48, .inl a0_29_f)), (a0_30, .inl (a0_30_c, 48, .inl a0_30_f)), (a0_31, .inl (a0_31_c, 48, .inl a0_31_f)), (a0_32, .inl (a0_32_c, 24, .inl a0_32_f)), (a0_33, .inl (a0_33_c, 24, .inl a0_33_f)), (a0_34, .inl (a0_34_c, 72, .inl a0_34_f)), (a0_35, .inl (a0_35_c, 24, .inl a0_35_f)), (a0_38, .inl (a0_38_c, 176, .inl a0_38_f)), (a0_43, .inl (a0_43_c, 288, .inl a0_43_f))] sz)) 0 0 (va_A [(a0, .inr (8, [.int a0_0, .int a0_1, .int a0_2, .int a0_3, .ref a0_4, .int a0_5, .int a0_6, .int a0_7, .int a0_8, .int a0_9, .int a0_10, .long a0_11, .int a0_12, .int a0_13, .int a0_14, .int a0_15, .int a0_16, .int a0_17, .ref a0_18, .ref a0_19, .ref a0_20, .ref a0_21, .ref a0_22, .ref a0_23, .ref a0_24, .ref a0_25, .ref a0_26, .ref a0_27, .ref a0_28, .ref a0_29, .ref a0_30, .ref a0_31, .ref a0_32, .ref a0_33, .ref a0_34, .ref a0_35, .long a0_36, .int a0_37, .ref a0_38, .ref a0_39, .int a0_40, .ref a0_41, .ref a0_42, .ref a0_43])), (a0_20, .inl (a0_20_c, 2, .inl a0_20_f)), (a0_21, .inl (a0_21_c, 2, .inl a0_21_f)), (a0_23, .inl (a0_23_c, 16, .inl a0_23_f)), (a0_26, .inl (a0_26_c, 8, .inl a0_26_f)), (a0_29, .inl (a0_29_c, 48, .inl a0_29_f)), (a0_30, .inl (a0_30_c, 48, .inl a0_30_f)), (a0_31, .inl (a0_31_c, 48, .inl a0_31_f)), (a0_32, .inl (a0_32_c, 24, .inl a0_32_f)), (a0_33, .inl (a0_33_c, 24, .inl a0_33_f)), (a0_34, .inl (a0_34_c, 72, .inl a0_34_f)), (a0_35, .inl (a0_35_c, 24, .inl a0_35_f)), (a0_38, .inl (a0_38_c, 176, .inl a0_38_f)), (a0_43, .inl (a0_43_c, 288, .inl a0_43_f))] sz) := by
  refine Met.ofW (cc := cX9_openWithout) (maxL := 4) (ret := (some .int)) (by decide) rfl ?_
  intro p e s m args below meth c s₁ B hml hv
  obtain ⟨rfl, hsz, hP, hK, hD0, hE⟩ := hv
  have hx := B.exec
  have hb := B.bytes
  have hr := B.returns
  have hts0 := atoms_spec (ws := (.code yX9_openWithout cX9_openWithout 4 (some .int) :: TBL)) B.pre
  have hts := fun (w : Cond) (h : w ∈ TBL) => hts0 w (List.mem_cons_of_mem _ h)
  have hown : s.vm.findClass RX9 = some m.cls := findClass_of_methodNamed B.named
  have hlocks := B.notSynchronized
  have hN := hE.1
  subst hsz
  have hD := hD0.self (sz := s.heap.size)
  generalize hAe : va_A [(a0, .inr (8, [.int a0_0, .int a0_1, .int a0_2, .int a0_3, .ref a0_4, .int a0_5, .int a0_6, .int a0_7, .int a0_8, .int a0_9, .int a0_10, .long a0_11, .int a0_12, .int a0_13, .int a0_14, .int a0_15, .int a0_16, .int a0_17, .ref a0_18, .ref a0_19, .ref a0_20, .ref a0_21, .ref a0_22, .ref a0_23, .ref a0_24, .ref a0_25, .ref a0_26, .ref a0_27, .ref a0_28, .ref a0_29, .ref a0_30, .ref a0_31, .ref a0_32, .ref a0_33, .ref a0_34, .ref a0_35, .long a0_36, .int a0_37, .ref a0_38, .ref a0_39, .int a0_40, .ref a0_41, .ref a0_42, .ref a0_43])), (a0_20, .inl (a0_20_c, 2, .inl a0_20_f)), (a0_21, .inl (a0_21_c, 2, .inl a0_21_f)), (a0_23, .inl (a0_23_c, 16, .inl a0_23_f)), (a0_26, .inl (a0_26_c, 8, .inl a0_26_f)), (a0_29, .inl (a0_29_c, 48, .inl a0_29_f)), (a0_30, .inl (a0_30_c, 48, .inl a0_30_f)), (a0_31, .inl (a0_31_c, 48, .inl a0_31_f)), (a0_32, .inl (a0_32_c, 24, .inl a0_32_f)), (a0_33, .inl (a0_33_c, 24, .inl a0_33_f)), (a0_34, .inl (a0_34_c, 72, .inl a0_34_f)), (a0_35, .inl (a0_35_c, 24, .inl a0_35_f)), (a0_38, .inl (a0_38_c, 176, .inl a0_38_f)), (a0_43, .inl (a0_43_c, 288, .inl a0_43_f))] s.heap.size = A at hD hE ⊢
  have hA : ∀ q : Nat, s.heap.size ≤ q → A q := fun q h => by rw [← hAe]; exact Or.inr h
  have hS : va_S A s.heap s.heap [] := va_S.rf
  replace hP : va_P (dC, dI) vwCl [(a0, .inr (8, [.int a0_0, .int a0_1, .int a0_2, .int a0_3, .ref a0_4, .int a0_5, .int a0_6, .int a0_7, .int a0_8, .int a0_9, .int a0_10, .long a0_11, .int a0_12, .int a0_13, .int a0_14, .int a0_15, .int a0_16, .int a0_17, .ref a0_18, .ref a0_19, .ref a0_20, .ref a0_21, .ref a0_22, .ref a0_23, .ref a0_24, .ref a0_25, .ref a0_26, .ref a0_27, .ref a0_28, .ref a0_29, .ref a0_30, .ref a0_31, .ref a0_32, .ref a0_33, .ref a0_34, .ref a0_35, .long a0_36, .int a0_37, .ref a0_38, .ref a0_39, .int a0_40, .ref a0_41, .ref a0_42, .ref a0_43])), (a0_20, .inl (a0_20_c, 2, .inl a0_20_f)), (a0_21, .inl (a0_21_c, 2, .inl a0_21_f)), (a0_23, .inl (a0_23_c, 16, .inl a0_23_f)), (a0_26, .inl (a0_26_c, 8, .inl a0_26_f)), (a0_29, .inl (a0_29_c, 48, .inl a0_29_f)), (a0_30, .inl (a0_30_c, 48, .inl a0_30_f)), (a0_31, .inl (a0_31_c, 48, .inl a0_31_f)), (a0_32, .inl (a0_32_c, 24, .inl a0_32_f)), (a0_33, .inl (a0_33_c, 24, .inl a0_33_f)), (a0_34, .inl (a0_34_c, 72, .inl a0_34_f)), (a0_35, .inl (a0_35_c, 24, .inl a0_35_f)), (a0_38, .inl (a0_38_c, 176, .inl a0_38_f)), (a0_43, .inl (a0_43_c, 288, .inl a0_43_f))] s.heap := hP
  have hl := lv_entry ([.ref a0, .int a1, .int a2, .int a3]) (n := 4) (Nat.le_of_ble_eq_true rfl)
  rw [lg_entry_eq]
  generalize (lg_sl ([.ref a0, .int a1, .int a2, .int a3]) ++ List.replicate (4 - (lg_sl ([.ref a0, .int a1, .int a2, .int a3])).length) Slot.unset).toArray = ls at hl ⊢
  have hl : lv_has ls 4 [(0, .ref a0), (1, .int a1), (2, .int a2), (3, .int a3)] := hl
  have b_a1 := i32b a1
  have b_a2 := i32b a2
  have b_a3 := i32b a3
  have b_a0_0 := i32b a0_0
  have b_a0_1 := i32b a0_1
  have b_a0_2 := i32b a0_2
  have b_a0_3 := i32b a0_3
  have b_a0_9 := i32b a0_9
  have b_a0_10 := i32b a0_10
  have b_a0_12 := i32b a0_12
  have b_a0_13 := i32b a0_13
  have b_a0_14 := i32b a0_14
  have b_a0_15 := i32b a0_15
  have b_a0_16 := i32b a0_16
  have hp20 := vr_at h_a0_20_f (k := 0) rfl
  have hp21 := vr_at h_a0_21_f (k := 0) rfl
  refine lv_aload_n hx hb dX9_openWithout_0 rfl (lv_at hl 0 rfl) ?_
  refine lv_iconst (v := 0) hx hb dX9_openWithout_1 (by decide) ?_
  refine va_put (D := (dC, dI)) (ci := 8) (v := .int 0) (ty := .int) (C := RX9) (T := TX9) (N := 44) hx hb hts inlX9 tyX9 tyX9_ok nmX9 hown hK hP hD hS 0 rgL14_6e084ec rfl 0 (by decide) (hts (.fieldLink RX9 85 "ClosedUntilModel" "thrown" "I") qw_408) (fun _ h9 => h9) rfl (by decide +kernel) rfl rfl (Nat.le_of_ble_eq_true rfl) dX9_openWithout_2 (fun H locs hP9 hD9 hS9 => ?_)
  clear hP hD hS
  obtain ⟨hP, hD⟩ := rgS14_947ddd8 (e := (a0, .inr (8, [.int 0, .int a0_1, .int a0_2, .int a0_3, .ref a0_4, .int a0_5, .int a0_6, .int a0_7, .int a0_8, .int a0_9, .int a0_10, .long a0_11, .int a0_12, .int a0_13, .int a0_14, .int a0_15, .int a0_16, .int a0_17, .ref a0_18, .ref a0_19, .ref a0_20, .ref a0_21, .ref a0_22, .ref a0_23, .ref a0_24, .ref a0_25, .ref a0_26, .ref a0_27, .ref a0_28, .ref a0_29, .ref a0_30, .ref a0_31, .ref a0_32, .ref a0_33, .ref a0_34, .ref a0_35, .long a0_36, .int a0_37, .ref a0_38, .ref a0_39, .int a0_40, .ref a0_41, .ref a0_42, .ref a0_43]))) hP9 hD9 rfl
  have hS := hS9; clear hP9 hD9 hS9
  refine lv_aload_n hx hb dX9_openWithout_5 rfl (lv_at hl 0 rfl) ?_
  have qc0 : (0 : Int32).toInt = 0 := by decide
  have hPc := hP
  have hKc := hK
  have hDc := hD
  have hFc := freeW hDc hS hA
  refine va_callv (va_runV (As := []) (rest := []) ⟨hx, hb, hml, hown, hts⟩ (k_X9_laysEnds l dC dI g H.size (a0) (0) (a0_1) (a0_2) (a0_3) (a0_4) (a0_5) (a0_6) (a0_7) (a0_8) (a0_9) (a0_10) (a0_11) (a0_12) (a0_13) (a0_14) (a0_15) (a0_16) (a0_17) (a0_18) (a0_19) (a0_20) (a0_21) (a0_22) (a0_23) (a0_24) (a0_25) (a0_26) (a0_27) (a0_28) (a0_29) (a0_30) (a0_31) (a0_32) (a0_33) (a0_34) (a0_35) (a0_36) (a0_37) (a0_38) (a0_39) (a0_40) (a0_41) (a0_42) (a0_43) (a0_20_c) (a0_20_f) (a0_21_c) (a0_21_f) (a0_23_c) (a0_23_f) (a0_26_c) (a0_26_f) (a0_29_c) (a0_29_f) (a0_30_c) (a0_30_f) (a0_31_c) (a0_31_f) (a0_32_c) (a0_32_f) (a0_33_c) (a0_33_f) (a0_34_c) (a0_34_f) (a0_35_c) (a0_35_f) (a0_38_c) (a0_38_f) (a0_43_c) (a0_43_f) (by omega) (by omega) (by omega) (by omega) (by omega) (by omega) (by omega) h_a0_20_f h_a0_21_f (by assumption) (by assumption)) (cwV 0 hts (gwV qw_630 qw_631 qw_632 qw_386 qw_629) rfl rfl rfl (by decide +kernel) ⟨Nat.le_of_ble_eq_true rfl, Nat.le_of_ble_eq_true rfl⟩) ⟨fun a U g9 mk q => ⟨q.1, q.2.1, q.2.2.1, va_K.moved (u := U) (U := U.calling g9 mk a) (Vm.Alike.refl U.vm) q.2.2.2.1, q.2.2.2.2.1, Ev.bl q.2.2.2.2.2⟩, va_recv hK hP (ci := 8) (q0 := 0) rfl rgL14_6e084ec, fun U hU hW => ⟨rfl, by rw [hU], atB hU hPc, va_K.moved hW.alike hKc, hDc.weaken (fun _ _ _ _ => trivial), hE.go hS hFc hU hW⟩⟩ rfl rfl hl.1 rfl (lv_room (Nat.le_of_ble_eq_true rfl)) dX9_openWithout_6 ⟨Nat.le_of_ble_eq_true rfl, Nat.le_of_ble_eq_true rfl⟩) hS (fun q _ h => hFc q h) hFc (fun u1 t H1 locs ht hvm h_u1 hB hz1 hk1 hS => ?_)
  obtain ⟨za0_1_3, za0_2_4, za0_3_5, za0_43_f_6, hP1, hK1, hD1⟩ := hB
  have hK1 := va_K.moved hvm.symm hK1
  have hJ9 := rgJ14_93bd4e1 hP hD hk1 hFc (atH ht hP1) hD1
  clear hP hD hPc hKc hDc hFc hP1 hD1 hk1 hz1
  obtain ⟨hP, hD⟩ := hJ9
  clear hK1
  generalize H1 = H at hP hS ⊢
  refine W.widen (k := 0) (n := 0) (Nat.le_of_ble_eq_true rfl) (Nat.le_of_ble_eq_true rfl) ?_
  refine lv_iload_n hx hb dX9_openWithout_9 rfl (lv_at hl 1 rfl) ?_
  refine lv_iload_n hx hb dX9_openWithout_10 rfl (lv_at hl 2 rfl) ?_
  have hPc := (rgP14_13c4e7a hP)
  have hKc := (rgK13_332f5b0 hK)
  refine vp_callSi ((va_runS (As := [.int a1, .int a2]) (rest := []) ⟨hx, hb, hml, hown, hts⟩ (k_X9_isAsked l dC dI g (a1) (a2) ) (va_cwS 2 hts (gwS qw_634 qw_635 qw_386 qw_633) rfl rfl rfl (by decide +kernel) ⟨Nat.le_of_ble_eq_true rfl, Nat.le_of_ble_eq_true rfl⟩) ⟨fun a U g9 mk q => ⟨q.1, q.2.1, va_K.moved (u := U) (U := U.calling g9 mk a) (Vm.Alike.refl U.vm) q.2.2.1, Ev.bl q.2.2.2⟩, fun U hU hW => ⟨rfl, atB hU hPc, va_K.moved hW.alike hKc, hE.go hS (fun _ h => h.elim) hU hW⟩⟩ rfl rfl hl.1 rfl (lv_room (Nat.le_of_ble_eq_true rfl)) dX9_openWithout_11 ⟨Nat.le_of_ble_eq_true rfl, Nat.le_of_ble_eq_true rfl⟩)).run (fun r7 h_r7 => ?_)
  have h_r7 : (r7 = 0 ∨ r7 = 1) := h_r7
  have b_r7 := z01 (show r7 = 0 ∨ r7 = 1 from h_r7)
  refine lv_if_eq (tgt := 50) hx hb dX9_openWithout_14 (by decide) (fun c14_8 => ?_) (fun c14_8 => ?_)
  · have c14_8 : r7.toInt = 0 := (cv_eq rfl (by decide)).mp c14_8
    refine lv_iconst (v := (-1)) hx hb dX9_openWithout_50 (by decide) ?_
    have qcm1 : ((-1) : Int32).toInt = (-1) := by decide
    have qc0 : (0 : Int32).toInt = 0 := by decide
    refine W.widen (k := 0) (n := 0) (Nat.le_of_ble_eq_true rfl) (Nat.le_of_ble_eq_true rfl) ?_
    have hP9 := hP
    have hD9 := hD
    have hK9 := (rgK13_332f5b0 hK)
    exact W.iret (v := (-1)) hx hb hr (fun t ht hW => ⟨⟨(-1), (-1), rfl, rfl, 0, za0_1_3, za0_2_4, za0_3_5, za0_43_f_6, atB ht hP9, va_K.moved hW.alike hK9, hD9⟩, hS.F ht⟩) hS.2.2 dX9_openWithout_51
  · have c14_8 : ¬ (r7.toInt = 0) := mt (cv_eq rfl (by decide)).mpr c14_8
    refine lv_iload_n hx hb dX9_openWithout_17 rfl (lv_at hl 3 rfl) ?_
    refine lv_i2l hx hb dX9_openWithout_18 rfl ?_
    refine lv_lconst (v := 0) hx hb dX9_openWithout_19 (by decide) ?_
    refine lv_iconst (v := 1) hx hb dX9_openWithout_20 (by decide) ?_
    refine lv_aload_n hx hb dX9_openWithout_21 rfl (lv_at hl 0 rfl) ?_
    refine va_get (D := (dC, dI)) (ci := 8) (v := .ref a0_21) (C := RX9) (T := TX9) (N := 44) hx hb hts inlX9 hown hK hP 0 rgL14_6e084ec rfl 21 (by decide) (hts (.fieldLink RX9 23 "ClosedUntilModel" "closures" "[I") qw_501) (fun _ h9 => h9) rfl dX9_openWithout_22 ?_
    refine lv_iconst (v := 0) hx hb dX9_openWithout_25 (by decide) ?_
    refine va_iald hx hb hK hP 2 1 rgL14_9aeb737 rgT13_9ecce0a (vin0 (by decide)) dX9_openWithout_26 ?_
    refine lv_topi (fun x9 e_x9 => ?_)
    have q_x9 : x9.toInt = (a0_21_f 0).toInt := congrArg Int32.toInt e_x9
    have b_x9 : 0 ≤ x9.toInt ∧ x9.toInt ≤ 12 := vr_at (lo := 0) (hi := 12) (f := a0_21_f) h_a0_21_f e_x9
    refine lv_ishl hx hb dX9_openWithout_27 ?_
    refine lv_topi (fun x10 e_x10 => ?_)
    refine lv_iconst (v := 1) hx hb dX9_openWithout_28 (by decide) ?_
    refine lv_isub hx hb dX9_openWithout_29 ?_
    refine lv_topi (fun x11 e_x11 => ?_)
    try have e_x11 := ti_sub e_x11 rfl (show (1 : Int32).toInt = 1 by decide) (by omega)
    refine lv_i2l hx hb dX9_openWithout_30 rfl ?_
    have hPc := (rgP14_13c4e7a hP)
    have hKc := (rgK13_332f5b0 hK)
    refine vp_callSi ((va_runS (As := [.long (a3.toInt64), .long 0, .long (x11.toInt64)]) (rest := []) ⟨hx, hb, hml, hown, hts⟩ (k_X9_within l dC dI g ((a3.toInt64)) (0) ((x11.toInt64)) (a3.toInt) (0) (x11.toInt) (w_li rfl) (by decide) (w_li rfl)) (va_cwS 3 hts (gwS qw_444 qw_445 qw_386 qw_443) rfl rfl rfl (by decide +kernel) ⟨Nat.le_of_ble_eq_true rfl, Nat.le_of_ble_eq_true rfl⟩) ⟨fun a U g9 mk q => ⟨q.1, q.2.1, va_K.moved (u := U) (U := U.calling g9 mk a) (Vm.Alike.refl U.vm) q.2.2.1, Ev.bl q.2.2.2⟩, fun U hU hW => ⟨rfl, atB hU hPc, va_K.moved hW.alike hKc, hE.go hS (fun _ h => h.elim) hU hW⟩⟩ rfl rfl hl.1 rfl (lv_room (Nat.le_of_ble_eq_true rfl)) dX9_openWithout_31 ⟨Nat.le_of_ble_eq_true rfl, Nat.le_of_ble_eq_true rfl⟩)).run (fun r12 h_r12 => ?_)
    have h_r12 : (r12 = 0 ∨ r12 = 1) ∧ ((r12.toInt = 1 ∧ 0 ≤ a3.toInt ∧ a3.toInt ≤ x11.toInt) ∨ (r12.toInt = 0 ∧ ¬ (0 ≤ a3.toInt ∧ a3.toInt ≤ x11.toInt))) := h_r12
    have b_r12 := z01 h_r12.1
    refine lv_if_eq (tgt := 50) hx hb dX9_openWithout_34 (by decide) (fun c34_13 => ?_) (fun c34_13 => ?_)
    · have c34_13 : r12.toInt = 0 := (cv_eq rfl (by decide)).mp c34_13
      refine lv_iconst (v := (-1)) hx hb dX9_openWithout_50 (by decide) ?_
      have qcm1 : ((-1) : Int32).toInt = (-1) := by decide
      have qc0 : (0 : Int32).toInt = 0 := by decide
      refine W.widen (k := 0) (n := 0) (Nat.le_of_ble_eq_true rfl) (Nat.le_of_ble_eq_true rfl) ?_
      have hP9 := hP
      have hD9 := hD
      have hK9 := (rgK13_332f5b0 hK)
      exact W.iret (v := (-1)) hx hb hr (fun t ht hW => ⟨⟨(-1), (-1), rfl, rfl, 0, za0_1_3, za0_2_4, za0_3_5, za0_43_f_6, atB ht hP9, va_K.moved hW.alike hK9, hD9⟩, hS.F ht⟩) hS.2.2 dX9_openWithout_51
    · have c34_13 : ¬ (r12.toInt = 0) := mt (cv_eq rfl (by decide)).mpr c34_13
      refine lv_aload_n hx hb dX9_openWithout_37 rfl (lv_at hl 0 rfl) ?_
      refine lv_iload_n hx hb dX9_openWithout_38 rfl (lv_at hl 1 rfl) ?_
      refine lv_iload_n hx hb dX9_openWithout_39 rfl (lv_at hl 2 rfl) ?_
      refine lv_iload_n hx hb dX9_openWithout_40 rfl (lv_at hl 3 rfl) ?_
      have qc0 : (0 : Int32).toInt = 0 := by decide
      have hPc := (rgP14_ae3a98f hP)
      have hKc := (rgK13_46755f9 hK)
      refine vp_callSi ((va_runV (As := [.int a1, .int a2, .int a3]) (rest := []) ⟨hx, hb, hml, hown, hts⟩ (k_X9_openOn l dC dI g (a0) (a1) (a2) (a3) (0) (za0_1_3) (za0_2_4) (za0_3_5) (a0_4) (a0_5) (a0_6) (a0_7) (a0_8) (a0_9) (a0_10) (a0_11) (a0_12) (a0_13) (a0_14) (a0_15) (a0_16) (a0_17) (a0_18) (a0_19) (a0_20) (a0_21) (a0_22) (a0_23) (a0_24) (a0_25) (a0_26) (a0_27) (a0_28) (a0_29) (a0_30) (a0_31) (a0_32) (a0_33) (a0_34) (a0_35) (a0_36) (a0_37) (a0_38) (a0_39) (a0_40) (a0_41) (a0_42) (a0_43) (a0_20_c) (a0_20_f) (a0_21_c) (a0_21_f) (a0_32_c) (a0_32_f) (a0_43_c) (za0_43_f_6) (by omega) (by omega) (by omega) (by omega) (by omega) (by omega) (by omega) h_a0_20_f h_a0_21_f) (cwV 3 hts (gwV qw_637 qw_638 qw_639 qw_386 qw_636) rfl rfl rfl (by decide +kernel) ⟨Nat.le_of_ble_eq_true rfl, Nat.le_of_ble_eq_true rfl⟩) ⟨fun a U g9 mk q => ⟨q.1, q.2.1, va_K.moved (u := U) (U := U.calling g9 mk a) (Vm.Alike.refl U.vm) q.2.2.1, Ev.bl q.2.2.2⟩, va_recv hK hP (ci := 8) (q0 := 0) rfl rgL14_6e084ec, fun U hU hW => ⟨rfl, atB hU hPc, va_K.moved hW.alike hKc, hE.go hS (fun _ h => h.elim) hU hW⟩⟩ rfl rfl hl.1 rfl (lv_room (Nat.le_of_ble_eq_true rfl)) dX9_openWithout_41 ⟨Nat.le_of_ble_eq_true rfl, Nat.le_of_ble_eq_true rfl⟩)).run (fun r14 h_r14 => ?_)
      have b_r14 := i32b r14
      have hPc := (rgP14_13c4e7a hP)
      have hKc := (rgK13_332f5b0 hK)
      refine vp_callSi ((va_runS (As := [.int r14]) (rest := []) ⟨hx, hb, hml, hown, hts⟩ (k_X9_count1 l dC dI g (r14) ) (va_cwS 1 hts (gwS qw_646 qw_647 qw_386 qw_645) rfl rfl rfl (by decide +kernel) ⟨Nat.le_of_ble_eq_true rfl, Nat.le_of_ble_eq_true rfl⟩) ⟨fun a U g9 mk q => ⟨q.1, q.2.1, va_K.moved (u := U) (U := U.calling g9 mk a) (Vm.Alike.refl U.vm) q.2.2.1, Ev.bl q.2.2.2⟩, fun U hU hW => ⟨rfl, atB hU hPc, va_K.moved hW.alike hKc, hE.go hS (fun _ h => h.elim) hU hW⟩⟩ rfl rfl hl.1 rfl (lv_room (Nat.le_of_ble_eq_true rfl)) dX9_openWithout_44 ⟨Nat.le_of_ble_eq_true rfl, Nat.le_of_ble_eq_true rfl⟩)).run (fun r15 h_r15 => ?_)
      have b_r15 := i32b r15
      refine lv_goto (tgt := 51) hx hb dX9_openWithout_47 (by decide) ?_
      have qc0 : (0 : Int32).toInt = 0 := by decide
      refine W.widen (k := 0) (n := 0) (Nat.le_of_ble_eq_true rfl) (Nat.le_of_ble_eq_true rfl) ?_
      have hP9 := hP
      have hD9 := hD
      have hK9 := (rgK13_332f5b0 hK)
      exact W.iret (v := r15) hx hb hr (fun t ht hW => ⟨⟨r15, r15, rfl, rfl, 0, za0_1_3, za0_2_4, za0_3_5, za0_43_f_6, atB ht hP9, va_K.moved hW.alike hK9, hD9⟩, hS.F ht⟩) hS.2.2 dX9_openWithout_51
