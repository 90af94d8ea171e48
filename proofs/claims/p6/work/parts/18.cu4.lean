theorem dX8_open_0 : decode cX8_open 0 = .ok (.iload_n 1, 1) := by decide +kernel
theorem dX8_open_1 : decode cX8_open 1 = .ok (.invokestatic 118, 3) := by decide +kernel
theorem dX8_open_4 : decode cX8_open 4 = .ok (.ifCond .eq 10, 3) := by decide +kernel
theorem dX8_open_7 : decode cX8_open 7 = .ok (.iload_n 2, 1) := by decide +kernel
theorem dX8_open_8 : decode cX8_open 8 = .ok (.invokestatic 194, 3) := by decide +kernel
theorem dX8_open_11 : decode cX8_open 11 = .ok (.ifCond .ne 5, 3) := by decide +kernel
theorem dX8_open_14 : decode cX8_open 14 = .ok (.iconst (-1), 1) := by decide +kernel
theorem dX8_open_15 : decode cX8_open 15 = .ok (.ireturn, 1) := by decide +kernel
theorem dX8_open_16 : decode cX8_open 16 = .ok (.aload_n 0, 1) := by decide +kernel
theorem dX8_open_17 : decode cX8_open 17 = .ok (.invokevirtual 141, 3) := by decide +kernel
theorem dX8_open_20 : decode cX8_open 20 = .ok (.iload_n 1, 1) := by decide +kernel
theorem dX8_open_21 : decode cX8_open 21 = .ok (.aload_n 0, 1) := by decide +kernel
theorem dX8_open_22 : decode cX8_open 22 = .ok (.getfield 51, 3) := by decide +kernel
theorem dX8_open_25 : decode cX8_open 25 = .ok (.iload_n 2, 1) := by decide +kernel
theorem dX8_open_26 : decode cX8_open 26 = .ok (.invokevirtual 197, 3) := by decide +kernel
theorem dX8_open_29 : decode cX8_open 29 = .ok (.invokevirtual 228, 3) := by decide +kernel
theorem dX8_open_32 : decode cX8_open 32 = .ok (.ireturn, 1) := by decide +kernel
theorem dX8_next_0 : decode cX8_next 0 = .ok (.iload_n 1, 1) := by decide +kernel
theorem dX8_next_1 : decode cX8_next 1 = .ok (.iconst (-1), 1) := by decide +kernel
theorem dX8_next_2 : decode cX8_next 2 = .ok (.if_icmp .eq 10, 3) := by decide +kernel
theorem dX8_next_5 : decode cX8_next 5 = .ok (.iload_n 1, 1) := by decide +kernel
theorem dX8_next_6 : decode cX8_next 6 = .ok (.invokestatic 118, 3) := by decide +kernel
theorem dX8_next_9 : decode cX8_next 9 = .ok (.ifCond .eq 7, 3) := by decide +kernel
theorem dX8_next_12 : decode cX8_next 12 = .ok (.iconst 1, 1) := by decide +kernel
theorem dX8_next_13 : decode cX8_next 13 = .ok (.goto 4, 3) := by decide +kernel
theorem dX8_next_16 : decode cX8_next 16 = .ok (.iconst 0, 1) := by decide +kernel
theorem dX8_next_17 : decode cX8_next 17 = .ok (.istore_n 3, 1) := by decide +kernel
theorem dX8_next_18 : decode cX8_next 18 = .ok (.iload_n 3, 1) := by decide +kernel
theorem dX8_next_19 : decode cX8_next 19 = .ok (.ifCond .eq 10, 3) := by decide +kernel
theorem dX8_next_22 : decode cX8_next 22 = .ok (.iload_n 2, 1) := by decide +kernel
theorem dX8_next_23 : decode cX8_next 23 = .ok (.invokestatic 194, 3) := by decide +kernel
theorem dX8_next_26 : decode cX8_next 26 = .ok (.ifCond .ne 5, 3) := by decide +kernel
theorem dX8_next_29 : decode cX8_next 29 = .ok (.iconst (-1), 1) := by decide +kernel
theorem dX8_next_30 : decode cX8_next 30 = .ok (.ireturn, 1) := by decide +kernel
theorem dX8_next_31 : decode cX8_next 31 = .ok (.aload_n 0, 1) := by decide +kernel
theorem dX8_next_32 : decode cX8_next 32 = .ok (.invokevirtual 141, 3) := by decide +kernel
theorem dX8_next_35 : decode cX8_next 35 = .ok (.astore 4, 2) := by decide +kernel
theorem dX8_next_37 : decode cX8_next 37 = .ok (.aload_n 0, 1) := by decide +kernel
theorem dX8_next_38 : decode cX8_next 38 = .ok (.getfield 51, 3) := by decide +kernel
theorem dX8_next_41 : decode cX8_next 41 = .ok (.iload_n 2, 1) := by decide +kernel
theorem dX8_next_42 : decode cX8_next 42 = .ok (.invokevirtual 197, 3) := by decide +kernel
theorem dX8_next_45 : decode cX8_next 45 = .ok (.istore 5, 2) := by decide +kernel
theorem dX8_next_47 : decode cX8_next 47 = .ok (.iconst (-1), 1) := by decide +kernel
theorem dX8_next_48 : decode cX8_next 48 = .ok (.istore 6, 2) := by decide +kernel
theorem dX8_next_50 : decode cX8_next 50 = .ok (.iconst 0, 1) := by decide +kernel
theorem dX8_next_51 : decode cX8_next 51 = .ok (.istore 7, 2) := by decide +kernel
theorem dX8_next_53 : decode cX8_next 53 = .ok (.iload 7, 2) := by decide +kernel
theorem dX8_next_55 : decode cX8_next 55 = .ok (.aload_n 0, 1) := by decide +kernel
theorem dX8_next_56 : decode cX8_next 56 = .ok (.getfield 51, 3) := by decide +kernel
theorem dX8_next_59 : decode cX8_next 59 = .ok (.getfield 203, 3) := by decide +kernel
theorem dX8_next_62 : decode cX8_next 62 = .ok (.if_icmp .ge 43, 3) := by decide +kernel
theorem dX8_next_65 : decode cX8_next 65 = .ok (.aload 4, 2) := by decide +kernel
theorem dX8_next_67 : decode cX8_next 67 = .ok (.iload 7, 2) := by decide +kernel
theorem dX8_next_69 : decode cX8_next 69 = .ok (.iload 5, 2) := by decide +kernel
theorem dX8_next_71 : decode cX8_next 71 = .ok (.invokevirtual 200, 3) := by decide +kernel
theorem dX8_next_74 : decode cX8_next 74 = .ok (.istore 8, 2) := by decide +kernel
theorem dX8_next_76 : decode cX8_next 76 = .ok (.iload 8, 2) := by decide +kernel
theorem dX8_next_78 : decode cX8_next 78 = .ok (.iload_n 1, 1) := by decide +kernel
theorem dX8_next_79 : decode cX8_next 79 = .ok (.if_icmp .le 20, 3) := by decide +kernel
theorem dX8_next_82 : decode cX8_next 82 = .ok (.iload 6, 2) := by decide +kernel
theorem dX8_next_84 : decode cX8_next 84 = .ok (.iconst (-1), 1) := by decide +kernel
theorem dX8_next_85 : decode cX8_next 85 = .ok (.if_icmp .eq 10, 3) := by decide +kernel
theorem dX8_next_88 : decode cX8_next 88 = .ok (.iload 8, 2) := by decide +kernel
theorem dX8_next_90 : decode cX8_next 90 = .ok (.iload 6, 2) := by decide +kernel
theorem dX8_next_92 : decode cX8_next 92 = .ok (.if_icmp .ge 7, 3) := by decide +kernel
theorem dX8_next_95 : decode cX8_next 95 = .ok (.iload 8, 2) := by decide +kernel
theorem dX8_next_97 : decode cX8_next 97 = .ok (.istore 6, 2) := by decide +kernel
theorem dX8_next_99 : decode cX8_next 99 = .ok (.iinc 7 1, 3) := by decide +kernel
theorem dX8_next_102 : decode cX8_next 102 = .ok (.goto (-49), 3) := by decide +kernel
theorem dX8_next_105 : decode cX8_next 105 = .ok (.iload 6, 2) := by decide +kernel
theorem dX8_next_107 : decode cX8_next 107 = .ok (.ireturn, 1) := by decide +kernel
theorem dX8_listed_0 : decode cX8_listed 0 = .ok (.aload_n 0, 1) := by decide +kernel
theorem dX8_listed_1 : decode cX8_listed 1 = .ok (.getfield 51, 3) := by decide +kernel
theorem dX8_listed_4 : decode cX8_listed 4 = .ok (.iload_n 1, 1) := by decide +kernel
theorem dX8_listed_5 : decode cX8_listed 5 = .ok (.invokevirtual 125, 3) := by decide +kernel
theorem dX8_listed_8 : decode cX8_listed 8 = .ok (.ifCond .eq 10, 3) := by decide +kernel
theorem dX8_listed_11 : decode cX8_listed 11 = .ok (.iload_n 2, 1) := by decide +kernel
theorem dX8_listed_12 : decode cX8_listed 12 = .ok (.invokestatic 194, 3) := by decide +kernel
theorem dX8_listed_15 : decode cX8_listed 15 = .ok (.ifCond .ne 5, 3) := by decide +kernel
theorem dX8_listed_18 : decode cX8_listed 18 = .ok (.iconst (-1), 1) := by decide +kernel
theorem dX8_listed_19 : decode cX8_listed 19 = .ok (.ireturn, 1) := by decide +kernel
theorem dX8_listed_20 : decode cX8_listed 20 = .ok (.aload_n 0, 1) := by decide +kernel
theorem dX8_listed_21 : decode cX8_listed 21 = .ok (.invokevirtual 141, 3) := by decide +kernel
theorem dX8_listed_24 : decode cX8_listed 24 = .ok (.iload_n 1, 1) := by decide +kernel
theorem dX8_listed_25 : decode cX8_listed 25 = .ok (.aload_n 0, 1) := by decide +kernel
theorem dX8_listed_26 : decode cX8_listed 26 = .ok (.getfield 51, 3) := by decide +kernel
theorem dX8_listed_29 : decode cX8_listed 29 = .ok (.iload_n 2, 1) := by decide +kernel
theorem dX8_listed_30 : decode cX8_listed 30 = .ok (.invokevirtual 197, 3) := by decide +kernel
theorem dX8_listed_33 : decode cX8_listed 33 = .ok (.invokevirtual 231, 3) := by decide +kernel
theorem dX8_listed_36 : decode cX8_listed 36 = .ok (.ireturn, 1) := by decide +kernel
theorem dX8_mustGo_0 : decode cX8_mustGo 0 = .ok (.aload_n 0, 1) := by decide +kernel
theorem dX8_mustGo_1 : decode cX8_mustGo 1 = .ok (.getfield 51, 3) := by decide +kernel
theorem dX8_mustGo_4 : decode cX8_mustGo 4 = .ok (.iload_n 1, 1) := by decide +kernel
theorem dX8_mustGo_5 : decode cX8_mustGo 5 = .ok (.invokevirtual 125, 3) := by decide +kernel
theorem dX8_mustGo_8 : decode cX8_mustGo 8 = .ok (.ifCond .eq 17, 3) := by decide +kernel
theorem dX8_mustGo_11 : decode cX8_mustGo 11 = .ok (.iload_n 2, 1) := by decide +kernel
theorem dX8_mustGo_12 : decode cX8_mustGo 12 = .ok (.invokestatic 118, 3) := by decide +kernel
theorem dX8_mustGo_15 : decode cX8_mustGo 15 = .ok (.ifCond .eq 10, 3) := by decide +kernel
theorem dX8_mustGo_18 : decode cX8_mustGo 18 = .ok (.iload_n 3, 1) := by decide +kernel
theorem dX8_mustGo_19 : decode cX8_mustGo 19 = .ok (.invokestatic 194, 3) := by decide +kernel
theorem dX8_mustGo_22 : decode cX8_mustGo 22 = .ok (.ifCond .ne 5, 3) := by decide +kernel
theorem dX8_mustGo_25 : decode cX8_mustGo 25 = .ok (.iconst (-1), 1) := by decide +kernel
theorem dX8_mustGo_26 : decode cX8_mustGo 26 = .ok (.ireturn, 1) := by decide +kernel
theorem dX8_mustGo_27 : decode cX8_mustGo 27 = .ok (.aload_n 0, 1) := by decide +kernel
theorem dX8_mustGo_28 : decode cX8_mustGo 28 = .ok (.invokevirtual 141, 3) := by decide +kernel
theorem dX8_mustGo_31 : decode cX8_mustGo 31 = .ok (.astore 4, 2) := by decide +kernel
theorem dX8_mustGo_33 : decode cX8_mustGo 33 = .ok (.aload_n 0, 1) := by decide +kernel
theorem dX8_mustGo_34 : decode cX8_mustGo 34 = .ok (.getfield 51, 3) := by decide +kernel
theorem dX8_mustGo_37 : decode cX8_mustGo 37 = .ok (.iload_n 3, 1) := by decide +kernel
theorem dX8_mustGo_38 : decode cX8_mustGo 38 = .ok (.invokevirtual 197, 3) := by decide +kernel
theorem dX8_mustGo_41 : decode cX8_mustGo 41 = .ok (.istore 5, 2) := by decide +kernel
theorem dX8_mustGo_43 : decode cX8_mustGo 43 = .ok (.iconst 0, 1) := by decide +kernel
theorem dX8_mustGo_44 : decode cX8_mustGo 44 = .ok (.istore 6, 2) := by decide +kernel
theorem dX8_mustGo_46 : decode cX8_mustGo 46 = .ok (.iconst 0, 1) := by decide +kernel
theorem dX8_mustGo_47 : decode cX8_mustGo 47 = .ok (.istore 7, 2) := by decide +kernel
theorem dX8_mustGo_49 : decode cX8_mustGo 49 = .ok (.iload 7, 2) := by decide +kernel
theorem dX8_mustGo_51 : decode cX8_mustGo 51 = .ok (.aload_n 0, 1) := by decide +kernel
theorem dX8_mustGo_52 : decode cX8_mustGo 52 = .ok (.getfield 51, 3) := by decide +kernel
theorem dX8_mustGo_55 : decode cX8_mustGo 55 = .ok (.getfield 203, 3) := by decide +kernel
theorem dX8_mustGo_58 : decode cX8_mustGo 58 = .ok (.if_icmp .ge 39, 3) := by decide +kernel
theorem dX8_mustGo_61 : decode cX8_mustGo 61 = .ok (.aload 4, 2) := by decide +kernel
theorem dX8_mustGo_63 : decode cX8_mustGo 63 = .ok (.getfield 145, 3) := by decide +kernel
theorem dX8_mustGo_66 : decode cX8_mustGo 66 = .ok (.iload_n 1, 1) := by decide +kernel
theorem dX8_mustGo_67 : decode cX8_mustGo 67 = .ok (.iaload, 1) := by decide +kernel
theorem dX8_mustGo_68 : decode cX8_mustGo 68 = .ok (.iload 7, 2) := by decide +kernel
theorem dX8_mustGo_70 : decode cX8_mustGo 70 = .ok (.invokestatic 206, 3) := by decide +kernel
theorem dX8_mustGo_73 : decode cX8_mustGo 73 = .ok (.ifCond .eq 18, 3) := by decide +kernel
theorem dX8_mustGo_76 : decode cX8_mustGo 76 = .ok (.iload 6, 2) := by decide +kernel
theorem dX8_mustGo_78 : decode cX8_mustGo 78 = .ok (.aload 4, 2) := by decide +kernel
theorem dX8_mustGo_80 : decode cX8_mustGo 80 = .ok (.iload 7, 2) := by decide +kernel
theorem dX8_mustGo_82 : decode cX8_mustGo 82 = .ok (.iload_n 2, 1) := by decide +kernel
theorem dX8_mustGo_83 : decode cX8_mustGo 83 = .ok (.iload 5, 2) := by decide +kernel
theorem dX8_mustGo_85 : decode cX8_mustGo 85 = .ok (.invokevirtual 218, 3) := by decide +kernel
theorem dX8_mustGo_88 : decode cX8_mustGo 88 = .ok (.ior, 1) := by decide +kernel
theorem dX8_mustGo_89 : decode cX8_mustGo 89 = .ok (.istore 6, 2) := by decide +kernel
theorem dX8_mustGo_91 : decode cX8_mustGo 91 = .ok (.iinc 7 1, 3) := by decide +kernel
theorem dX8_mustGo_94 : decode cX8_mustGo 94 = .ok (.goto (-45), 3) := by decide +kernel
theorem dX8_mustGo_97 : decode cX8_mustGo 97 = .ok (.iload 6, 2) := by decide +kernel
theorem dX8_mustGo_99 : decode cX8_mustGo 99 = .ok (.ireturn, 1) := by decide +kernel
theorem dX8_best_0 : decode cX8_best 0 = .ok (.iload_n 1, 1) := by decide +kernel
theorem dX8_best_1 : decode cX8_best 1 = .ok (.invokestatic 118, 3) := by decide +kernel
theorem dX8_best_4 : decode cX8_best 4 = .ok (.ifCond .eq 19, 3) := by decide +kernel
theorem dX8_best_7 : decode cX8_best 7 = .ok (.iload_n 2, 1) := by decide +kernel
theorem dX8_best_8 : decode cX8_best 8 = .ok (.invokestatic 194, 3) := by decide +kernel
theorem dX8_best_11 : decode cX8_best 11 = .ok (.ifCond .eq 12, 3) := by decide +kernel
theorem dX8_best_14 : decode cX8_best 14 = .ok (.iload_n 3, 1) := by decide +kernel
theorem dX8_best_15 : decode cX8_best 15 = .ok (.ifCond .lt 8, 3) := by decide +kernel
theorem dX8_best_18 : decode cX8_best 18 = .ok (.iload_n 3, 1) := by decide +kernel
theorem dX8_best_19 : decode cX8_best 19 = .ok (.iconst 3, 1) := by decide +kernel
theorem dX8_best_20 : decode cX8_best 20 = .ok (.if_icmp .le 5, 3) := by decide +kernel
theorem dX8_best_23 : decode cX8_best 23 = .ok (.iconst (-1), 1) := by decide +kernel
theorem dX8_best_24 : decode cX8_best 24 = .ok (.ireturn, 1) := by decide +kernel
theorem dX8_best_25 : decode cX8_best 25 = .ok (.aload_n 0, 1) := by decide +kernel
theorem dX8_best_26 : decode cX8_best 26 = .ok (.invokevirtual 141, 3) := by decide +kernel
theorem dX8_best_29 : decode cX8_best 29 = .ok (.iload_n 1, 1) := by decide +kernel
theorem dX8_best_30 : decode cX8_best 30 = .ok (.aload_n 0, 1) := by decide +kernel
theorem dX8_best_31 : decode cX8_best 31 = .ok (.getfield 51, 3) := by decide +kernel
theorem dX8_best_34 : decode cX8_best 34 = .ok (.iload_n 2, 1) := by decide +kernel
theorem dX8_best_35 : decode cX8_best 35 = .ok (.invokevirtual 197, 3) := by decide +kernel
theorem dX8_best_38 : decode cX8_best 38 = .ok (.iload_n 3, 1) := by decide +kernel
theorem dX8_best_39 : decode cX8_best 39 = .ok (.invokevirtual 234, 3) := by decide +kernel
theorem dX8_best_42 : decode cX8_best 42 = .ok (.ireturn, 1) := by decide +kernel
theorem dX8_openWithout_0 : decode cX8_openWithout 0 = .ok (.iload_n 3, 1) := by decide +kernel
theorem dX8_openWithout_1 : decode cX8_openWithout 1 = .ok (.ifCond .lt 20, 3) := by decide +kernel
theorem dX8_openWithout_4 : decode cX8_openWithout 4 = .ok (.iload_n 3, 1) := by decide +kernel
theorem dX8_openWithout_5 : decode cX8_openWithout 5 = .ok (.iconst 1, 1) := by decide +kernel
theorem dX8_openWithout_6 : decode cX8_openWithout 6 = .ok (.aload_n 0, 1) := by decide +kernel
theorem dX8_openWithout_7 : decode cX8_openWithout 7 = .ok (.getfield 51, 3) := by decide +kernel
theorem dX8_openWithout_10 : decode cX8_openWithout 10 = .ok (.getfield 215, 3) := by decide +kernel
theorem dX8_openWithout_13 : decode cX8_openWithout 13 = .ok (.ishl, 1) := by decide +kernel
theorem dX8_openWithout_14 : decode cX8_openWithout 14 = .ok (.if_icmp .ge 7, 3) := by decide +kernel
theorem dX8_openWithout_17 : decode cX8_openWithout 17 = .ok (.iconst 1, 1) := by decide +kernel
theorem dX8_openWithout_18 : decode cX8_openWithout 18 = .ok (.goto 4, 3) := by decide +kernel
theorem dX8_openWithout_21 : decode cX8_openWithout 21 = .ok (.iconst 0, 1) := by decide +kernel
theorem dX8_openWithout_22 : decode cX8_openWithout 22 = .ok (.istore 4, 2) := by decide +kernel
theorem dX8_openWithout_24 : decode cX8_openWithout 24 = .ok (.iload 4, 2) := by decide +kernel
theorem dX8_openWithout_26 : decode cX8_openWithout 26 = .ok (.ifCond .eq 17, 3) := by decide +kernel
theorem dX8_openWithout_29 : decode cX8_openWithout 29 = .ok (.iload_n 1, 1) := by decide +kernel
theorem dX8_openWithout_30 : decode cX8_openWithout 30 = .ok (.invokestatic 118, 3) := by decide +kernel
theorem dX8_openWithout_33 : decode cX8_openWithout 33 = .ok (.ifCond .eq 10, 3) := by decide +kernel
theorem dX8_openWithout_36 : decode cX8_openWithout 36 = .ok (.iload_n 2, 1) := by decide +kernel
theorem dX8_openWithout_37 : decode cX8_openWithout 37 = .ok (.invokestatic 194, 3) := by decide +kernel
theorem dX8_openWithout_40 : decode cX8_openWithout 40 = .ok (.ifCond .ne 5, 3) := by decide +kernel
theorem dX8_openWithout_43 : decode cX8_openWithout 43 = .ok (.iconst (-1), 1) := by decide +kernel
theorem dX8_openWithout_44 : decode cX8_openWithout 44 = .ok (.ireturn, 1) := by decide +kernel
theorem dX8_openWithout_45 : decode cX8_openWithout 45 = .ok (.aload_n 0, 1) := by decide +kernel
theorem dX8_openWithout_46 : decode cX8_openWithout 46 = .ok (.invokevirtual 141, 3) := by decide +kernel
theorem dX8_openWithout_49 : decode cX8_openWithout 49 = .ok (.iload_n 1, 1) := by decide +kernel
theorem dX8_openWithout_50 : decode cX8_openWithout 50 = .ok (.aload_n 0, 1) := by decide +kernel
theorem dX8_openWithout_51 : decode cX8_openWithout 51 = .ok (.getfield 51, 3) := by decide +kernel
theorem dX8_openWithout_54 : decode cX8_openWithout 54 = .ok (.iload_n 2, 1) := by decide +kernel
theorem dX8_openWithout_55 : decode cX8_openWithout 55 = .ok (.invokevirtual 197, 3) := by decide +kernel
theorem dX8_openWithout_58 : decode cX8_openWithout 58 = .ok (.iload_n 3, 1) := by decide +kernel
theorem dX8_openWithout_59 : decode cX8_openWithout 59 = .ok (.iconst (-1), 1) := by decide +kernel
theorem dX8_openWithout_60 : decode cX8_openWithout 60 = .ok (.ixor, 1) := by decide +kernel
theorem dX8_openWithout_61 : decode cX8_openWithout 61 = .ok (.iand, 1) := by decide +kernel
theorem dX8_openWithout_62 : decode cX8_openWithout 62 = .ok (.invokevirtual 228, 3) := by decide +kernel
theorem dX8_openWithout_65 : decode cX8_openWithout 65 = .ok (.invokestatic 237, 3) := by decide +kernel
theorem dX8_openWithout_68 : decode cX8_openWithout 68 = .ok (.ireturn, 1) := by decide +kernel
theorem dX8_put_0 : decode cX8_put 0 = .ok (.iload_n 2, 1) := by decide +kernel
theorem dX8_put_1 : decode cX8_put 1 = .ok (.iconst (-1), 1) := by decide +kernel
theorem dX8_put_2 : decode cX8_put 2 = .ok (.if_icmp .eq 14, 3) := by decide +kernel
theorem dX8_put_5 : decode cX8_put 5 = .ok (.aload_n 0, 1) := by decide +kernel
theorem dX8_put_6 : decode cX8_put 6 = .ok (.getfield 51, 3) := by decide +kernel
theorem dX8_put_9 : decode cX8_put 9 = .ok (.iload_n 2, 1) := by decide +kernel
theorem dX8_put_10 : decode cX8_put 10 = .ok (.invokevirtual 125, 3) := by decide +kernel
theorem dX8_put_13 : decode cX8_put 13 = .ok (.ifCond .eq 7, 3) := by decide +kernel
theorem dX8_put_16 : decode cX8_put 16 = .ok (.iconst 1, 1) := by decide +kernel
theorem dX8_put_17 : decode cX8_put 17 = .ok (.goto 4, 3) := by decide +kernel
theorem dX8_put_20 : decode cX8_put 20 = .ok (.iconst 0, 1) := by decide +kernel
theorem dX8_put_21 : decode cX8_put 21 = .ok (.istore_n 3, 1) := by decide +kernel
theorem dX8_put_22 : decode cX8_put 22 = .ok (.iload_n 3, 1) := by decide +kernel
theorem dX8_put_23 : decode cX8_put 23 = .ok (.ifCond .eq 14, 3) := by decide +kernel
theorem dX8_put_26 : decode cX8_put 26 = .ok (.aload_n 0, 1) := by decide +kernel
theorem dX8_put_27 : decode cX8_put 27 = .ok (.getfield 51, 3) := by decide +kernel
theorem dX8_put_30 : decode cX8_put 30 = .ok (.iload_n 1, 1) := by decide +kernel
theorem dX8_put_31 : decode cX8_put 31 = .ok (.invokevirtual 125, 3) := by decide +kernel
theorem dX8_put_34 : decode cX8_put 34 = .ok (.ifCond .ne 6, 3) := by decide +kernel
theorem dX8_put_37 : decode cX8_put 37 = .ok (.bipush (-2), 2) := by decide +kernel
theorem dX8_put_39 : decode cX8_put 39 = .ok (.ireturn, 1) := by decide +kernel
theorem dX8_put_40 : decode cX8_put 40 = .ok (.iload_n 2, 1) := by decide +kernel
theorem dX8_put_41 : decode cX8_put 41 = .ok (.iconst (-1), 1) := by decide +kernel
theorem dX8_put_42 : decode cX8_put 42 = .ok (.if_icmp .eq 22, 3) := by decide +kernel
theorem dX8_put_45 : decode cX8_put 45 = .ok (.aload_n 0, 1) := by decide +kernel
theorem dX8_put_46 : decode cX8_put 46 = .ok (.invokevirtual 141, 3) := by decide +kernel
theorem dX8_put_49 : decode cX8_put 49 = .ok (.getfield 145, 3) := by decide +kernel
theorem dX8_put_52 : decode cX8_put 52 = .ok (.iload_n 1, 1) := by decide +kernel
theorem dX8_put_53 : decode cX8_put 53 = .ok (.iaload, 1) := by decide +kernel
theorem dX8_put_54 : decode cX8_put 54 = .ok (.iload_n 2, 1) := by decide +kernel
theorem dX8_put_55 : decode cX8_put 55 = .ok (.invokestatic 206, 3) := by decide +kernel
theorem dX8_put_58 : decode cX8_put 58 = .ok (.ifCond .eq 6, 3) := by decide +kernel
theorem dX8_put_61 : decode cX8_put 61 = .ok (.bipush (-2), 2) := by decide +kernel
theorem dX8_put_63 : decode cX8_put 63 = .ok (.ireturn, 1) := by decide +kernel
theorem dX8_put_64 : decode cX8_put 64 = .ok (.aload_n 0, 1) := by decide +kernel
theorem dX8_put_65 : decode cX8_put 65 = .ok (.getfield 58, 3) := by decide +kernel
theorem dX8_put_68 : decode cX8_put 68 = .ok (.getfield 128, 3) := by decide +kernel
theorem dX8_put_71 : decode cX8_put 71 = .ok (.iload_n 1, 1) := by decide +kernel
theorem dX8_put_72 : decode cX8_put 72 = .ok (.iaload, 1) := by decide +kernel
theorem dX8_put_73 : decode cX8_put 73 = .ok (.istore 4, 2) := by decide +kernel
theorem dX8_put_75 : decode cX8_put 75 = .ok (.aload_n 0, 1) := by decide +kernel
theorem dX8_put_76 : decode cX8_put 76 = .ok (.getfield 58, 3) := by decide +kernel
theorem dX8_put_79 : decode cX8_put 79 = .ok (.getfield 128, 3) := by decide +kernel
theorem dX8_put_82 : decode cX8_put 82 = .ok (.iload_n 1, 1) := by decide +kernel
theorem dX8_put_83 : decode cX8_put 83 = .ok (.iload_n 2, 1) := by decide +kernel
theorem dX8_put_84 : decode cX8_put 84 = .ok (.iastore, 1) := by decide +kernel
theorem dX8_put_85 : decode cX8_put 85 = .ok (.aload_n 0, 1) := by decide +kernel
theorem dX8_put_86 : decode cX8_put 86 = .ok (.iconst 3, 1) := by decide +kernel
theorem dX8_put_87 : decode cX8_put 87 = .ok (.iload_n 1, 1) := by decide +kernel
theorem dX8_put_88 : decode cX8_put 88 = .ok (.iload 4, 2) := by decide +kernel
theorem dX8_put_90 : decode cX8_put 90 = .ok (.invokevirtual 245, 3) := by decide +kernel
theorem dX8_put_93 : decode cX8_put 93 = .ok (.iload 4, 2) := by decide +kernel
theorem dX8_put_95 : decode cX8_put 95 = .ok (.ireturn, 1) := by decide +kernel
theorem dJ6_bitCount_0f7a4_0 : decode cJ6_bitCount_0f7a4 0 = .ok (.iload_n 0, 1) := by decide +kernel
theorem dJ6_bitCount_0f7a4_1 : decode cJ6_bitCount_0f7a4 1 = .ok (.iload_n 0, 1) := by decide +kernel
theorem dJ6_bitCount_0f7a4_2 : decode cJ6_bitCount_0f7a4 2 = .ok (.iconst 1, 1) := by decide +kernel
theorem dJ6_bitCount_0f7a4_3 : decode cJ6_bitCount_0f7a4 3 = .ok (.iushr, 1) := by decide +kernel
theorem dJ6_bitCount_0f7a4_4 : decode cJ6_bitCount_0f7a4 4 = .ok (.ldc_w 265, 3) := by decide +kernel
theorem dJ6_bitCount_0f7a4_7 : decode cJ6_bitCount_0f7a4 7 = .ok (.iand, 1) := by decide +kernel
theorem dJ6_bitCount_0f7a4_8 : decode cJ6_bitCount_0f7a4 8 = .ok (.isub, 1) := by decide +kernel
theorem dJ6_bitCount_0f7a4_9 : decode cJ6_bitCount_0f7a4 9 = .ok (.istore_n 0, 1) := by decide +kernel
theorem dJ6_bitCount_0f7a4_10 : decode cJ6_bitCount_0f7a4 10 = .ok (.iload_n 0, 1) := by decide +kernel
theorem dJ6_bitCount_0f7a4_11 : decode cJ6_bitCount_0f7a4 11 = .ok (.ldc_w 266, 3) := by decide +kernel
theorem dJ6_bitCount_0f7a4_14 : decode cJ6_bitCount_0f7a4 14 = .ok (.iand, 1) := by decide +kernel
theorem dJ6_bitCount_0f7a4_15 : decode cJ6_bitCount_0f7a4 15 = .ok (.iload_n 0, 1) := by decide +kernel
theorem dJ6_bitCount_0f7a4_16 : decode cJ6_bitCount_0f7a4 16 = .ok (.iconst 2, 1) := by decide +kernel
theorem dJ6_bitCount_0f7a4_17 : decode cJ6_bitCount_0f7a4 17 = .ok (.iushr, 1) := by decide +kernel
theorem dJ6_bitCount_0f7a4_18 : decode cJ6_bitCount_0f7a4 18 = .ok (.ldc_w 266, 3) := by decide +kernel
theorem dJ6_bitCount_0f7a4_21 : decode cJ6_bitCount_0f7a4 21 = .ok (.iand, 1) := by decide +kernel
theorem dJ6_bitCount_0f7a4_22 : decode cJ6_bitCount_0f7a4 22 = .ok (.iadd, 1) := by decide +kernel
theorem dJ6_bitCount_0f7a4_23 : decode cJ6_bitCount_0f7a4 23 = .ok (.istore_n 0, 1) := by decide +kernel
theorem dJ6_bitCount_0f7a4_24 : decode cJ6_bitCount_0f7a4 24 = .ok (.iload_n 0, 1) := by decide +kernel
theorem dJ6_bitCount_0f7a4_25 : decode cJ6_bitCount_0f7a4 25 = .ok (.iload_n 0, 1) := by decide +kernel
theorem dJ6_bitCount_0f7a4_26 : decode cJ6_bitCount_0f7a4 26 = .ok (.iconst 4, 1) := by decide +kernel
theorem dJ6_bitCount_0f7a4_27 : decode cJ6_bitCount_0f7a4 27 = .ok (.iushr, 1) := by decide +kernel
theorem dJ6_bitCount_0f7a4_28 : decode cJ6_bitCount_0f7a4 28 = .ok (.iadd, 1) := by decide +kernel
theorem dJ6_bitCount_0f7a4_29 : decode cJ6_bitCount_0f7a4 29 = .ok (.ldc_w 267, 3) := by decide +kernel
theorem dJ6_bitCount_0f7a4_32 : decode cJ6_bitCount_0f7a4 32 = .ok (.iand, 1) := by decide +kernel
theorem dJ6_bitCount_0f7a4_33 : decode cJ6_bitCount_0f7a4 33 = .ok (.istore_n 0, 1) := by decide +kernel
theorem dJ6_bitCount_0f7a4_34 : decode cJ6_bitCount_0f7a4 34 = .ok (.iload_n 0, 1) := by decide +kernel
theorem dJ6_bitCount_0f7a4_35 : decode cJ6_bitCount_0f7a4 35 = .ok (.iload_n 0, 1) := by decide +kernel
theorem dJ6_bitCount_0f7a4_36 : decode cJ6_bitCount_0f7a4 36 = .ok (.bipush 8, 2) := by decide +kernel
theorem dJ6_bitCount_0f7a4_38 : decode cJ6_bitCount_0f7a4 38 = .ok (.iushr, 1) := by decide +kernel
theorem dJ6_bitCount_0f7a4_39 : decode cJ6_bitCount_0f7a4 39 = .ok (.iadd, 1) := by decide +kernel
theorem dJ6_bitCount_0f7a4_40 : decode cJ6_bitCount_0f7a4 40 = .ok (.istore_n 0, 1) := by decide +kernel
theorem dJ6_bitCount_0f7a4_41 : decode cJ6_bitCount_0f7a4 41 = .ok (.iload_n 0, 1) := by decide +kernel
theorem dJ6_bitCount_0f7a4_42 : decode cJ6_bitCount_0f7a4 42 = .ok (.iload_n 0, 1) := by decide +kernel
theorem dJ6_bitCount_0f7a4_43 : decode cJ6_bitCount_0f7a4 43 = .ok (.bipush 16, 2) := by decide +kernel
theorem dJ6_bitCount_0f7a4_45 : decode cJ6_bitCount_0f7a4 45 = .ok (.iushr, 1) := by decide +kernel
theorem dJ6_bitCount_0f7a4_46 : decode cJ6_bitCount_0f7a4 46 = .ok (.iadd, 1) := by decide +kernel
theorem dJ6_bitCount_0f7a4_47 : decode cJ6_bitCount_0f7a4 47 = .ok (.istore_n 0, 1) := by decide +kernel
theorem dJ6_bitCount_0f7a4_48 : decode cJ6_bitCount_0f7a4 48 = .ok (.iload_n 0, 1) := by decide +kernel
theorem dJ6_bitCount_0f7a4_49 : decode cJ6_bitCount_0f7a4 49 = .ok (.bipush 63, 2) := by decide +kernel
theorem dJ6_bitCount_0f7a4_51 : decode cJ6_bitCount_0f7a4 51 = .ok (.iand, 1) := by decide +kernel
theorem dJ6_bitCount_0f7a4_52 : decode cJ6_bitCount_0f7a4 52 = .ok (.ireturn, 1) := by decide +kernel
theorem qw_333 : (Cond.code yX6_openOn cX6_openOn 5 (some .int) : Cond) ∈ TBL := List.mem_of_getElem? (i := 781) (by decide +kernel)
theorem qw_334 : (Cond.instanceMethod yX6_openOn : Cond) ∈ TBL := List.mem_of_getElem? (i := 779) (by decide +kernel)
theorem qw_335 : (Cond.selects RX6 yX6_openOn yX6_openOn : Cond) ∈ TBL := List.mem_of_getElem? (i := 780) (by decide +kernel)
theorem qw_336 : (Cond.code yX6_pieceAt cX6_pieceAt 6 (some .int) : Cond) ∈ TBL := List.mem_of_getElem? (i := 809) (by decide +kernel)
theorem qw_337 : (Cond.instanceMethod yX6_pieceAt : Cond) ∈ TBL := List.mem_of_getElem? (i := 807) (by decide +kernel)
theorem qw_338 : (Cond.selects RX6 yX6_pieceAt yX6_pieceAt : Cond) ∈ TBL := List.mem_of_getElem? (i := 808) (by decide +kernel)
theorem qw_339 : (Cond.code yX6_bestToLift cX6_bestToLift 10 (some .int) : Cond) ∈ TBL := List.mem_of_getElem? (i := 837) (by decide +kernel)
theorem qw_340 : (Cond.instanceMethod yX6_bestToLift : Cond) ∈ TBL := List.mem_of_getElem? (i := 835) (by decide +kernel)
theorem qw_341 : (Cond.selects RX6 yX6_bestToLift yX6_bestToLift : Cond) ∈ TBL := List.mem_of_getElem? (i := 836) (by decide +kernel)
theorem qw_342 : (Cond.constant RJ6 265 (1431655765) : Cond) ∈ TBL := List.mem_of_getElem? (i := 864) (by decide +kernel)
theorem qw_343 : (Cond.constant RJ6 266 (858993459) : Cond) ∈ TBL := List.mem_of_getElem? (i := 865) (by decide +kernel)
theorem qw_344 : (Cond.constant RJ6 267 (252645135) : Cond) ∈ TBL := List.mem_of_getElem? (i := 866) (by decide +kernel)
theorem qw_345 : (Cond.code yJ6_bitCount_0f7a4 cJ6_bitCount_0f7a4 1 (some .int) : Cond) ∈ TBL := List.mem_of_getElem? (i := 863) (by decide +kernel)
theorem qw_346 : (Cond.methodLink RX8 237 yJ6_bitCount_0f7a4 : Cond) ∈ TBL := List.mem_of_getElem? (i := 861) (by decide +kernel)
theorem qw_347 : (Cond.static yJ6_bitCount_0f7a4 : Cond) ∈ TBL := List.mem_of_getElem? (i := 862) (by decide +kernel)
theorem rgL25_87334e9 {c0 c1 c2 c3 c4 c5 c6 c7 c8 c9 c10 c11 c12 c13 c14 c15 c16 c17 c18 c19 c20 c21 c22 c23 c24 : Nat × va_E} {R : va_W} : (([c0, c1, c2, c3, c4, c5, c6, c7, c8, c9, c10, c11, c12, c13, c14, c15, c16, c17, c18, c19, c20, c21, c22, c23, c24] ++ R : va_W))[0]? = some c0 := rfl
theorem rgP25_2037506 {D : va_G} {cl : List vw_C} {H : Heap} {c0 c1 c2 c3 c4 c5 c6 c7 c8 c9 c10 c11 c12 c13 c14 c15 c16 c17 c18 c19 c20 c21 c22 c23 c24 : Nat × va_E} {R : va_W} (h : va_P D cl ([c0, c1, c2, c3, c4, c5, c6, c7, c8, c9, c10, c11, c12, c13, c14, c15, c16, c17, c18, c19, c20, c21, c22, c23, c24] ++ R) H) : va_P D cl ([c7]) H := h.sub (ws' := [c7]) [7] rfl
theorem rgK22_e8c0e9b {D : va_G} {cl : List vw_C} {U : State} {t0 t1 t2 t3 t4 t5 t6 t7 t8 t9 t10 t11 t12 t13 t14 t15 t16 t17 t18 t19 t20 t21 : ClassId × FieldType} (h : va_K D cl [t0, t1, t2, t3, t4, t5, t6, t7, t8, t9, t10, t11, t12, t13, t14, t15, t16, t17, t18, t19, t20, t21] U) : va_K D cl [] U := h.sub (tys' := []) [] rfl
theorem rgL25_bf1b5b5 {c0 c1 c2 c3 c4 c5 c6 c7 c8 c9 c10 c11 c12 c13 c14 c15 c16 c17 c18 c19 c20 c21 c22 c23 c24 : Nat × va_E} {R : va_W} : (([c0, c1, c2, c3, c4, c5, c6, c7, c8, c9, c10, c11, c12, c13, c14, c15, c16, c17, c18, c19, c20, c21, c22, c23, c24] ++ R : va_W))[7]? = some c7 := rfl
theorem rgP25_03923d6 {D : va_G} {cl : List vw_C} {H : Heap} {c0 c1 c2 c3 c4 c5 c6 c7 c8 c9 c10 c11 c12 c13 c14 c15 c16 c17 c18 c19 c20 c21 c22 c23 c24 : Nat × va_E} {R : va_W} (h : va_P D cl ([c0, c1, c2, c3, c4, c5, c6, c7, c8, c9, c10, c11, c12, c13, c14, c15, c16, c17, c18, c19, c20, c21, c22, c23, c24] ++ R) H) : va_P D cl ([]) H := h.sub (ws' := []) [] rfl
theorem rgP25_3b7695d {D : va_G} {cl : List vw_C} {H : Heap} {c0 c1 c2 c3 c4 c5 c6 c7 c8 c9 c10 c11 c12 c13 c14 c15 c16 c17 c18 c19 c20 c21 c22 c23 c24 : Nat × va_E} {R : va_W} (h : va_P D cl ([c0, c1, c2, c3, c4, c5, c6, c7, c8, c9, c10, c11, c12, c13, c14, c15, c16, c17, c18, c19, c20, c21, c22, c23, c24] ++ R) H) : va_P D cl ([c0, c1, c2, c3, c4, c5, c7, c8, c9, c10, c11, c12, c13, c14, c15, c16, c17, c18, c19, c20, c21, c22, c23, c24] ++ R) H := h.part (X := [c0, c1, c2, c3, c4, c5, c6, c7, c8, c9, c10, c11, c12, c13, c14, c15, c16, c17, c18, c19, c20, c21, c22, c23, c24]) (cx := [c0, c1, c2, c3, c4, c5, c7, c8, c9, c10, c11, c12, c13, c14, c15, c16, c17, c18, c19, c20, c21, c22, c23, c24]) [0, 1, 2, 3, 4, 5, 7, 8, 9, 10, 11, 12, 13, 14, 15, 16, 17, 18, 19, 20, 21, 22, 23, 24] rfl
theorem rgK22_b422d32 {D : va_G} {cl : List vw_C} {U : State} {t0 t1 t2 t3 t4 t5 t6 t7 t8 t9 t10 t11 t12 t13 t14 t15 t16 t17 t18 t19 t20 t21 : ClassId × FieldType} (h : va_K D cl [t0, t1, t2, t3, t4, t5, t6, t7, t8, t9, t10, t11, t12, t13, t14, t15, t16, t17, t18, t19, t20, t21] U) : va_K D cl [t0, t1, t2, t3, t5, t6, t7, t8, t9, t10, t11, t12, t13, t14, t15, t16, t17, t18, t19, t20] U := h.sub (tys' := [t0, t1, t2, t3, t5, t6, t7, t8, t9, t10, t11, t12, t13, t14, t15, t16, t17, t18, t19, t20]) [0, 1, 2, 3, 5, 6, 7, 8, 9, 10, 11, 12, 13, 14, 15, 16, 17, 18, 19, 20] rfl
theorem rgD25_d80f620 {A : Nat → Prop} {c0 c1 c2 c3 c4 c5 c6 c7 c8 c9 c10 c11 c12 c13 c14 c15 c16 c17 c18 c19 c20 c21 c22 c23 c24 : Nat × va_E} {R : va_W} (h : va_D A ([c0, c1, c2, c3, c4, c5, c6, c7, c8, c9, c10, c11, c12, c13, c14, c15, c16, c17, c18, c19, c20, c21, c22, c23, c24] ++ R)) : va_D A ([c0, c1, c2, c3, c4, c5, c7, c8, c9, c10, c11, c12, c13, c14, c15, c16, c17, c18, c19, c20, c21, c22, c23, c24] ++ R) := h.part (X := [c0, c1, c2, c3, c4, c5, c6, c7, c8, c9, c10, c11, c12, c13, c14, c15, c16, c17, c18, c19, c20, c21, c22, c23, c24]) (cx := [c0, c1, c2, c3, c4, c5, c7, c8, c9, c10, c11, c12, c13, c14, c15, c16, c17, c18, c19, c20, c21, c22, c23, c24]) [0, 1, 2, 3, 4, 5, 7, 8, 9, 10, 11, 12, 13, 14, 15, 16, 17, 18, 19, 20, 21, 22, 23, 24] (by decide +kernel) rfl
theorem rgJ25_3dbb90a {A0 : Nat → Prop} {D : va_G} {cl : List vw_C} {H H1 : Heap} {c0 c1 c2 c3 c4 c5 c6 c7 c8 c9 c10 c11 c12 c13 c14 c15 c16 c17 c18 c19 c20 c21 c22 c23 c24 : Nat × va_E} {d0 d1 d2 d3 d4 d5 d6 d7 d8 d9 d10 d11 d12 d13 d14 d15 d16 d17 d18 d19 d20 d21 d22 d23 : Nat × va_E} {R R1 : va_W} (hP : va_P D cl ([c0, c1, c2, c3, c4, c5, c6, c7, c8, c9, c10, c11, c12, c13, c14, c15, c16, c17, c18, c19, c20, c21, c22, c23, c24] ++ R) H) (hD : va_D A0 ([c0, c1, c2, c3, c4, c5, c6, c7, c8, c9, c10, c11, c12, c13, c14, c15, c16, c17, c18, c19, c20, c21, c22, c23, c24] ++ R)) (hk : ∀ q : Nat, q < H.size → ¬ va_A ([c0, c1, c2, c3, c4, c5, c7, c8, c9, c10, c11, c12, c13, c14, c15, c16, c17, c18, c19, c20, c21, c22, c23, c24] ++ R) H.size q → H1[q]? = H[q]?) (hF : ∀ q, va_A ([c0, c1, c2, c3, c4, c5, c7, c8, c9, c10, c11, c12, c13, c14, c15, c16, c17, c18, c19, c20, c21, c22, c23, c24] ++ R) H.size q → A0 q) (hP1 : va_P D cl ([d0, d1, d2, d3, d4, d5, d6, d7, d8, d9, d10, d11, d12, d13, d14, d15, d16, d17, d18, d19, d20, d21, d22, d23] ++ R1) H1) (hD1 : va_D (va_A ([c0, c1, c2, c3, c4, c5, c7, c8, c9, c10, c11, c12, c13, c14, c15, c16, c17, c18, c19, c20, c21, c22, c23, c24] ++ R) H.size) ([d0, d1, d2, d3, d4, d5, d6, d7, d8, d9, d10, d11, d12, d13, d14, d15, d16, d17, d18, d19, d20, d21, d22, d23] ++ R1)) : va_P D cl ([d0, d1, d2, d3, d4, d5, c6, d6, d7, d8, d9, d10, d11, d12, d13, d14, d15, d16, d17, d18, d19, d20, d21, d22, d23] ++ R1) H1 ∧ va_D A0 ([d0, d1, d2, d3, d4, d5, c6, d6, d7, d8, d9, d10, d11, d12, d13, d14, d15, d16, d17, d18, d19, d20, d21, d22, d23] ++ R1) := by
  obtain ⟨h1, h2⟩ := va_joinP (X := [c0, c1, c2, c3, c4, c5, c6, c7, c8, c9, c10, c11, c12, c13, c14, c15, c16, c17, c18, c19, c20, c21, c22, c23, c24]) (cx := [c0, c1, c2, c3, c4, c5, c7, c8, c9, c10, c11, c12, c13, c14, c15, c16, c17, c18, c19, c20, c21, c22, c23, c24]) (wr := [c6]) (rx := [d0, d1, d2, d3, d4, d5, d6, d7, d8, d9, d10, d11, d12, d13, d14, d15, d16, d17, d18, d19, d20, d21, d22, d23]) hP hD [0, 1, 2, 3, 4, 5, 7, 8, 9, 10, 11, 12, 13, 14, 15, 16, 17, 18, 19, 20, 21, 22, 23, 24] [6] rfl rfl (by decide +kernel) (by decide +kernel) hk hF hP1 hD1
  exact ⟨va_P.part (X := [c6, d0, d1, d2, d3, d4, d5, d6, d7, d8, d9, d10, d11, d12, d13, d14, d15, d16, d17, d18, d19, d20, d21, d22, d23]) (cx := [d0, d1, d2, d3, d4, d5, c6, d6, d7, d8, d9, d10, d11, d12, d13, d14, d15, d16, d17, d18, d19, d20, d21, d22, d23]) h1 [1, 2, 3, 4, 5, 6, 0, 7, 8, 9, 10, 11, 12, 13, 14, 15, 16, 17, 18, 19, 20, 21, 22, 23, 24] rfl, va_D.part (X := [c6, d0, d1, d2, d3, d4, d5, d6, d7, d8, d9, d10, d11, d12, d13, d14, d15, d16, d17, d18, d19, d20, d21, d22, d23]) (cx := [d0, d1, d2, d3, d4, d5, c6, d6, d7, d8, d9, d10, d11, d12, d13, d14, d15, d16, d17, d18, d19, d20, d21, d22, d23]) h2 [1, 2, 3, 4, 5, 6, 0, 7, 8, 9, 10, 11, 12, 13, 14, 15, 16, 17, 18, 19, 20, 21, 22, 23, 24] (by decide +kernel) rfl⟩
theorem rgP25_fd33518 {D : va_G} {cl : List vw_C} {H : Heap} {c0 c1 c2 c3 c4 c5 c6 c7 c8 c9 c10 c11 c12 c13 c14 c15 c16 c17 c18 c19 c20 c21 c22 c23 c24 : Nat × va_E} {R : va_W} (h : va_P D cl ([c0, c1, c2, c3, c4, c5, c6, c7, c8, c9, c10, c11, c12, c13, c14, c15, c16, c17, c18, c19, c20, c21, c22, c23, c24] ++ R) H) : va_P D cl ([c7, c13]) H := h.sub (ws' := [c7, c13]) [7, 13] rfl
theorem rgK22_98120ae {D : va_G} {cl : List vw_C} {U : State} {t0 t1 t2 t3 t4 t5 t6 t7 t8 t9 t10 t11 t12 t13 t14 t15 t16 t17 t18 t19 t20 t21 : ClassId × FieldType} (h : va_K D cl [t0, t1, t2, t3, t4, t5, t6, t7, t8, t9, t10, t11, t12, t13, t14, t15, t16, t17, t18, t19, t20, t21] U) : va_K D cl [t10] U := h.sub (tys' := [t10]) [10] rfl
theorem rgP25_211214f {D : va_G} {cl : List vw_C} {H : Heap} {c0 c1 c2 c3 c4 c5 c6 c7 c8 c9 c10 c11 c12 c13 c14 c15 c16 c17 c18 c19 c20 c21 c22 c23 c24 : Nat × va_E} {R : va_W} (h : va_P D cl ([c0, c1, c2, c3, c4, c5, c6, c7, c8, c9, c10, c11, c12, c13, c14, c15, c16, c17, c18, c19, c20, c21, c22, c23, c24] ++ R) H) : va_P D cl ([c1, c3, c5, c6] ++ R) H := h.part (X := [c0, c1, c2, c3, c4, c5, c6, c7, c8, c9, c10, c11, c12, c13, c14, c15, c16, c17, c18, c19, c20, c21, c22, c23, c24]) (cx := [c1, c3, c5, c6]) [1, 3, 5, 6] rfl
theorem rgK22_e79bdbc {D : va_G} {cl : List vw_C} {U : State} {t0 t1 t2 t3 t4 t5 t6 t7 t8 t9 t10 t11 t12 t13 t14 t15 t16 t17 t18 t19 t20 t21 : ClassId × FieldType} (h : va_K D cl [t0, t1, t2, t3, t4, t5, t6, t7, t8, t9, t10, t11, t12, t13, t14, t15, t16, t17, t18, t19, t20, t21] U) : va_K D cl [t1, t3, t4] U := h.sub (tys' := [t1, t3, t4]) [1, 3, 4] rfl
theorem rgD25_6391d03 {A : Nat → Prop} {c0 c1 c2 c3 c4 c5 c6 c7 c8 c9 c10 c11 c12 c13 c14 c15 c16 c17 c18 c19 c20 c21 c22 c23 c24 : Nat × va_E} {R : va_W} (h : va_D A ([c0, c1, c2, c3, c4, c5, c6, c7, c8, c9, c10, c11, c12, c13, c14, c15, c16, c17, c18, c19, c20, c21, c22, c23, c24] ++ R)) : va_D A ([c1, c3, c5, c6] ++ R) := h.part (X := [c0, c1, c2, c3, c4, c5, c6, c7, c8, c9, c10, c11, c12, c13, c14, c15, c16, c17, c18, c19, c20, c21, c22, c23, c24]) (cx := [c1, c3, c5, c6]) [1, 3, 5, 6] (by decide +kernel) rfl
theorem rgL25_59cac68 {c0 c1 c2 c3 c4 c5 c6 c7 c8 c9 c10 c11 c12 c13 c14 c15 c16 c17 c18 c19 c20 c21 c22 c23 c24 : Nat × va_E} {R : va_W} : (([c0, c1, c2, c3, c4, c5, c6, c7, c8, c9, c10, c11, c12, c13, c14, c15, c16, c17, c18, c19, c20, c21, c22, c23, c24] ++ R : va_W))[1]? = some c1 := rfl
theorem rgJ25_2d9abea {A0 : Nat → Prop} {D : va_G} {cl : List vw_C} {H H1 : Heap} {c0 c1 c2 c3 c4 c5 c6 c7 c8 c9 c10 c11 c12 c13 c14 c15 c16 c17 c18 c19 c20 c21 c22 c23 c24 : Nat × va_E} {d0 d1 d2 d3 : Nat × va_E} {R R1 : va_W} (hP : va_P D cl ([c0, c1, c2, c3, c4, c5, c6, c7, c8, c9, c10, c11, c12, c13, c14, c15, c16, c17, c18, c19, c20, c21, c22, c23, c24] ++ R) H) (hD : va_D A0 ([c0, c1, c2, c3, c4, c5, c6, c7, c8, c9, c10, c11, c12, c13, c14, c15, c16, c17, c18, c19, c20, c21, c22, c23, c24] ++ R)) (hk : ∀ q : Nat, q < H.size → ¬ va_A ([c1, c3, c5, c6] ++ R) H.size q → H1[q]? = H[q]?) (hF : ∀ q, va_A ([c1, c3, c5, c6] ++ R) H.size q → A0 q) (hP1 : va_P D cl ([d0, d1, d2, d3] ++ R1) H1) (hD1 : va_D (va_A ([c1, c3, c5, c6] ++ R) H.size) ([d0, d1, d2, d3] ++ R1)) : va_P D cl ([c0, d0, c2, d1, c4, d2, d3, c7, c8, c9, c10, c11, c12, c13, c14, c15, c16, c17, c18, c19, c20, c21, c22, c23, c24] ++ R1) H1 ∧ va_D A0 ([c0, d0, c2, d1, c4, d2, d3, c7, c8, c9, c10, c11, c12, c13, c14, c15, c16, c17, c18, c19, c20, c21, c22, c23, c24] ++ R1) := by
  obtain ⟨h1, h2⟩ := va_joinP (X := [c0, c1, c2, c3, c4, c5, c6, c7, c8, c9, c10, c11, c12, c13, c14, c15, c16, c17, c18, c19, c20, c21, c22, c23, c24]) (cx := [c1, c3, c5, c6]) (wr := [c0, c2, c4, c7, c8, c9, c10, c11, c12, c13, c14, c15, c16, c17, c18, c19, c20, c21, c22, c23, c24]) (rx := [d0, d1, d2, d3]) hP hD [1, 3, 5, 6] [0, 2, 4, 7, 8, 9, 10, 11, 12, 13, 14, 15, 16, 17, 18, 19, 20, 21, 22, 23, 24] rfl rfl (by decide +kernel) (by decide +kernel) hk hF hP1 hD1
  exact ⟨va_P.part (X := [c0, c2, c4, c7, c8, c9, c10, c11, c12, c13, c14, c15, c16, c17, c18, c19, c20, c21, c22, c23, c24, d0, d1, d2, d3]) (cx := [c0, d0, c2, d1, c4, d2, d3, c7, c8, c9, c10, c11, c12, c13, c14, c15, c16, c17, c18, c19, c20, c21, c22, c23, c24]) h1 [0, 21, 1, 22, 2, 23, 24, 3, 4, 5, 6, 7, 8, 9, 10, 11, 12, 13, 14, 15, 16, 17, 18, 19, 20] rfl, va_D.part (X := [c0, c2, c4, c7, c8, c9, c10, c11, c12, c13, c14, c15, c16, c17, c18, c19, c20, c21, c22, c23, c24, d0, d1, d2, d3]) (cx := [c0, d0, c2, d1, c4, d2, d3, c7, c8, c9, c10, c11, c12, c13, c14, c15, c16, c17, c18, c19, c20, c21, c22, c23, c24]) h2 [0, 21, 1, 22, 2, 23, 24, 3, 4, 5, 6, 7, 8, 9, 10, 11, 12, 13, 14, 15, 16, 17, 18, 19, 20] (by decide +kernel) rfl⟩
theorem rgP25_62cba25 {D : va_G} {cl : List vw_C} {H : Heap} {c0 c1 c2 c3 c4 c5 c6 c7 c8 c9 c10 c11 c12 c13 c14 c15 c16 c17 c18 c19 c20 c21 c22 c23 c24 : Nat × va_E} {R : va_W} (h : va_P D cl ([c0, c1, c2, c3, c4, c5, c6, c7, c8, c9, c10, c11, c12, c13, c14, c15, c16, c17, c18, c19, c20, c21, c22, c23, c24] ++ R) H) : va_P D cl ([c1, c5, c6] ++ R) H := h.part (X := [c0, c1, c2, c3, c4, c5, c6, c7, c8, c9, c10, c11, c12, c13, c14, c15, c16, c17, c18, c19, c20, c21, c22, c23, c24]) (cx := [c1, c5, c6]) [1, 5, 6] rfl
theorem rgK22_b93248d {D : va_G} {cl : List vw_C} {U : State} {t0 t1 t2 t3 t4 t5 t6 t7 t8 t9 t10 t11 t12 t13 t14 t15 t16 t17 t18 t19 t20 t21 : ClassId × FieldType} (h : va_K D cl [t0, t1, t2, t3, t4, t5, t6, t7, t8, t9, t10, t11, t12, t13, t14, t15, t16, t17, t18, t19, t20, t21] U) : va_K D cl [t3, t4] U := h.sub (tys' := [t3, t4]) [3, 4] rfl
theorem rgD25_f6b6d71 {A : Nat → Prop} {c0 c1 c2 c3 c4 c5 c6 c7 c8 c9 c10 c11 c12 c13 c14 c15 c16 c17 c18 c19 c20 c21 c22 c23 c24 : Nat × va_E} {R : va_W} (h : va_D A ([c0, c1, c2, c3, c4, c5, c6, c7, c8, c9, c10, c11, c12, c13, c14, c15, c16, c17, c18, c19, c20, c21, c22, c23, c24] ++ R)) : va_D A ([c1, c5, c6] ++ R) := h.part (X := [c0, c1, c2, c3, c4, c5, c6, c7, c8, c9, c10, c11, c12, c13, c14, c15, c16, c17, c18, c19, c20, c21, c22, c23, c24]) (cx := [c1, c5, c6]) [1, 5, 6] (by decide +kernel) rfl
theorem rgJ25_cea8d0a {A0 : Nat → Prop} {D : va_G} {cl : List vw_C} {H H1 : Heap} {c0 c1 c2 c3 c4 c5 c6 c7 c8 c9 c10 c11 c12 c13 c14 c15 c16 c17 c18 c19 c20 c21 c22 c23 c24 : Nat × va_E} {d0 d1 d2 : Nat × va_E} {R R1 : va_W} (hP : va_P D cl ([c0, c1, c2, c3, c4, c5, c6, c7, c8, c9, c10, c11, c12, c13, c14, c15, c16, c17, c18, c19, c20, c21, c22, c23, c24] ++ R) H) (hD : va_D A0 ([c0, c1, c2, c3, c4, c5, c6, c7, c8, c9, c10, c11, c12, c13, c14, c15, c16, c17, c18, c19, c20, c21, c22, c23, c24] ++ R)) (hk : ∀ q : Nat, q < H.size → ¬ va_A ([c1, c5, c6] ++ R) H.size q → H1[q]? = H[q]?) (hF : ∀ q, va_A ([c1, c5, c6] ++ R) H.size q → A0 q) (hP1 : va_P D cl ([d0, d1, d2] ++ R1) H1) (hD1 : va_D (va_A ([c1, c5, c6] ++ R) H.size) ([d0, d1, d2] ++ R1)) : va_P D cl ([c0, d0, c2, c3, c4, d1, d2, c7, c8, c9, c10, c11, c12, c13, c14, c15, c16, c17, c18, c19, c20, c21, c22, c23, c24] ++ R1) H1 ∧ va_D A0 ([c0, d0, c2, c3, c4, d1, d2, c7, c8, c9, c10, c11, c12, c13, c14, c15, c16, c17, c18, c19, c20, c21, c22, c23, c24] ++ R1) := by
  obtain ⟨h1, h2⟩ := va_joinP (X := [c0, c1, c2, c3, c4, c5, c6, c7, c8, c9, c10, c11, c12, c13, c14, c15, c16, c17, c18, c19, c20, c21, c22, c23, c24]) (cx := [c1, c5, c6]) (wr := [c0, c2, c3, c4, c7, c8, c9, c10, c11, c12, c13, c14, c15, c16, c17, c18, c19, c20, c21, c22, c23, c24]) (rx := [d0, d1, d2]) hP hD [1, 5, 6] [0, 2, 3, 4, 7, 8, 9, 10, 11, 12, 13, 14, 15, 16, 17, 18, 19, 20, 21, 22, 23, 24] rfl rfl (by decide +kernel) (by decide +kernel) hk hF hP1 hD1
  exact ⟨va_P.part (X := [c0, c2, c3, c4, c7, c8, c9, c10, c11, c12, c13, c14, c15, c16, c17, c18, c19, c20, c21, c22, c23, c24, d0, d1, d2]) (cx := [c0, d0, c2, c3, c4, d1, d2, c7, c8, c9, c10, c11, c12, c13, c14, c15, c16, c17, c18, c19, c20, c21, c22, c23, c24]) h1 [0, 22, 1, 2, 3, 23, 24, 4, 5, 6, 7, 8, 9, 10, 11, 12, 13, 14, 15, 16, 17, 18, 19, 20, 21] rfl, va_D.part (X := [c0, c2, c3, c4, c7, c8, c9, c10, c11, c12, c13, c14, c15, c16, c17, c18, c19, c20, c21, c22, c23, c24, d0, d1, d2]) (cx := [c0, d0, c2, c3, c4, d1, d2, c7, c8, c9, c10, c11, c12, c13, c14, c15, c16, c17, c18, c19, c20, c21, c22, c23, c24]) h2 [0, 22, 1, 2, 3, 23, 24, 4, 5, 6, 7, 8, 9, 10, 11, 12, 13, 14, 15, 16, 17, 18, 19, 20, 21] (by decide +kernel) rfl⟩
theorem rgL28_994ec6a {c0 c1 c2 c3 c4 c5 c6 c7 c8 c9 c10 c11 c12 c13 c14 c15 c16 c17 c18 c19 c20 c21 c22 c23 c24 c25 c26 c27 : Nat × va_E} {R : va_W} : (([c0, c1, c2, c3, c4, c5, c6, c7, c8, c9, c10, c11, c12, c13, c14, c15, c16, c17, c18, c19, c20, c21, c22, c23, c24, c25, c26, c27] ++ R : va_W))[0]? = some c0 := rfl
theorem rgP28_0b6182d {D : va_G} {cl : List vw_C} {H : Heap} {c0 c1 c2 c3 c4 c5 c6 c7 c8 c9 c10 c11 c12 c13 c14 c15 c16 c17 c18 c19 c20 c21 c22 c23 c24 c25 c26 c27 : Nat × va_E} {R : va_W} (h : va_P D cl ([c0, c1, c2, c3, c4, c5, c6, c7, c8, c9, c10, c11, c12, c13, c14, c15, c16, c17, c18, c19, c20, c21, c22, c23, c24, c25, c26, c27] ++ R) H) : va_P D cl ([c10]) H := h.sub (ws' := [c10]) [10] rfl
theorem rgK24_38e9bb2 {D : va_G} {cl : List vw_C} {U : State} {t0 t1 t2 t3 t4 t5 t6 t7 t8 t9 t10 t11 t12 t13 t14 t15 t16 t17 t18 t19 t20 t21 t22 t23 : ClassId × FieldType} (h : va_K D cl [t0, t1, t2, t3, t4, t5, t6, t7, t8, t9, t10, t11, t12, t13, t14, t15, t16, t17, t18, t19, t20, t21, t22, t23] U) : va_K D cl [] U := h.sub (tys' := []) [] rfl
theorem rgL28_1e838c7 {c0 c1 c2 c3 c4 c5 c6 c7 c8 c9 c10 c11 c12 c13 c14 c15 c16 c17 c18 c19 c20 c21 c22 c23 c24 c25 c26 c27 : Nat × va_E} {R : va_W} : (([c0, c1, c2, c3, c4, c5, c6, c7, c8, c9, c10, c11, c12, c13, c14, c15, c16, c17, c18, c19, c20, c21, c22, c23, c24, c25, c26, c27] ++ R : va_W))[10]? = some c10 := rfl
theorem rgL28_453b3bf {c0 c1 c2 c3 c4 c5 c6 c7 c8 c9 c10 c11 c12 c13 c14 c15 c16 c17 c18 c19 c20 c21 c22 c23 c24 c25 c26 c27 : Nat × va_E} {R : va_W} : (([c0, c1, c2, c3, c4, c5, c6, c7, c8, c9, c10, c11, c12, c13, c14, c15, c16, c17, c18, c19, c20, c21, c22, c23, c24, c25, c26, c27] ++ R : va_W))[21]? = some c21 := rfl
theorem rgL28_8e7fe62 {c0 c1 c2 c3 c4 c5 c6 c7 c8 c9 c10 c11 c12 c13 c14 c15 c16 c17 c18 c19 c20 c21 c22 c23 c24 c25 c26 c27 : Nat × va_E} {R : va_W} : (([c0, c1, c2, c3, c4, c5, c6, c7, c8, c9, c10, c11, c12, c13, c14, c15, c16, c17, c18, c19, c20, c21, c22, c23, c24, c25, c26, c27] ++ R : va_W))[22]? = some c22 := rfl
theorem rgT24_623c6c3 {t0 t1 t2 t3 t4 t5 t6 t7 t8 t9 t10 t11 t12 t13 t14 t15 t16 t17 t18 t19 t20 t21 t22 t23 : ClassId × FieldType} : (([t0, t1, t2, t3, t4, t5, t6, t7, t8, t9, t10, t11, t12, t13, t14, t15, t16, t17, t18, t19, t20, t21, t22, t23] : List (ClassId × FieldType)))[17]? = some t17 := rfl
theorem rgS28_ea8b686 {A : Nat → Prop} {D : va_G} {cl : List vw_C} {H : Heap} {c0 c1 c2 c3 c4 c5 c6 c7 c8 c9 c10 c11 c12 c13 c14 c15 c16 c17 c18 c19 c20 c21 c22 c23 c24 c25 c26 c27 : Nat × va_E} {R : va_W} {d e : Nat × va_E} (hP : va_P D cl (([c0, c1, c2, c3, c4, c5, c6, c7, c8, c9, c10, c11, c12, c13, c14, c15, c16, c17, c18, c19, c20, c21, c22, c23, c24, c25, c26, c27] ++ R).set 22 d) H) (hD : va_D A (([c0, c1, c2, c3, c4, c5, c6, c7, c8, c9, c10, c11, c12, c13, c14, c15, c16, c17, c18, c19, c20, c21, c22, c23, c24, c25, c26, c27] ++ R).set 22 d)) (h : d = e) : va_P D cl ([c0, c1, c2, c3, c4, c5, c6, c7, c8, c9, c10, c11, c12, c13, c14, c15, c16, c17, c18, c19, c20, c21, e, c23, c24, c25, c26, c27] ++ R) H ∧ va_D A ([c0, c1, c2, c3, c4, c5, c6, c7, c8, c9, c10, c11, c12, c13, c14, c15, c16, c17, c18, c19, c20, c21, e, c23, c24, c25, c26, c27] ++ R) := by subst h; exact ⟨hP, hD⟩
theorem rgP28_429e2e3 {D : va_G} {cl : List vw_C} {H : Heap} {c0 c1 c2 c3 c4 c5 c6 c7 c8 c9 c10 c11 c12 c13 c14 c15 c16 c17 c18 c19 c20 c21 c22 c23 c24 c25 c26 c27 : Nat × va_E} {R : va_W} (h : va_P D cl ([c0, c1, c2, c3, c4, c5, c6, c7, c8, c9, c10, c11, c12, c13, c14, c15, c16, c17, c18, c19, c20, c21, c22, c23, c24, c25, c26, c27] ++ R) H) : va_P D cl ([c0, c6, c7, c8, c9]) H := h.sub (ws' := [c0, c6, c7, c8, c9]) [0, 6, 7, 8, 9] rfl
theorem rgK24_4aa029b {D : va_G} {cl : List vw_C} {U : State} {t0 t1 t2 t3 t4 t5 t6 t7 t8 t9 t10 t11 t12 t13 t14 t15 t16 t17 t18 t19 t20 t21 t22 t23 : ClassId × FieldType} (h : va_K D cl [t0, t1, t2, t3, t4, t5, t6, t7, t8, t9, t10, t11, t12, t13, t14, t15, t16, t17, t18, t19, t20, t21, t22, t23] U) : va_K D cl [t4, t5, t6] U := h.sub (tys' := [t4, t5, t6]) [4, 5, 6] rfl
theorem rgD28_a0847e9 {A : Nat → Prop} {c0 c1 c2 c3 c4 c5 c6 c7 c8 c9 c10 c11 c12 c13 c14 c15 c16 c17 c18 c19 c20 c21 c22 c23 c24 c25 c26 c27 : Nat × va_E} {R : va_W} (h : va_D A ([c0, c1, c2, c3, c4, c5, c6, c7, c8, c9, c10, c11, c12, c13, c14, c15, c16, c17, c18, c19, c20, c21, c22, c23, c24, c25, c26, c27] ++ R)) : va_D A ([c0, c6, c7, c8, c9]) := h.sub (ws' := [c0, c6, c7, c8, c9]) [0, 6, 7, 8, 9] (by decide +kernel) rfl
theorem rgJ28_7cfb90d {A0 : Nat → Prop} {D : va_G} {cl : List vw_C} {H H1 : Heap} {c0 c1 c2 c3 c4 c5 c6 c7 c8 c9 c10 c11 c12 c13 c14 c15 c16 c17 c18 c19 c20 c21 c22 c23 c24 c25 c26 c27 : Nat × va_E} {d0 d1 d2 d3 d4 : Nat × va_E} {R : va_W} (hP : va_P D cl ([c0, c1, c2, c3, c4, c5, c6, c7, c8, c9, c10, c11, c12, c13, c14, c15, c16, c17, c18, c19, c20, c21, c22, c23, c24, c25, c26, c27] ++ R) H) (hD : va_D A0 ([c0, c1, c2, c3, c4, c5, c6, c7, c8, c9, c10, c11, c12, c13, c14, c15, c16, c17, c18, c19, c20, c21, c22, c23, c24, c25, c26, c27] ++ R)) (hk : ∀ q : Nat, q < H.size → ¬ va_A ([c0, c6, c7, c8, c9]) H.size q → H1[q]? = H[q]?) (hF : ∀ q, va_A ([c0, c6, c7, c8, c9]) H.size q → A0 q) (hP1 : va_P D cl ([d0, d1, d2, d3, d4]) H1) (hD1 : va_D (va_A ([c0, c6, c7, c8, c9]) H.size) ([d0, d1, d2, d3, d4])) : va_P D cl ([d0, c1, c2, c3, c4, c5, d1, d2, d3, d4, c10, c11, c12, c13, c14, c15, c16, c17, c18, c19, c20, c21, c22, c23, c24, c25, c26, c27] ++ R) H1 ∧ va_D A0 ([d0, c1, c2, c3, c4, c5, d1, d2, d3, d4, c10, c11, c12, c13, c14, c15, c16, c17, c18, c19, c20, c21, c22, c23, c24, c25, c26, c27] ++ R) := by
  obtain ⟨h1, h2⟩ := va_joinQ (X := [c0, c1, c2, c3, c4, c5, c6, c7, c8, c9, c10, c11, c12, c13, c14, c15, c16, c17, c18, c19, c20, c21, c22, c23, c24, c25, c26, c27]) (cx := [c0, c6, c7, c8, c9]) (wr := [c1, c2, c3, c4, c5, c10, c11, c12, c13, c14, c15, c16, c17, c18, c19, c20, c21, c22, c23, c24, c25, c26, c27]) (w1 := [d0, d1, d2, d3, d4]) hP hD [0, 6, 7, 8, 9] [1, 2, 3, 4, 5, 10, 11, 12, 13, 14, 15, 16, 17, 18, 19, 20, 21, 22, 23, 24, 25, 26, 27] rfl rfl (by decide +kernel) (by decide +kernel) hk hF hP1 hD1
  exact ⟨va_P.part (X := [c1, c2, c3, c4, c5, c10, c11, c12, c13, c14, c15, c16, c17, c18, c19, c20, c21, c22, c23, c24, c25, c26, c27, d0, d1, d2, d3, d4]) (cx := [d0, c1, c2, c3, c4, c5, d1, d2, d3, d4, c10, c11, c12, c13, c14, c15, c16, c17, c18, c19, c20, c21, c22, c23, c24, c25, c26, c27]) h1 [23, 0, 1, 2, 3, 4, 24, 25, 26, 27, 5, 6, 7, 8, 9, 10, 11, 12, 13, 14, 15, 16, 17, 18, 19, 20, 21, 22] rfl, va_D.part (X := [c1, c2, c3, c4, c5, c10, c11, c12, c13, c14, c15, c16, c17, c18, c19, c20, c21, c22, c23, c24, c25, c26, c27, d0, d1, d2, d3, d4]) (cx := [d0, c1, c2, c3, c4, c5, d1, d2, d3, d4, c10, c11, c12, c13, c14, c15, c16, c17, c18, c19, c20, c21, c22, c23, c24, c25, c26, c27]) h2 [23, 0, 1, 2, 3, 4, 24, 25, 26, 27, 5, 6, 7, 8, 9, 10, 11, 12, 13, 14, 15, 16, 17, 18, 19, 20, 21, 22] (by decide +kernel) rfl⟩
theorem rgP28_1801ec9 {D : va_G} {cl : List vw_C} {H : Heap} {c0 c1 c2 c3 c4 c5 c6 c7 c8 c9 c10 c11 c12 c13 c14 c15 c16 c17 c18 c19 c20 c21 c22 c23 c24 c25 c26 c27 : Nat × va_E} {R : va_W} (h : va_P D cl ([c0, c1, c2, c3, c4, c5, c6, c7, c8, c9, c10, c11, c12, c13, c14, c15, c16, c17, c18, c19, c20, c21, c22, c23, c24, c25, c26, c27] ++ R) H) : va_P D cl ([c0, c1, c2, c3, c4, c5, c10, c11, c12, c13, c14, c15, c16, c17, c18, c19, c20, c21, c22, c23, c24, c25, c26, c27] ++ R) H := h.part (X := [c0, c1, c2, c3, c4, c5, c6, c7, c8, c9, c10, c11, c12, c13, c14, c15, c16, c17, c18, c19, c20, c21, c22, c23, c24, c25, c26, c27]) (cx := [c0, c1, c2, c3, c4, c5, c10, c11, c12, c13, c14, c15, c16, c17, c18, c19, c20, c21, c22, c23, c24, c25, c26, c27]) [0, 1, 2, 3, 4, 5, 10, 11, 12, 13, 14, 15, 16, 17, 18, 19, 20, 21, 22, 23, 24, 25, 26, 27] rfl
theorem rgK24_ca496e8 {D : va_G} {cl : List vw_C} {U : State} {t0 t1 t2 t3 t4 t5 t6 t7 t8 t9 t10 t11 t12 t13 t14 t15 t16 t17 t18 t19 t20 t21 t22 t23 : ClassId × FieldType} (h : va_K D cl [t0, t1, t2, t3, t4, t5, t6, t7, t8, t9, t10, t11, t12, t13, t14, t15, t16, t17, t18, t19, t20, t21, t22, t23] U) : va_K D cl [t0, t1, t2, t3, t7, t8, t9, t10, t11, t12, t13, t14, t15, t16, t17, t18, t19, t20, t21, t22] U := h.sub (tys' := [t0, t1, t2, t3, t7, t8, t9, t10, t11, t12, t13, t14, t15, t16, t17, t18, t19, t20, t21, t22]) [0, 1, 2, 3, 7, 8, 9, 10, 11, 12, 13, 14, 15, 16, 17, 18, 19, 20, 21, 22] rfl
theorem rgD28_76476a0 {A : Nat → Prop} {c0 c1 c2 c3 c4 c5 c6 c7 c8 c9 c10 c11 c12 c13 c14 c15 c16 c17 c18 c19 c20 c21 c22 c23 c24 c25 c26 c27 : Nat × va_E} {R : va_W} (h : va_D A ([c0, c1, c2, c3, c4, c5, c6, c7, c8, c9, c10, c11, c12, c13, c14, c15, c16, c17, c18, c19, c20, c21, c22, c23, c24, c25, c26, c27] ++ R)) : va_D A ([c0, c1, c2, c3, c4, c5, c10, c11, c12, c13, c14, c15, c16, c17, c18, c19, c20, c21, c22, c23, c24, c25, c26, c27] ++ R) := h.part (X := [c0, c1, c2, c3, c4, c5, c6, c7, c8, c9, c10, c11, c12, c13, c14, c15, c16, c17, c18, c19, c20, c21, c22, c23, c24, c25, c26, c27]) (cx := [c0, c1, c2, c3, c4, c5, c10, c11, c12, c13, c14, c15, c16, c17, c18, c19, c20, c21, c22, c23, c24, c25, c26, c27]) [0, 1, 2, 3, 4, 5, 10, 11, 12, 13, 14, 15, 16, 17, 18, 19, 20, 21, 22, 23, 24, 25, 26, 27] (by decide +kernel) rfl
theorem rgJ28_c8427ca {A0 : Nat → Prop} {D : va_G} {cl : List vw_C} {H H1 : Heap} {c0 c1 c2 c3 c4 c5 c6 c7 c8 c9 c10 c11 c12 c13 c14 c15 c16 c17 c18 c19 c20 c21 c22 c23 c24 c25 c26 c27 : Nat × va_E} {d0 d1 d2 d3 d4 d5 d6 d7 d8 d9 d10 d11 d12 d13 d14 d15 d16 d17 d18 d19 d20 d21 d22 d23 : Nat × va_E} {R R1 : va_W} (hP : va_P D cl ([c0, c1, c2, c3, c4, c5, c6, c7, c8, c9, c10, c11, c12, c13, c14, c15, c16, c17, c18, c19, c20, c21, c22, c23, c24, c25, c26, c27] ++ R) H) (hD : va_D A0 ([c0, c1, c2, c3, c4, c5, c6, c7, c8, c9, c10, c11, c12, c13, c14, c15, c16, c17, c18, c19, c20, c21, c22, c23, c24, c25, c26, c27] ++ R)) (hk : ∀ q : Nat, q < H.size → ¬ va_A ([c0, c1, c2, c3, c4, c5, c10, c11, c12, c13, c14, c15, c16, c17, c18, c19, c20, c21, c22, c23, c24, c25, c26, c27] ++ R) H.size q → H1[q]? = H[q]?) (hF : ∀ q, va_A ([c0, c1, c2, c3, c4, c5, c10, c11, c12, c13, c14, c15, c16, c17, c18, c19, c20, c21, c22, c23, c24, c25, c26, c27] ++ R) H.size q → A0 q) (hP1 : va_P D cl ([d0, d1, d2, d3, d4, d5, d6, d7, d8, d9, d10, d11, d12, d13, d14, d15, d16, d17, d18, d19, d20, d21, d22, d23] ++ R1) H1) (hD1 : va_D (va_A ([c0, c1, c2, c3, c4, c5, c10, c11, c12, c13, c14, c15, c16, c17, c18, c19, c20, c21, c22, c23, c24, c25, c26, c27] ++ R) H.size) ([d0, d1, d2, d3, d4, d5, d6, d7, d8, d9, d10, d11, d12, d13, d14, d15, d16, d17, d18, d19, d20, d21, d22, d23] ++ R1)) : va_P D cl ([d0, d1, d2, d3, d4, d5, c6, c7, c8, c9, d6, d7, d8, d9, d10, d11, d12, d13, d14, d15, d16, d17, d18, d19, d20, d21, d22, d23] ++ R1) H1 ∧ va_D A0 ([d0, d1, d2, d3, d4, d5, c6, c7, c8, c9, d6, d7, d8, d9, d10, d11, d12, d13, d14, d15, d16, d17, d18, d19, d20, d21, d22, d23] ++ R1) := by
  obtain ⟨h1, h2⟩ := va_joinP (X := [c0, c1, c2, c3, c4, c5, c6, c7, c8, c9, c10, c11, c12, c13, c14, c15, c16, c17, c18, c19, c20, c21, c22, c23, c24, c25, c26, c27]) (cx := [c0, c1, c2, c3, c4, c5, c10, c11, c12, c13, c14, c15, c16, c17, c18, c19, c20, c21, c22, c23, c24, c25, c26, c27]) (wr := [c6, c7, c8, c9]) (rx := [d0, d1, d2, d3, d4, d5, d6, d7, d8, d9, d10, d11, d12, d13, d14, d15, d16, d17, d18, d19, d20, d21, d22, d23]) hP hD [0, 1, 2, 3, 4, 5, 10, 11, 12, 13, 14, 15, 16, 17, 18, 19, 20, 21, 22, 23, 24, 25, 26, 27] [6, 7, 8, 9] rfl rfl (by decide +kernel) (by decide +kernel) hk hF hP1 hD1
  exact ⟨va_P.part (X := [c6, c7, c8, c9, d0, d1, d2, d3, d4, d5, d6, d7, d8, d9, d10, d11, d12, d13, d14, d15, d16, d17, d18, d19, d20, d21, d22, d23]) (cx := [d0, d1, d2, d3, d4, d5, c6, c7, c8, c9, d6, d7, d8, d9, d10, d11, d12, d13, d14, d15, d16, d17, d18, d19, d20, d21, d22, d23]) h1 [4, 5, 6, 7, 8, 9, 0, 1, 2, 3, 10, 11, 12, 13, 14, 15, 16, 17, 18, 19, 20, 21, 22, 23, 24, 25, 26, 27] rfl, va_D.part (X := [c6, c7, c8, c9, d0, d1, d2, d3, d4, d5, d6, d7, d8, d9, d10, d11, d12, d13, d14, d15, d16, d17, d18, d19, d20, d21, d22, d23]) (cx := [d0, d1, d2, d3, d4, d5, c6, c7, c8, c9, d6, d7, d8, d9, d10, d11, d12, d13, d14, d15, d16, d17, d18, d19, d20, d21, d22, d23]) h2 [4, 5, 6, 7, 8, 9, 0, 1, 2, 3, 10, 11, 12, 13, 14, 15, 16, 17, 18, 19, 20, 21, 22, 23, 24, 25, 26, 27] (by decide +kernel) rfl⟩
theorem rgL28_1b0b1d4 {c0 c1 c2 c3 c4 c5 c6 c7 c8 c9 c10 c11 c12 c13 c14 c15 c16 c17 c18 c19 c20 c21 c22 c23 c24 c25 c26 c27 : Nat × va_E} {R : va_W} : (([c0, c1, c2, c3, c4, c5, c6, c7, c8, c9, c10, c11, c12, c13, c14, c15, c16, c17, c18, c19, c20, c21, c22, c23, c24, c25, c26, c27] ++ R : va_W))[1]? = some c1 := rfl
theorem rgL28_d56af43 {c0 c1 c2 c3 c4 c5 c6 c7 c8 c9 c10 c11 c12 c13 c14 c15 c16 c17 c18 c19 c20 c21 c22 c23 c24 c25 c26 c27 : Nat × va_E} {R : va_W} : (([c0, c1, c2, c3, c4, c5, c6, c7, c8, c9, c10, c11, c12, c13, c14, c15, c16, c17, c18, c19, c20, c21, c22, c23, c24, c25, c26, c27] ++ R : va_W))[2]? = some c2 := rfl
theorem rgT24_7b8e3d5 {t0 t1 t2 t3 t4 t5 t6 t7 t8 t9 t10 t11 t12 t13 t14 t15 t16 t17 t18 t19 t20 t21 t22 t23 : ClassId × FieldType} : (([t0, t1, t2, t3, t4, t5, t6, t7, t8, t9, t10, t11, t12, t13, t14, t15, t16, t17, t18, t19, t20, t21, t22, t23] : List (ClassId × FieldType)))[0]? = some t0 := rfl
theorem rgP28_1b4bebf {D : va_G} {cl : List vw_C} {H : Heap} {c0 c1 c2 c3 c4 c5 c6 c7 c8 c9 c10 c11 c12 c13 c14 c15 c16 c17 c18 c19 c20 c21 c22 c23 c24 c25 c26 c27 : Nat × va_E} {R : va_W} (h : va_P D cl ([c0, c1, c2, c3, c4, c5, c6, c7, c8, c9, c10, c11, c12, c13, c14, c15, c16, c17, c18, c19, c20, c21, c22, c23, c24, c25, c26, c27] ++ R) H) : va_P D cl ([]) H := h.sub (ws' := []) [] rfl
set_option maxHeartbeats 4000000 in
set_option maxRecDepth 100000 in
theorem k_X8_open (l : Launch) (dC : Nat → ClassId) (dI : Nat → Nat → Nat) (g : Gv) (sz : Nat) (a0 : Nat) (a1 : Int32) (a2 : Int32) (a0_0 : Nat) (a0_1 : Nat) (a0_2 : Nat) (a0_3 : Nat) (a0_4 : Nat) (a0_5 : Nat) (a0_6 : Nat) (a0_7 : Nat) (a0_8 : Nat) (a0_9 : Nat) (a0_10 : Int32) (a0_2_0 : Nat) (a0_2_1 : Nat) (a0_2_2 : Nat) (a0_2_3 : Nat) (a0_2_4 : Nat) (a0_2_5 : Nat) (a0_2_6 : Int32) (a0_2_7 : Int32) (a0_2_0_c : ClassId) (a0_2_0_f : Nat → Int32) (a0_2_1_c : ClassId) (a0_2_1_f : Nat → Int32) (a0_2_2_c : ClassId) (a0_2_2_f : Nat → Option Nat) (a0_2_3_c : ClassId) (a0_2_3_f : Nat → Option Nat) (a0_6_0 : Int32) (a0_6_1 : Nat) (a0_6_2 : Int32) (a0_6_3 : Nat) (a0_6_4 : Int32) (a0_6_5 : Nat) (a0_6_6 : Nat) (a0_6_7 : Nat) (a0_6_8 : Int32) (a0_6_9 : Nat) (a0_6_10 : Nat) (a0_6_11 : Nat) (a0_6_12 : Nat) (a0_6_13 : Nat) (a0_6_1_c : ClassId) (a0_6_1_f : Nat → Int32) (a0_6_3_c : ClassId) (a0_6_3_f : Nat → Int32) (a0_6_5_c : ClassId) (a0_6_5_f : Nat → Int32) (a0_6_6_c : ClassId) (a0_6_6_f : Nat → Int32) (a0_6_7_c : ClassId) (a0_6_7_f : Nat → Int32) (a0_6_9_c : ClassId) (a0_6_9_f : Nat → Int32) (a0_6_10_c : ClassId) (a0_6_10_f : Nat → Int32) (a0_6_11_c : ClassId) (a0_6_11_f : Nat → Int32) (a0_6_12_c : ClassId) (a0_6_12_f : Nat → Option Nat) (a0_6_13_c : ClassId) (a0_6_13_f : Nat → Int32) (a0_8_0 : Nat) (a0_8_1 : Nat) (a0_8_2 : Nat) (a0_8_3 : Nat) (a0_8_4 : Nat) (a0_8_5 : Nat) (a0_8_0_c : ClassId) (a0_8_0_f : Nat → Int32) (a0_8_1_c : ClassId) (a0_8_1_f : Nat → Int32) (a0_8_2_c : ClassId) (a0_8_2_f : Nat → Int32) (a0_8_3_c : ClassId) (a0_8_3_f : Nat → Int32) (a0_8_4_c : ClassId) (a0_8_4_f : Nat → Option Nat) (a0_8_5_c : ClassId) (a0_8_5_f : Nat → Option Nat) (rows : va_W) (h_a0_2_6 : 0 ≤ a0_2_6.toInt ∧ a0_2_6.toInt ≤ 24) (h_a0_2_7 : 0 ≤ a0_2_7.toInt ∧ a0_2_7.toInt ≤ 12) (h_a0_2_2_f : GR g.2.2.2.2.1 24 12 a0_2_2_f rows) (h_a0_2_3_f : GR g.2.2.2.2.1 24 12 a0_2_3_f rows) (h_a0_6_0 : 0 ≤ a0_6_0.toInt ∧ a0_6_0.toInt ≤ 8) (h_a0_6_2 : 0 ≤ a0_6_2.toInt ∧ a0_6_2.toInt ≤ 4) (h_a0_6_4 : 0 ≤ a0_6_4.toInt ∧ a0_6_4.toInt ≤ 24) (h_a0_6_8 : 0 ≤ a0_6_8.toInt ∧ a0_6_8.toInt ≤ 12) (h_a0_6_12_f : GR g.2.2.2.2.1 3 12 a0_6_12_f rows) (h_a0_8_3_f : vr 0 5 a0_8_3_f) (h_a0_8_4_f : GR g.2.2.2.2.1 5 12 a0_8_4_f rows) (h_a0_8_5_f : GR g.2.2.2.2.1 5 12 a0_8_5_f rows) (hho : HOk a0_6_9_f a0_6_10_f a0_6_8) : Met l yX8_open (.code yX8_open cX8_open 3 (some .int) :: TBL) ({ frames := 7, cells := 0, slots := 0, locals := 168 }) (va_Pc [.ref a0, .int a1, .int a2] (fun U => U.heap.size = sz ∧ va_P (dC, dI) vwCl (([(a0, .inr (7, [.ref a0_0, .ref a0_1, .ref a0_2, .ref a0_3, .ref a0_4, .ref a0_5, .ref a0_6, .ref a0_7, .ref a0_8, .ref a0_9, .int a0_10])), (a0_2, .inr (5, [.ref a0_2_0, .ref a0_2_1, .ref a0_2_2, .ref a0_2_3, .ref a0_2_4, .ref a0_2_5, .int a0_2_6, .int a0_2_7])), (a0_2_0, .inl (a0_2_0_c, 24, .inl a0_2_0_f)), (a0_2_1, .inl (a0_2_1_c, 24, .inl a0_2_1_f)), (a0_2_2, .inl (a0_2_2_c, 12, .inr (.inr (.inr (.inr a0_2_2_f))))), (a0_2_3, .inl (a0_2_3_c, 12, .inr (.inr (.inr (.inr a0_2_3_f))))), (a0_6, .inr (0, [.int a0_6_0, .ref a0_6_1, .int a0_6_2, .ref a0_6_3, .int a0_6_4, .ref a0_6_5, .ref a0_6_6, .ref a0_6_7, .int a0_6_8, .ref a0_6_9, .ref a0_6_10, .ref a0_6_11, .ref a0_6_12, .ref a0_6_13])), (a0_6_1, .inl (a0_6_1_c, 8, .inl a0_6_1_f)), (a0_6_3, .inl (a0_6_3_c, 4, .inl a0_6_3_f)), (a0_6_5, .inl (a0_6_5_c, 24, .inl a0_6_5_f)), (a0_6_6, .inl (a0_6_6_c, 24, .inl a0_6_6_f)), (a0_6_7, .inl (a0_6_7_c, 24, .inl a0_6_7_f)), (a0_6_9, .inl (a0_6_9_c, 12, .inl a0_6_9_f)), (a0_6_10, .inl (a0_6_10_c, 12, .inl a0_6_10_f)), (a0_6_11, .inl (a0_6_11_c, 12, .inl a0_6_11_f)), (a0_6_12, .inl (a0_6_12_c, 12, .inr (.inr (.inr (.inr a0_6_12_f))))), (a0_6_13, .inl (a0_6_13_c, 12, .inl a0_6_13_f)), (a0_8, .inr (2, [.ref a0_8_0, .ref a0_8_1, .ref a0_8_2, .ref a0_8_3, .ref a0_8_4, .ref a0_8_5])), (a0_8_0, .inl (a0_8_0_c, 24, .inl a0_8_0_f)), (a0_8_1, .inl (a0_8_1_c, 8, .inl a0_8_1_f)), (a0_8_2, .inl (a0_8_2_c, 12, .inl a0_8_2_f)), (a0_8_3, .inl (a0_8_3_c, 12, .inl a0_8_3_f)), (a0_8_4, .inl (a0_8_4_c, 12, .inr (.inr (.inr (.inr a0_8_4_f))))), (a0_8_5, .inl (a0_8_5_c, 12, .inr (.inr (.inr (.inr a0_8_5_f)))))] : va_W) ++ rows) U.heap ∧ va_K (dC, dI) vwCl [(a0_2_0_c, .int), (a0_2_1_c, .int), (a0_2_2_c, .array .int), (a0_2_3_c, .array .int), (a0_6_1_c, .int), (a0_6_3_c, .int), (a0_6_5_c, .int), (a0_6_6_c, .int), (a0_6_7_c, .int), (a0_6_9_c, .int), (a0_6_10_c, .int), (a0_6_11_c, .boolean), (a0_6_12_c, .array .int), (a0_6_13_c, .int), (a0_8_0_c, .int), (a0_8_1_c, .int), (a0_8_2_c, .int), (a0_8_3_c, .int), (a0_8_4_c, .array .int), (a0_8_5_c, .array .int)] U ∧ va_D (fun _ => True) (([(a0, .inr (7, [.ref a0_0, .ref a0_1, .ref a0_2, .ref a0_3, .ref a0_4, .ref a0_5, .ref a0_6, .ref a0_7, .ref a0_8, .ref a0_9, .int a0_10])), (a0_2, .inr (5, [.ref a0_2_0, .ref a0_2_1, .ref a0_2_2, .ref a0_2_3, .ref a0_2_4, .ref a0_2_5, .int a0_2_6, .int a0_2_7])), (a0_2_0, .inl (a0_2_0_c, 24, .inl a0_2_0_f)), (a0_2_1, .inl (a0_2_1_c, 24, .inl a0_2_1_f)), (a0_2_2, .inl (a0_2_2_c, 12, .inr (.inr (.inr (.inr a0_2_2_f))))), (a0_2_3, .inl (a0_2_3_c, 12, .inr (.inr (.inr (.inr a0_2_3_f))))), (a0_6, .inr (0, [.int a0_6_0, .ref a0_6_1, .int a0_6_2, .ref a0_6_3, .int a0_6_4, .ref a0_6_5, .ref a0_6_6, .ref a0_6_7, .int a0_6_8, .ref a0_6_9, .ref a0_6_10, .ref a0_6_11, .ref a0_6_12, .ref a0_6_13])), (a0_6_1, .inl (a0_6_1_c, 8, .inl a0_6_1_f)), (a0_6_3, .inl (a0_6_3_c, 4, .inl a0_6_3_f)), (a0_6_5, .inl (a0_6_5_c, 24, .inl a0_6_5_f)), (a0_6_6, .inl (a0_6_6_c, 24, .inl a0_6_6_f)), (a0_6_7, .inl (a0_6_7_c, 24, .inl a0_6_7_f)), (a0_6_9, .inl (a0_6_9_c, 12, .inl a0_6_9_f)), (a0_6_10, .inl (a0_6_10_c, 12, .inl a0_6_10_f)), (a0_6_11, .inl (a0_6_11_c, 12, .inl a0_6_11_f)), (a0_6_12, .inl (a0_6_12_c, 12, .inr (.inr (.inr (.inr a0_6_12_f))))), (a0_6_13, .inl (a0_6_13_c, 12, .inl a0_6_13_f)), (a0_8, .inr (2, [.ref a0_8_0, .ref a0_8_1, .ref a0_8_2, .ref a0_8_3, .ref a0_8_4, .ref a0_8_5])), (a0_8_0, .inl (a0_8_0_c, 24, .inl a0_8_0_f)), (a0_8_1, .inl (a0_8_1_c, 8, .inl a0_8_1_f)), (a0_8_2, .inl (a0_8_2_c, 12, .inl a0_8_2_f)), (a0_8_3, .inl (a0_8_3_c, 12, .inl a0_8_3_f)), (a0_8_4, .inl (a0_8_4_c, 12, .inr (.inr (.inr (.inr a0_8_4_f))))), (a0_8_5, .inl (a0_8_5_c, 12, .inr (.inr (.inr (.inr a0_8_5_f)))))] : va_W) ++ rows) ∧ Ev g (va_A (([(a0, .inr (7, [.ref a0_0, .ref a0_1, .ref a0_2, .ref a0_3, .ref a0_4, .ref a0_5, .ref a0_6, .ref a0_7, .ref a0_8, .ref a0_9, .int a0_10])), (a0_2, .inr (5, [.ref a0_2_0, .ref a0_2_1, .ref a0_2_2, .ref a0_2_3, .ref a0_2_4, .ref a0_2_5, .int a0_2_6, .int a0_2_7])), (a0_2_0, .inl (a0_2_0_c, 24, .inl a0_2_0_f)), (a0_2_1, .inl (a0_2_1_c, 24, .inl a0_2_1_f)), (a0_2_2, .inl (a0_2_2_c, 12, .inr (.inr (.inr (.inr a0_2_2_f))))), (a0_2_3, .inl (a0_2_3_c, 12, .inr (.inr (.inr (.inr a0_2_3_f))))), (a0_6, .inr (0, [.int a0_6_0, .ref a0_6_1, .int a0_6_2, .ref a0_6_3, .int a0_6_4, .ref a0_6_5, .ref a0_6_6, .ref a0_6_7, .int a0_6_8, .ref a0_6_9, .ref a0_6_10, .ref a0_6_11, .ref a0_6_12, .ref a0_6_13])), (a0_6_1, .inl (a0_6_1_c, 8, .inl a0_6_1_f)), (a0_6_3, .inl (a0_6_3_c, 4, .inl a0_6_3_f)), (a0_6_5, .inl (a0_6_5_c, 24, .inl a0_6_5_f)), (a0_6_6, .inl (a0_6_6_c, 24, .inl a0_6_6_f)), (a0_6_7, .inl (a0_6_7_c, 24, .inl a0_6_7_f)), (a0_6_9, .inl (a0_6_9_c, 12, .inl a0_6_9_f)), (a0_6_10, .inl (a0_6_10_c, 12, .inl a0_6_10_f)), (a0_6_11, .inl (a0_6_11_c, 12, .inl a0_6_11_f)), (a0_6_12, .inl (a0_6_12_c, 12, .inr (.inr (.inr (.inr a0_6_12_f))))), (a0_6_13, .inl (a0_6_13_c, 12, .inl a0_6_13_f)), (a0_8, .inr (2, [.ref a0_8_0, .ref a0_8_1, .ref a0_8_2, .ref a0_8_3, .ref a0_8_4, .ref a0_8_5])), (a0_8_0, .inl (a0_8_0_c, 24, .inl a0_8_0_f)), (a0_8_1, .inl (a0_8_1_c, 8, .inl a0_8_1_f)), (a0_8_2, .inl (a0_8_2_c, 12, .inl a0_8_2_f)), (a0_8_3, .inl (a0_8_3_c, 12, .inl a0_8_3_f)), (a0_8_4, .inl (a0_8_4_c, 12, .inr (.inr (.inr (.inr a0_8_4_f))))), (a0_8_5, .inl (a0_8_5_c, 12, .inr (.inr (.inr (.inr a0_8_5_f)))))] : va_W) ++ rows) sz) U)) (va_Qi (fun (r : Int32) (u : Int32) => u = r) (fun (u : Int32) (t : State) => ∃ (za0_10 : Int32) (za0_2_6 : Int32) (za0_2_7 : Int32) (za0_2_0_f : Nat → Int32) (za0_2_1_f : Nat → Int32) (zrows : va_W), (0 ≤ za0_2_6.toInt ∧ za0_2_6.toInt ≤ 24) ∧ (0 ≤ za0_2_7.toInt ∧ za0_2_7.toInt ≤ 12) ∧ RS g.2.2.2.2.1 rows zrows ∧ va_P (dC, dI) vwCl (([(a0, .inr (7, [.ref a0_0, .ref a0_1, .ref a0_2, .ref a0_3, .ref a0_4, .ref a0_5, .ref a0_6, .ref a0_7, .ref a0_8, .ref a0_9, .int za0_10])), (a0_2, .inr (5, [.ref a0_2_0, .ref a0_2_1, .ref a0_2_2, .ref a0_2_3, .ref a0_2_4, .ref a0_2_5, .int za0_2_6, .int za0_2_7])), (a0_2_0, .inl (a0_2_0_c, 24, .inl za0_2_0_f)), (a0_2_1, .inl (a0_2_1_c, 24, .inl za0_2_1_f)), (a0_2_2, .inl (a0_2_2_c, 12, .inr (.inr (.inr (.inr a0_2_2_f))))), (a0_2_3, .inl (a0_2_3_c, 12, .inr (.inr (.inr (.inr a0_2_3_f))))), (a0_6, .inr (0, [.int a0_6_0, .ref a0_6_1, .int a0_6_2, .ref a0_6_3, .int a0_6_4, .ref a0_6_5, .ref a0_6_6, .ref a0_6_7, .int a0_6_8, .ref a0_6_9, .ref a0_6_10, .ref a0_6_11, .ref a0_6_12, .ref a0_6_13])), (a0_6_1, .inl (a0_6_1_c, 8, .inl a0_6_1_f)), (a0_6_3, .inl (a0_6_3_c, 4, .inl a0_6_3_f)), (a0_6_5, .inl (a0_6_5_c, 24, .inl a0_6_5_f)), (a0_6_6, .inl (a0_6_6_c, 24, .inl a0_6_6_f)), (a0_6_7, .inl (a0_6_7_c, 24, .inl a0_6_7_f)), (a0_6_9, .inl (a0_6_9_c, 12, .inl a0_6_9_f)), (a0_6_10, .inl (a0_6_10_c, 12, .inl a0_6_10_f)), (a0_6_11, .inl (a0_6_11_c, 12, .inl a0_6_11_f)), (a0_6_12, .inl (a0_6_12_c, 12, .inr (.inr (.inr (.inr a0_6_12_f))))), (a0_6_13, .inl (a0_6_13_c, 12, .inl a0_6_13_f)), (a0_8, .inr (2, [.ref a0_8_0, .ref a0_8_1, .ref a0_8_2, .ref a0_8_3, .ref a0_8_4, .ref a0_8_5])), (a0_8_0, .inl (a0_8_0_c, 24, .inl a0_8_0_f)), (a0_8_1, .inl (a0_8_1_c, 8, .inl a0_8_1_f)), (a0_8_2, .inl (a0_8_2_c, 12, .inl a0_8_2_f)), (a0_8_3, .inl (a0_8_3_c, 12, .inl a0_8_3_f)), (a0_8_4, .inl (a0_8_4_c, 12, .inr (.inr (.inr (.inr a0_8_4_f))))), (a0_8_5, .inl (a0_8_5_c, 12, .inr (.inr (.inr (.inr a0_8_5_f)))))] : va_W) ++ zrows) t.heap ∧ va_K (dC, dI) vwCl [] t ∧ va_D (va_A (([(a0, .inr (7, [.ref a0_0, .ref a0_1, .ref a0_2, .ref a0_3, .ref a0_4, .ref a0_5, .ref a0_6, .ref a0_7, .ref a0_8, .ref a0_9, .int a0_10])), (a0_2, .inr (5, [.ref a0_2_0, .ref a0_2_1, .ref a0_2_2, .ref a0_2_3, .ref a0_2_4, .ref a0_2_5, .int a0_2_6, .int a0_2_7])), (a0_2_0, .inl (a0_2_0_c, 24, .inl a0_2_0_f)), (a0_2_1, .inl (a0_2_1_c, 24, .inl a0_2_1_f)), (a0_2_2, .inl (a0_2_2_c, 12, .inr (.inr (.inr (.inr a0_2_2_f))))), (a0_2_3, .inl (a0_2_3_c, 12, .inr (.inr (.inr (.inr a0_2_3_f))))), (a0_6, .inr (0, [.int a0_6_0, .ref a0_6_1, .int a0_6_2, .ref a0_6_3, .int a0_6_4, .ref a0_6_5, .ref a0_6_6, .ref a0_6_7, .int a0_6_8, .ref a0_6_9, .ref a0_6_10, .ref a0_6_11, .ref a0_6_12, .ref a0_6_13])), (a0_6_1, .inl (a0_6_1_c, 8, .inl a0_6_1_f)), (a0_6_3, .inl (a0_6_3_c, 4, .inl a0_6_3_f)), (a0_6_5, .inl (a0_6_5_c, 24, .inl a0_6_5_f)), (a0_6_6, .inl (a0_6_6_c, 24, .inl a0_6_6_f)), (a0_6_7, .inl (a0_6_7_c, 24, .inl a0_6_7_f)), (a0_6_9, .inl (a0_6_9_c, 12, .inl a0_6_9_f)), (a0_6_10, .inl (a0_6_10_c, 12, .inl a0_6_10_f)), (a0_6_11, .inl (a0_6_11_c, 12, .inl a0_6_11_f)), (a0_6_12, .inl (a0_6_12_c, 12, .inr (.inr (.inr (.inr a0_6_12_f))))), (a0_6_13, .inl (a0_6_13_c, 12, .inl a0_6_13_f)), (a0_8, .inr (2, [.ref a0_8_0, .ref a0_8_1, .ref a0_8_2, .ref a0_8_3, .ref a0_8_4, .ref a0_8_5])), (a0_8_0, .inl (a0_8_0_c, 24, .inl a0_8_0_f)), (a0_8_1, .inl (a0_8_1_c, 8, .inl a0_8_1_f)), (a0_8_2, .inl (a0_8_2_c, 12, .inl a0_8_2_f)), (a0_8_3, .inl (a0_8_3_c, 12, .inl a0_8_3_f)), (a0_8_4, .inl (a0_8_4_c, 12, .inr (.inr (.inr (.inr a0_8_4_f))))), (a0_8_5, .inl (a0_8_5_c, 12, .inr (.inr (.inr (.inr a0_8_5_f)))))] : va_W) ++ rows) sz) (([(a0, .inr (7, [.ref a0_0, .ref a0_1, .ref a0_2, .ref a0_3, .ref a0_4, .ref a0_5, .ref a0_6, .ref a0_7, .ref a0_8, .ref a0_9, .int za0_10])), (a0_2, .inr (5, [.ref a0_2_0, .ref a0_2_1, .ref a0_2_2, .ref a0_2_3, .ref a0_2_4, .ref a0_2_5, .int za0_2_6, .int za0_2_7])), (a0_2_0, .inl (a0_2_0_c, 24, .inl za0_2_0_f)), (a0_2_1, .inl (a0_2_1_c, 24, .inl za0_2_1_f)), (a0_2_2, .inl (a0_2_2_c, 12, .inr (.inr (.inr (.inr a0_2_2_f))))), (a0_2_3, .inl (a0_2_3_c, 12, .inr (.inr (.inr (.inr a0_2_3_f))))), (a0_6, .inr (0, [.int a0_6_0, .ref a0_6_1, .int a0_6_2, .ref a0_6_3, .int a0_6_4, .ref a0_6_5, .ref a0_6_6, .ref a0_6_7, .int a0_6_8, .ref a0_6_9, .ref a0_6_10, .ref a0_6_11, .ref a0_6_12, .ref a0_6_13])), (a0_6_1, .inl (a0_6_1_c, 8, .inl a0_6_1_f)), (a0_6_3, .inl (a0_6_3_c, 4, .inl a0_6_3_f)), (a0_6_5, .inl (a0_6_5_c, 24, .inl a0_6_5_f)), (a0_6_6, .inl (a0_6_6_c, 24, .inl a0_6_6_f)), (a0_6_7, .inl (a0_6_7_c, 24, .inl a0_6_7_f)), (a0_6_9, .inl (a0_6_9_c, 12, .inl a0_6_9_f)), (a0_6_10, .inl (a0_6_10_c, 12, .inl a0_6_10_f)), (a0_6_11, .inl (a0_6_11_c, 12, .inl a0_6_11_f)), (a0_6_12, .inl (a0_6_12_c, 12, .inr (.inr (.inr (.inr a0_6_12_f))))), (a0_6_13, .inl (a0_6_13_c, 12, .inl a0_6_13_f)), (a0_8, .inr (2, [.ref a0_8_0, .ref a0_8_1, .ref a0_8_2, .ref a0_8_3, .ref a0_8_4, .ref a0_8_5])), (a0_8_0, .inl (a0_8_0_c, 24, .inl a0_8_0_f)), (a0_8_1, .inl (a0_8_1_c, 8, .inl a0_8_1_f)), (a0_8_2, .inl (a0_8_2_c, 12, .inl a0_8_2_f)), (a0_8_3, .inl (a0_8_3_c, 12, .inl a0_8_3_f)), (a0_8_4, .inl (a0_8_4_c, 12, .inr (.inr (.inr (.inr a0_8_4_f))))), (a0_8_5, .inl (a0_8_5_c, 12, .inr (.inr (.inr (.inr a0_8_5_f)))))] : va_W) ++ zrows)) (va_A (([(a0, .inr (7, [.ref a0_0, .ref a0_1, .ref a0_2, .ref a0_3, .ref a0_4, .ref a0_5, .ref a0_6, .ref a0_7, .ref a0_8, .ref a0_9, .int a0_10])), (a0_2, .inr (5, [.ref a0_2_0, .ref a0_2_1, .ref a0_2_2, .ref a0_2_3, .ref a0_2_4, .ref a0_2_5, .int a0_2_6, .int a0_2_7])), (a0_2_0, .inl (a0_2_0_c, 24, .inl a0_2_0_f)), (a0_2_1, .inl (a0_2_1_c, 24, .inl a0_2_1_f)), (a0_2_2, .inl (a0_2_2_c, 12, .inr (.inr (.inr (.inr a0_2_2_f))))), (a0_2_3, .inl (a0_2_3_c, 12, .inr (.inr (.inr (.inr a0_2_3_f))))), (a0_6, .inr (0, [.int a0_6_0, .ref a0_6_1, .int a0_6_2, .ref a0_6_3, .int a0_6_4, .ref a0_6_5, .ref a0_6_6, .ref a0_6_7, .int a0_6_8, .ref a0_6_9, .ref a0_6_10, .ref a0_6_11, .ref a0_6_12, .ref a0_6_13])), (a0_6_1, .inl (a0_6_1_c, 8, .inl a0_6_1_f)), (a0_6_3, .inl (a0_6_3_c, 4, .inl a0_6_3_f)), (a0_6_5, .inl (a0_6_5_c, 24, .inl a0_6_5_f)), (a0_6_6, .inl (a0_6_6_c, 24, .inl a0_6_6_f)), (a0_6_7, .inl (a0_6_7_c, 24, .inl a0_6_7_f)), (a0_6_9, .inl (a0_6_9_c, 12, .inl a0_6_9_f)), (a0_6_10, .inl (a0_6_10_c, 12, .inl a0_6_10_f)), (a0_6_11, .inl (a0_6_11_c, 12, .inl a0_6_11_f)), (a0_6_12, .inl (a0_6_12_c, 12, .inr (.inr (.inr (.inr a0_6_12_f))))), (a0_6_13, .inl (a0_6_13_c, 12, .inl a0_6_13_f)), (a0_8, .inr (2, [.ref a0_8_0, .ref a0_8_1, .ref a0_8_2, .ref a0_8_3, .ref a0_8_4, .ref a0_8_5])), (a0_8_0, .inl (a0_8_0_c, 24, .inl a0_8_0_f)), (a0_8_1, .inl (a0_8_1_c, 8, .inl a0_8_1_f)), (a0_8_2, .inl (a0_8_2_c, 12, .inl a0_8_2_f)), (a0_8_3, .inl (a0_8_3_c, 12, .inl a0_8_3_f)), (a0_8_4, .inl (a0_8_4_c, 12, .inr (.inr (.inr (.inr a0_8_4_f))))), (a0_8_5, .inl (a0_8_5_c, 12, .inr (.inr (.inr (.inr a0_8_5_f)))))] : va_W) ++ rows) sz)) 0 0 (va_A (([(a0, .inr (7, [.ref a0_0, .ref a0_1, .ref a0_2, .ref a0_3, .ref a0_4, .ref a0_5, .ref a0_6, .ref a0_7, .ref a0_8, .ref a0_9, .int a0_10])), (a0_2, .inr (5, [.ref a0_2_0, .ref a0_2_1, .ref a0_2_2, .ref a0_2_3, .ref a0_2_4, .ref a0_2_5, .int a0_2_6, .int a0_2_7])), (a0_2_0, .inl (a0_2_0_c, 24, .inl a0_2_0_f)), (a0_2_1, .inl (a0_2_1_c, 24, .inl a0_2_1_f)), (a0_2_2, .inl (a0_2_2_c, 12, .inr (.inr (.inr (.inr a0_2_2_f))))), (a0_2_3, .inl (a0_2_3_c, 12, .inr (.inr (.inr (.inr a0_2_3_f))))), (a0_6, .inr (0, [.int a0_6_0, .ref a0_6_1, .int a0_6_2, .ref a0_6_3, .int a0_6_4, .ref a0_6_5, .ref a0_6_6, .ref a0_6_7, .int a0_6_8, .ref a0_6_9, .ref a0_6_10, .ref a0_6_11, .ref a0_6_12, .ref a0_6_13])), (a0_6_1, .inl (a0_6_1_c, 8, .inl a0_6_1_f)), (a0_6_3, .inl (a0_6_3_c, 4, .inl a0_6_3_f)), (a0_6_5, .inl (a0_6_5_c, 24, .inl a0_6_5_f)), (a0_6_6, .inl (a0_6_6_c, 24, .inl a0_6_6_f)), (a0_6_7, .inl (a0_6_7_c, 24, .inl a0_6_7_f)), (a0_6_9, .inl (a0_6_9_c, 12, .inl a0_6_9_f)), (a0_6_10, .inl (a0_6_10_c, 12, .inl a0_6_10_f)), (a0_6_11, .inl (a0_6_11_c, 12, .inl a0_6_11_f)), (a0_6_12, .inl (a0_6_12_c, 12, .inr (.inr (.inr (.inr a0_6_12_f))))), (a0_6_13, .inl (a0_6_13_c, 12, .inl a0_6_13_f)), (a0_8, .inr (2, [.ref a0_8_0, .ref a0_8_1, .ref a0_8_2, .ref a0_8_3, .ref a0_8_4, .ref a0_8_5])), (a0_8_0, .inl (a0_8_0_c, 24, .inl a0_8_0_f)), (a0_8_1, .inl (a0_8_1_c, 8, .inl a0_8_1_f)), (a0_8_2, .inl (a0_8_2_c, 12, .inl a0_8_2_f)), (a0_8_3, .inl (a0_8_3_c, 12, .inl a0_8_3_f)), (a0_8_4, .inl (a0_8_4_c, 12, .inr (.inr (.inr (.inr a0_8_4_f))))), (a0_8_5, .inl (a0_8_5_c, 12, .inr (.inr (.inr (.inr a0_8_5_f)))))] : va_W) ++ rows) sz) := by
  refine Met.ofW (cc := cX8_open) (maxL := 3) (ret := (some .int)) (by decide) rfl ?_
  intro p e s m args below meth c s₁ B hml hv
  obtain ⟨rfl, hsz, hP, hK, hD0, hE⟩ := hv
  have hx := B.exec
  have hb := B.bytes
  have hr := B.returns
  have hts0 := atoms_spec (ws := (.code yX8_open cX8_open 3 (some .int) :: TBL)) B.pre
  have hts := fun (w : Cond) (h : w ∈ TBL) => hts0 w (List.mem_cons_of_mem _ h)
  have hown : s.vm.findClass RX8 = some m.cls := findClass_of_methodNamed B.named
  have hlocks := B.notSynchronized
  have hN := hE.1
  subst hsz
  have hD := hD0.self (sz := s.heap.size)
  generalize hAe : va_A (([(a0, .inr (7, [.ref a0_0, .ref a0_1, .ref a0_2, .ref a0_3, .ref a0_4, .ref a0_5, .ref a0_6, .ref a0_7, .ref a0_8, .ref a0_9, .int a0_10])), (a0_2, .inr (5, [.ref a0_2_0, .ref a0_2_1, .ref a0_2_2, .ref a0_2_3, .ref a0_2_4, .ref a0_2_5, .int a0_2_6, .int a0_2_7])), (a0_2_0, .inl (a0_2_0_c, 24, .inl a0_2_0_f)), (a0_2_1, .inl (a0_2_1_c, 24, .inl a0_2_1_f)), (a0_2_2, .inl (a0_2_2_c, 12, .inr (.inr (.inr (.inr a0_2_2_f))))), (a0_2_3, .inl (a0_2_3_c, 12, .inr (.inr (.inr (.inr a0_2_3_f))))), (a0_6, .inr (0, [.int a0_6_0, .ref a0_6_1, .int a0_6_2, .ref a0_6_3, .int a0_6_4, .ref a0_6_5, .ref a0_6_6, .ref a0_6_7, .int a0_6_8, .ref a0_6_9, .ref a0_6_10, .ref a0_6_11, .ref a0_6_12, .ref a0_6_13])), (a0_6_1, .inl (a0_6_1_c, 8, .inl a0_6_1_f)), (a0_6_3, .inl (a0_6_3_c, 4, .inl a0_6_3_f)), (a0_6_5, .inl (a0_6_5_c, 24, .inl a0_6_5_f)), (a0_6_6, .inl (a0_6_6_c, 24, .inl a0_6_6_f)), (a0_6_7, .inl (a0_6_7_c, 24, .inl a0_6_7_f)), (a0_6_9, .inl (a0_6_9_c, 12, .inl a0_6_9_f)), (a0_6_10, .inl (a0_6_10_c, 12, .inl a0_6_10_f)), (a0_6_11, .inl (a0_6_11_c, 12, .inl a0_6_11_f)), (a0_6_12, .inl (a0_6_12_c, 12, .inr (.inr (.inr (.inr a0_6_12_f))))), (a0_6_13, .inl (a0_6_13_c, 12, .inl a0_6_13_f)), (a0_8, .inr (2, [.ref a0_8_0, .ref a0_8_1, .ref a0_8_2, .ref a0_8_3, .ref a0_8_4, .ref a0_8_5])), (a0_8_0, .inl (a0_8_0_c, 24, .inl a0_8_0_f)), (a0_8_1, .inl (a0_8_1_c, 8, .inl a0_8_1_f)), (a0_8_2, .inl (a0_8_2_c, 12, .inl a0_8_2_f)), (a0_8_3, .inl (a0_8_3_c, 12, .inl a0_8_3_f)), (a0_8_4, .inl (a0_8_4_c, 12, .inr (.inr (.inr (.inr a0_8_4_f))))), (a0_8_5, .inl (a0_8_5_c, 12, .inr (.inr (.inr (.inr a0_8_5_f)))))] : va_W) ++ rows) s.heap.size = A at hD hE ⊢
  have hA : ∀ q : Nat, s.heap.size ≤ q → A q := fun q h => by rw [← hAe]; exact Or.inr h
  have hS : va_S A s.heap s.heap [] := va_S.rf
  replace hP : va_P (dC, dI) vwCl (([(a0, .inr (7, [.ref a0_0, .ref a0_1, .ref a0_2, .ref a0_3, .ref a0_4, .ref a0_5, .ref a0_6, .ref a0_7, .ref a0_8, .ref a0_9, .int a0_10])), (a0_2, .inr (5, [.ref a0_2_0, .ref a0_2_1, .ref a0_2_2, .ref a0_2_3, .ref a0_2_4, .ref a0_2_5, .int a0_2_6, .int a0_2_7])), (a0_2_0, .inl (a0_2_0_c, 24, .inl a0_2_0_f)), (a0_2_1, .inl (a0_2_1_c, 24, .inl a0_2_1_f)), (a0_2_2, .inl (a0_2_2_c, 12, .inr (.inr (.inr (.inr a0_2_2_f))))), (a0_2_3, .inl (a0_2_3_c, 12, .inr (.inr (.inr (.inr a0_2_3_f))))), (a0_6, .inr (0, [.int a0_6_0, .ref a0_6_1, .int a0_6_2, .ref a0_6_3, .int a0_6_4, .ref a0_6_5, .ref a0_6_6, .ref a0_6_7, .int a0_6_8, .ref a0_6_9, .ref a0_6_10, .ref a0_6_11, .ref a0_6_12, .ref a0_6_13])), (a0_6_1, .inl (a0_6_1_c, 8, .inl a0_6_1_f)), (a0_6_3, .inl (a0_6_3_c, 4, .inl a0_6_3_f)), (a0_6_5, .inl (a0_6_5_c, 24, .inl a0_6_5_f)), (a0_6_6, .inl (a0_6_6_c, 24, .inl a0_6_6_f)), (a0_6_7, .inl (a0_6_7_c, 24, .inl a0_6_7_f)), (a0_6_9, .inl (a0_6_9_c, 12, .inl a0_6_9_f)), (a0_6_10, .inl (a0_6_10_c, 12, .inl a0_6_10_f)), (a0_6_11, .inl (a0_6_11_c, 12, .inl a0_6_11_f)), (a0_6_12, .inl (a0_6_12_c, 12, .inr (.inr (.inr (.inr a0_6_12_f))))), (a0_6_13, .inl (a0_6_13_c, 12, .inl a0_6_13_f)), (a0_8, .inr (2, [.ref a0_8_0, .ref a0_8_1, .ref a0_8_2, .ref a0_8_3, .ref a0_8_4, .ref a0_8_5])), (a0_8_0, .inl (a0_8_0_c, 24, .inl a0_8_0_f)), (a0_8_1, .inl (a0_8_1_c, 8, .inl a0_8_1_f)), (a0_8_2, .inl (a0_8_2_c, 12, .inl a0_8_2_f)), (a0_8_3, .inl (a0_8_3_c, 12, .inl a0_8_3_f)), (a0_8_4, .inl (a0_8_4_c, 12, .inr (.inr (.inr (.inr a0_8_4_f))))), (a0_8_5, .inl (a0_8_5_c, 12, .inr (.inr (.inr (.inr a0_8_5_f)))))] : va_W) ++ rows) s.heap := hP
  have hl := lv_entry ([.ref a0, .int a1, .int a2]) (n := 3) (Nat.le_of_ble_eq_true rfl)
  rw [lg_entry_eq]
  generalize (lg_sl ([.ref a0, .int a1, .int a2]) ++ List.replicate (3 - (lg_sl ([.ref a0, .int a1, .int a2])).length) Slot.unset).toArray = ls at hl ⊢
  have hl : lv_has ls 3 [(0, .ref a0), (1, .int a1), (2, .int a2)] := hl
  have hK := cyK hK (hts (.arrayClass .int) qw_54) hE.2.2.2.2.2.2.2.2.2.2.2.2.1
  replace hK : va_K (dC, dI) vwCl [(a0_2_0_c, .int), (a0_2_1_c, .int), (a0_2_2_c, .array .int), (a0_2_3_c, .array .int), (a0_6_1_c, .int), (a0_6_3_c, .int), (a0_6_5_c, .int), (a0_6_6_c, .int), (a0_6_7_c, .int), (a0_6_9_c, .int), (a0_6_10_c, .int), (a0_6_11_c, .boolean), (a0_6_12_c, .array .int), (a0_6_13_c, .int), (a0_8_0_c, .int), (a0_8_1_c, .int), (a0_8_2_c, .int), (a0_8_3_c, .int), (a0_8_4_c, .array .int), (a0_8_5_c, .array .int), (g.2.2.2.2.1, .int)] s := hK
  have b_a1 := i32b a1
  have b_a2 := i32b a2
  have b_a0_10 := i32b a0_10
  have hRS : RS g.2.2.2.2.1 rows rows := RS.rf
  refine lv_iload_n hx hb dX8_open_0 rfl (lv_at hl 1 rfl) ?_
  have hPc := (rgP24_c46fd41 hP)
  have hKc := (rgK21_98db583 hK)
  refine vp_callSi ((va_runS (As := [.int a1]) (rest := []) ⟨hx, hb, hml, hown, hts⟩ (k_X8_isDayOrLate l dC dI g (a1) ) (va_cwS 1 hts (gwS qw_260 qw_261 qw_28 qw_259) rfl rfl rfl (by decide +kernel) ⟨Nat.le_of_ble_eq_true rfl, Nat.le_of_ble_eq_true rfl⟩) ⟨fun a U g9 mk q => ⟨q.1, q.2.1, va_K.moved (u := U) (U := U.calling g9 mk a) (Vm.Alike.refl U.vm) q.2.2.1, Ev.bl q.2.2.2⟩, fun U hU hW => ⟨rfl, atB hU hPc, va_K.moved hW.alike hKc, hE.go hS (fun _ h => h.elim) hU hW⟩⟩ rfl rfl hl.1 rfl (lv_room (Nat.le_of_ble_eq_true rfl)) dX8_open_1 ⟨Nat.le_of_ble_eq_true rfl, Nat.le_of_ble_eq_true rfl⟩)).run (fun r1 h_r1 => ?_)
  have h_r1 : (r1 = 0 ∨ r1 = 1) := h_r1
  have b_r1 := z01 (show r1 = 0 ∨ r1 = 1 from h_r1)
  refine lv_if_eq (tgt := 14) hx hb dX8_open_4 (by decide) (fun c4_2 => ?_) (fun c4_2 => ?_)
  · have c4_2 : r1.toInt = 0 := (cv_eq rfl (by decide)).mp c4_2
    refine lv_iconst (v := (-1)) hx hb dX8_open_14 (by decide) ?_
    have qcm1 : ((-1) : Int32).toInt = (-1) := by decide
    refine W.widen (k := 0) (n := 0) (Nat.le_of_ble_eq_true rfl) (Nat.le_of_ble_eq_true rfl) ?_
    have hP9 := hP
    have hD9 := hD
    have hK9 := (rgK21_98db583 hK)
    have hf9_0 : (0 ≤ a0_2_6.toInt ∧ a0_2_6.toInt ≤ 24) := by omega
    have hf9_1 : (0 ≤ a0_2_7.toInt ∧ a0_2_7.toInt ≤ 12) := by omega
    have hf9_2 : RS g.2.2.2.2.1 rows rows := hRS
    exact W.iret (v := (-1)) hx hb hr (fun t ht hW => ⟨⟨(-1), (-1), rfl, rfl, a0_10, a0_2_6, a0_2_7, a0_2_0_f, a0_2_1_f, rows, hf9_0, hf9_1, hf9_2, atB ht hP9, va_K.moved hW.alike hK9, hD9⟩, hS.F ht⟩) hS.2.2 dX8_open_15
  · have c4_2 : ¬ (r1.toInt = 0) := mt (cv_eq rfl (by decide)).mpr c4_2
    refine lv_iload_n hx hb dX8_open_7 rfl (lv_at hl 2 rfl) ?_
    have hPc := (rgP24_c46fd41 hP)
    have hKc := (rgK21_98db583 hK)
    refine vp_callSi ((va_runS (As := [.int a2]) (rest := []) ⟨hx, hb, hml, hown, hts⟩ (k_X8_areReaders l dC dI g (a2) ) (va_cwS 1 hts (gwS qw_326 qw_327 qw_28 qw_325) rfl rfl rfl (by decide +kernel) ⟨Nat.le_of_ble_eq_true rfl, Nat.le_of_ble_eq_true rfl⟩) ⟨fun a U g9 mk q => ⟨q.1, q.2.1, va_K.moved (u := U) (U := U.calling g9 mk a) (Vm.Alike.refl U.vm) q.2.2.1, Ev.bl q.2.2.2⟩, fun U hU hW => ⟨rfl, atB hU hPc, va_K.moved hW.alike hKc, hE.go hS (fun _ h => h.elim) hU hW⟩⟩ rfl rfl hl.1 rfl (lv_room (Nat.le_of_ble_eq_true rfl)) dX8_open_8 ⟨Nat.le_of_ble_eq_true rfl, Nat.le_of_ble_eq_true rfl⟩)).run (fun r3 h_r3 => ?_)
    have h_r3 : (r3 = 0 ∨ r3 = 1) := h_r3
    have b_r3 := z01 (show r3 = 0 ∨ r3 = 1 from h_r3)
    refine lv_if_ne (tgt := 16) hx hb dX8_open_11 (by decide) (fun c11_4 => ?_) (fun c11_4 => ?_)
    · have c11_4 : ¬ (r3.toInt = 0) := mt (cv_eq rfl (by decide)).mpr c11_4
      refine lv_aload_n hx hb dX8_open_16 rfl (lv_at hl 0 rfl) ?_
      have hPc := hP
      have hKc := (rgK21_94c7792 hK)
      have hDc := hD
      have hFc := freeW hDc hS hA
      refine va_callr (va_runV (As := []) (rest := []) ⟨hx, hb, hml, hown, hts⟩ (k_X8_upToDate l dC dI g s.heap.size (a0) (a0_0) (a0_1) (a0_2) (a0_3) (a0_4) (a0_5) (a0_6) (a0_7) (a0_8) (a0_9) (a0_10) (a0_2_0) (a0_2_1) (a0_2_2) (a0_2_3) (a0_2_4) (a0_2_5) (a0_2_6) (a0_2_7) (a0_2_0_c) (a0_2_0_f) (a0_2_1_c) (a0_2_1_f) (a0_2_2_c) (a0_2_2_f) (a0_2_3_c) (a0_2_3_f) (a0_6_0) (a0_6_1) (a0_6_2) (a0_6_3) (a0_6_4) (a0_6_5) (a0_6_6) (a0_6_7) (a0_6_8) (a0_6_9) (a0_6_10) (a0_6_11) (a0_6_12) (a0_6_13) (a0_6_1_c) (a0_6_1_f) (a0_6_3_c) (a0_6_3_f) (a0_6_5_c) (a0_6_5_f) (a0_6_6_c) (a0_6_6_f) (a0_6_7_c) (a0_6_7_f) (a0_6_9_c) (a0_6_9_f) (a0_6_10_c) (a0_6_10_f) (a0_6_11_c) (a0_6_11_f) (a0_6_12_c) (a0_6_12_f) (a0_6_13_c) (a0_6_13_f) (a0_8_0) (a0_8_1) (a0_8_2) (a0_8_3) (a0_8_4) (a0_8_5) (a0_8_0_c) (a0_8_0_f) (a0_8_1_c) (a0_8_1_f) (a0_8_2_c) (a0_8_2_f) (a0_8_3_c) (a0_8_3_f) (a0_8_4_c) (a0_8_4_f) (a0_8_5_c) (a0_8_5_f) (rows) (by omega) (by omega) (RS.gr hRS h_a0_2_2_f) (RS.gr hRS h_a0_2_3_f) (by omega) (by omega) (by omega) (by omega) (RS.gr hRS h_a0_6_12_f) h_a0_8_3_f (RS.gr hRS h_a0_8_4_f) (RS.gr hRS h_a0_8_5_f) (by assumption)) (cwV 0 hts (gwV qw_316 qw_317 qw_318 qw_28 qw_315) rfl rfl rfl (by decide +kernel) ⟨Nat.le_of_ble_eq_true rfl, Nat.le_of_ble_eq_true rfl⟩) ⟨fun a U g9 mk q => ⟨q.1, q.2.1, q.2.2.1, va_K.moved (u := U) (U := U.calling g9 mk a) (Vm.Alike.refl U.vm) q.2.2.2.1, q.2.2.2.2.1, Ev.bl q.2.2.2.2.2⟩, va_recv hK hP (ci := 7) (q0 := 0) rfl rgL24_10cdad0, fun U hU hW => ⟨rfl, by rw [hU], atB hU hPc, va_K.moved hW.alike hKc, hDc.weaken (fun _ _ _ _ => trivial), hE.go hS hFc hU hW⟩⟩ rfl rfl hl.1 rfl (lv_room (Nat.le_of_ble_eq_true rfl)) dX8_open_17 ⟨Nat.le_of_ble_eq_true rfl, Nat.le_of_ble_eq_true rfl⟩) hS (fun q _ h => hFc q h) hFc (fun u5 r6 t H1 locs ht hvm h_u5 hB hz1 hk1 hS => ?_)
      obtain ⟨hrr, za0_10_7, za0_2_6_8, za0_2_7_9, za0_2_0_f_10, za0_2_1_f_11, zrows_12, hF13, hF14, hF15, hP1, hK1, hD1⟩ := hB
      have hK1 := va_K.moved hvm.symm hK1
      have hJ9 := rgJ24_e25e203 hP hD hk1 hFc (atH ht hP1) hD1
      clear hP hD hPc hKc hDc hFc hP1 hD1 hk1 hz1
      obtain ⟨hP, hD⟩ := hJ9
      clear hK1
      generalize H1 = H at hP hS ⊢
      refine W.widen (k := 0) (n := 0) (Nat.le_of_ble_eq_true rfl) (Nat.le_of_ble_eq_true rfl) ?_
      refine topv (w := .ref a0_2) (by rw [hrr]) ?_
      have hRS := RS.tr hRS hF15
      refine lv_iload_n hx hb dX8_open_20 rfl (lv_at hl 1 rfl) ?_
      refine lv_aload_n hx hb dX8_open_21 rfl (lv_at hl 0 rfl) ?_
      refine va_get (D := (dC, dI)) (ci := 7) (v := .ref a0_6) (C := RX8) (T := TX8) (N := 11) hx hb hts inlX8 hown hK hP 0 rgL24_10cdad0 rfl 6 (by decide) (hts (.fieldLink RX8 51 "ClosedUntil" "told" "LClosedUntil$Holdings;") qw_262) (fun _ h9 => h9) rfl dX8_open_22 ?_
      refine lv_iload_n hx hb dX8_open_25 rfl (lv_at hl 2 rfl) ?_
      have hPc := (rgP24_0696254 hP)
      have hKc := (rgK21_2220a6b hK)
      refine vp_callSi ((va_runVN (As := [.int a2]) (rest := [.int a1, .ref a0_2]) ⟨hx, hb, hml, hown, hts⟩ (k_X1_holdingFor l dC dI g (a0_6) (a2) (a0_6_0) (a0_6_1) (a0_6_2) (a0_6_3) (a0_6_4) (a0_6_5) (a0_6_6) (a0_6_7) (a0_6_8) (a0_6_9) (a0_6_10) (a0_6_11) (a0_6_12) (a0_6_13) (a0_6_9_c) (a0_6_9_f) (by omega) (by omega) (by omega) (by omega)) ⟨va_cnB 1 hts (gwC qw_328) rfl rfl rfl (nm_36 hN) (hts (.initialized RX1) qw_183) (by decide +kernel) ⟨Nat.le_of_ble_eq_true rfl, Nat.le_of_ble_eq_true rfl⟩, (hts (.instanceMethod yX1_holdingFor) qw_329), (hts (.selects RX1 yX1_holdingFor yX1_holdingFor) qw_330)⟩ ⟨fun a U g9 mk q => ⟨q.1, q.2.1, va_K.moved (u := U) (U := U.calling g9 mk a) (Vm.Alike.refl U.vm) q.2.2.1, Ev.bl q.2.2.2⟩, va_recv hK hP (ci := 0) (q0 := 6) rfl rgL24_1681731, fun U hU hW => ⟨rfl, atB hU hPc, va_K.moved hW.alike hKc, hE.go hS (fun _ h => h.elim) hU hW⟩⟩ rfl rfl hl.1 rfl (lv_room (Nat.le_of_ble_eq_true rfl)) dX8_open_26 ⟨Nat.le_of_ble_eq_true rfl, Nat.le_of_ble_eq_true rfl⟩)).run (fun r16 h_r16 => ?_)
      have b_r16 := i32b r16
      have hPc := (rgP24_69b5983 hP)
      have hKc := (rgK21_ffbac61 hK)
      refine vp_callSi ((va_runVN (As := [.int a1, .int r16]) (rest := []) ⟨hx, hb, hml, hown, hts⟩ (k_X6_openOn l dC dI g (a0_2) (a1) (r16) (a0_2_0) (a0_2_1) (a0_2_2) (a0_2_3) (a0_2_4) (a0_2_5) (za0_2_6_8) (za0_2_7_9) (a0_2_3_c) (a0_2_3_f) (zrows_12) (by omega) (by omega) (RS.gr hRS h_a0_2_3_f)) ⟨va_cnB 2 hts (gwC qw_333) rfl rfl rfl (nm_40 hN) (hts (.initialized RX6) qw_133) (by decide +kernel) ⟨Nat.le_of_ble_eq_true rfl, Nat.le_of_ble_eq_true rfl⟩, (hts (.instanceMethod yX6_openOn) qw_334), (hts (.selects RX6 yX6_openOn yX6_openOn) qw_335)⟩ ⟨fun a U g9 mk q => ⟨q.1, q.2.1, va_K.moved (u := U) (U := U.calling g9 mk a) (Vm.Alike.refl U.vm) q.2.2.1, Ev.bl q.2.2.2⟩, va_recv hK hP (ci := 5) (q0 := 1) rfl rgL24_436a872, fun U hU hW => ⟨rfl, atB hU hPc, va_K.moved hW.alike hKc, hE.go hS (fun _ h => h.elim) hU hW⟩⟩ rfl rfl hl.1 rfl (lv_room (Nat.le_of_ble_eq_true rfl)) dX8_open_29 ⟨Nat.le_of_ble_eq_true rfl, Nat.le_of_ble_eq_true rfl⟩)).run (fun r17 h_r17 => ?_)
      have b_r17 := i32b r17
      refine W.widen (k := 0) (n := 0) (Nat.le_of_ble_eq_true rfl) (Nat.le_of_ble_eq_true rfl) ?_
      have hP9 := hP
      have hD9 := hD
      have hK9 := (rgK21_98db583 hK)
      have hf9_0 : (0 ≤ za0_2_6_8.toInt ∧ za0_2_6_8.toInt ≤ 24) := by omega
      have hf9_1 : (0 ≤ za0_2_7_9.toInt ∧ za0_2_7_9.toInt ≤ 12) := by omega
      have hf9_2 : RS g.2.2.2.2.1 rows zrows_12 := hRS
      exact W.iret (v := r17) hx hb hr (fun t ht hW => ⟨⟨r17, r17, rfl, rfl, za0_10_7, za0_2_6_8, za0_2_7_9, za0_2_0_f_10, za0_2_1_f_11, zrows_12, hf9_0, hf9_1, hf9_2, atB ht hP9, va_K.moved hW.alike hK9, hD9⟩, hS.F ht⟩) hS.2.2 dX8_open_32
    · have c11_4 : r3.toInt = 0 := (cv_eq rfl (by decide)).mp c11_4
      refine lv_iconst (v := (-1)) hx hb dX8_open_14 (by decide) ?_
      have qcm1 : ((-1) : Int32).toInt = (-1) := by decide
      refine W.widen (k := 0) (n := 0) (Nat.le_of_ble_eq_true rfl) (Nat.le_of_ble_eq_true rfl) ?_
      have hP9 := hP
      have hD9 := hD
      have hK9 := (rgK21_98db583 hK)
      have hf9_0 : (0 ≤ a0_2_6.toInt ∧ a0_2_6.toInt ≤ 24) := by omega
      have hf9_1 : (0 ≤ a0_2_7.toInt ∧ a0_2_7.toInt ≤ 12) := by omega
      have hf9_2 : RS g.2.2.2.2.1 rows rows := hRS
      exact W.iret (v := (-1)) hx hb hr (fun t ht hW => ⟨⟨(-1), (-1), rfl, rfl, a0_10, a0_2_6, a0_2_7, a0_2_0_f, a0_2_1_f, rows, hf9_0, hf9_1, hf9_2, atB ht hP9, va_K.moved hW.alike hK9, hD9⟩, hS.F ht⟩) hS.2.2 dX8_open_15
set_option maxHeartbeats 4000000 in
set_option maxRecDepth 100000 in
theorem k_X8_next (l : Launch) (dC : Nat → ClassId) (dI : Nat → Nat → Nat) (g : Gv) (sz : Nat) (a0 : Nat) (a1 : Int32) (a2 : Int32) (a0_0 : Nat) (a0_1 : Nat) (a0_2 : Nat) (a0_3 : Nat) (a0_4 : Nat) (a0_5 : Nat) (a0_6 : Nat) (a0_7 : Nat) (a0_8 : Nat) (a0_9 : Nat) (a0_10 : Int32) (a0_2_0 : Nat) (a0_2_1 : Nat) (a0_2_2 : Nat) (a0_2_3 : Nat) (a0_2_4 : Nat) (a0_2_5 : Nat) (a0_2_6 : Int32) (a0_2_7 : Int32) (a0_2_0_c : ClassId) (a0_2_0_f : Nat → Int32) (a0_2_1_c : ClassId) (a0_2_1_f : Nat → Int32) (a0_2_2_c : ClassId) (a0_2_2_f : Nat → Option Nat) (a0_2_3_c : ClassId) (a0_2_3_f : Nat → Option Nat) (a0_6_0 : Int32) (a0_6_1 : Nat) (a0_6_2 : Int32) (a0_6_3 : Nat) (a0_6_4 : Int32) (a0_6_5 : Nat) (a0_6_6 : Nat) (a0_6_7 : Nat) (a0_6_8 : Int32) (a0_6_9 : Nat) (a0_6_10 : Nat) (a0_6_11 : Nat) (a0_6_12 : Nat) (a0_6_13 : Nat) (a0_6_1_c : ClassId) (a0_6_1_f : Nat → Int32) (a0_6_3_c : ClassId) (a0_6_3_f : Nat → Int32) (a0_6_5_c : ClassId) (a0_6_5_f : Nat → Int32) (a0_6_6_c : ClassId) (a0_6_6_f : Nat → Int32) (a0_6_7_c : ClassId) (a0_6_7_f : Nat → Int32) (a0_6_9_c : ClassId) (a0_6_9_f : Nat → Int32) (a0_6_10_c : ClassId) (a0_6_10_f : Nat → Int32) (a0_6_11_c : ClassId) (a0_6_11_f : Nat → Int32) (a0_6_12_c : ClassId) (a0_6_12_f : Nat → Option Nat) (a0_6_13_c : ClassId) (a0_6_13_f : Nat → Int32) (a0_8_0 : Nat) (a0_8_1 : Nat) (a0_8_2 : Nat) (a0_8_3 : Nat) (a0_8_4 : Nat) (a0_8_5 : Nat) (a0_8_0_c : ClassId) (a0_8_0_f : Nat → Int32) (a0_8_1_c : ClassId) (a0_8_1_f : Nat → Int32) (a0_8_2_c : ClassId) (a0_8_2_f : Nat → Int32) (a0_8_3_c : ClassId) (a0_8_3_f : Nat → Int32) (a0_8_4_c : ClassId) (a0_8_4_f : Nat → Option Nat) (a0_8_5_c : ClassId) (a0_8_5_f : Nat → Option Nat) (rows : va_W) (h_a0_2_6 : 0 ≤ a0_2_6.toInt ∧ a0_2_6.toInt ≤ 24) (h_a0_2_7 : 0 ≤ a0_2_7.toInt ∧ a0_2_7.toInt ≤ 12) (h_a0_2_2_f : GR g.2.2.2.2.1 24 12 a0_2_2_f rows) (h_a0_2_3_f : GR g.2.2.2.2.1 24 12 a0_2_3_f rows) (h_a0_6_0 : 0 ≤ a0_6_0.toInt ∧ a0_6_0.toInt ≤ 8) (h_a0_6_2 : 0 ≤ a0_6_2.toInt ∧ a0_6_2.toInt ≤ 4) (h_a0_6_4 : 0 ≤ a0_6_4.toInt ∧ a0_6_4.toInt ≤ 24) (h_a0_6_8 : 0 ≤ a0_6_8.toInt ∧ a0_6_8.toInt ≤ 12) (h_a0_6_12_f : GR g.2.2.2.2.1 3 12 a0_6_12_f rows) (h_a0_8_3_f : vr 0 5 a0_8_3_f) (h_a0_8_4_f : GR g.2.2.2.2.1 5 12 a0_8_4_f rows) (h_a0_8_5_f : GR g.2.2.2.2.1 5 12 a0_8_5_f rows) (hho : HOk a0_6_9_f a0_6_10_f a0_6_8) : Met l yX8_next (.code yX8_next cX8_next 9 (some .int) :: TBL) ({ frames := 7, cells := 0, slots := 0, locals := 168 }) (va_Pc [.ref a0, .int a1, .int a2] (fun U => U.heap.size = sz ∧ va_P (dC, dI) vwCl (([(a0, .inr (7, [.ref a0_0, .ref a0_1, .ref a0_2, .ref a0_3, .ref a0_4, .ref a0_5, .ref a0_6, .ref a0_7, .ref a0_8, .ref a0_9, .int a0_10])), (a0_2, .inr (5, [.ref a0_2_0, .ref a0_2_1, .ref a0_2_2, .ref a0_2_3, .ref a0_2_4, .ref a0_2_5, .int a0_2_6, .int a0_2_7])), (a0_2_0, .inl (a0_2_0_c, 24, .inl a0_2_0_f)), (a0_2_1, .inl (a0_2_1_c, 24, .inl a0_2_1_f)), (a0_2_2, .inl (a0_2_2_c, 12, .inr (.inr (.inr (.inr a0_2_2_f))))), (a0_2_3, .inl (a0_2_3_c, 12, .inr (.inr (.inr (.inr a0_2_3_f))))), (a0_6, .inr (0, [.int a0_6_0, .ref a0_6_1, .int a0_6_2, .ref a0_6_3, .int a0_6_4, .ref a0_6_5, .ref a0_6_6, .ref a0_6_7, .int a0_6_8, .ref a0_6_9, .ref a0_6_10, .ref a0_6_11, .ref a0_6_12, .ref a0_6_13])), (a0_6_1, .inl (a0_6_1_c, 8, .inl a0_6_1_f)), (a0_6_3, .inl (a0_6_3_c, 4, .inl a0_6_3_f)), (a0_6_5, .inl (a0_6_5_c, 24, .inl a0_6_5_f)), (a0_6_6, .inl (a0_6_6_c, 24, .inl a0_6_6_f)), (a0_6_7, .inl (a0_6_7_c, 24, .inl a0_6_7_f)), (a0_6_9, .inl (a0_6_9_c, 12, .inl a0_6_9_f)), (a0_6_10, .inl (a0_6_10_c, 12, .inl a0_6_10_f)), (a0_6_11, .inl (a0_6_11_c, 12, .inl a0_6_11_f)), (a0_6_12, .inl (a0_6_12_c, 12, .inr (.inr (.inr (.inr a0_6_12_f))))), (a0_6_13, .inl (a0_6_13_c, 12, .inl a0_6_13_f)), (a0_8, .inr (2, [.ref a0_8_0, .ref a0_8_1, .ref a0_8_2, .ref a0_8_3, .ref a0_8_4, .ref a0_8_5])), (a0_8_0, .inl (a0_8_0_c, 24, .inl a0_8_0_f)), (a0_8_1, .inl (a0_8_1_c, 8, .inl a0_8_1_f)), (a0_8_2, .inl (a0_8_2_c, 12, .inl a0_8_2_f)), (a0_8_3, .inl (a0_8_3_c, 12, .inl a0_8_3_f)), (a0_8_4, .inl (a0_8_4_c, 12, .inr (.inr (.inr (.inr a0_8_4_f))))), (a0_8_5, .inl (a0_8_5_c, 12, .inr (.inr (.inr (.inr a0_8_5_f)))))] : va_W) ++ rows) U.heap ∧ va_K (dC, dI) vwCl [(a0_2_0_c, .int), (a0_2_1_c, .int), (a0_2_2_c, .array .int), (a0_2_3_c, .array .int), (a0_6_1_c, .int), (a0_6_3_c, .int), (a0_6_5_c, .int), (a0_6_6_c, .int), (a0_6_7_c, .int), (a0_6_9_c, .int), (a0_6_10_c, .int), (a0_6_11_c, .boolean), (a0_6_12_c, .array .int), (a0_6_13_c, .int), (a0_8_0_c, .int), (a0_8_1_c, .int), (a0_8_2_c, .int), (a0_8_3_c, .int), (a0_8_4_c, .array .int), (a0_8_5_c, .array .int)] U ∧ va_D (fun _ => True) (([(a0, .inr (7, [.ref a0_0, .ref a0_1, .ref a0_2, .ref a0_3, .ref a0_4, .ref a0_5, .ref a0_6, .ref a0_7, .ref a0_8, .ref a0_9, .int a0_10])), (a0_2, .inr (5, [.ref a0_2_0, .ref a0_2_1, .ref a0_2_2, .ref a0_2_3, .ref a0_2_4, .ref a0_2_5, .int a0_2_6, .int a0_2_7])), (a0_2_0, .inl (a0_2_0_c, 24, .inl a0_2_0_f)), (a0_2_1, .inl (a0_2_1_c, 24, .inl a0_2_1_f)), (a0_2_2, .inl (a0_2_2_c, 12, .inr (.inr (.inr (.inr a0_2_2_f))))), (a0_2_3, .inl (a0_2_3_c, 12, .inr (.inr (.inr (.inr a0_2_3_f))))), (a0_6, .inr (0, [.int a0_6_0, .ref a0_6_1, .int a0_6_2, .ref a0_6_3, .int a0_6_4, .ref a0_6_5, .ref a0_6_6, .ref a0_6_7, .int a0_6_8, .ref a0_6_9, .ref a0_6_10, .ref a0_6_11, .ref a0_6_12, .ref a0_6_13])), (a0_6_1, .inl (a0_6_1_c, 8, .inl a0_6_1_f)), (a0_6_3, .inl (a0_6_3_c, 4, .inl a0_6_3_f)), (a0_6_5, .inl (a0_6_5_c, 24, .inl a0_6_5_f)), (a0_6_6, .inl (a0_6_6_c, 24, .inl a0_6_6_f)), (a0_6_7, .inl (a0_6_7_c, 24, .inl a0_6_7_f)), (a0_6_9, .inl (a0_6_9_c, 12, .inl a0_6_9_f)), (a0_6_10, .inl (a0_6_10_c, 12, .inl a0_6_10_f)), (a0_6_11, .inl (a0_6_11_c, 12, .inl a0_6_11_f)), (a0_6_12, .inl (a0_6_12_c, 12, .inr (.inr (.inr (.inr a0_6_12_f))))), (a0_6_13, .inl (a0_6_13_c, 12, .inl a0_6_13_f)), (a0_8, .inr (2, [.ref a0_8_0, .ref a0_8_1, .ref a0_8_2, .ref a0_8_3, .ref a0_8_4, .ref a0_8_5])), (a0_8_0, .inl (a0_8_0_c, 24, .inl a0_8_0_f)), (a0_8_1, .inl (a0_8_1_c, 8, .inl a0_8_1_f)), (a0_8_2, .inl (a0_8_2_c, 12, .inl a0_8_2_f)), (a0_8_3, .inl (a0_8_3_c, 12, .inl a0_8_3_f)), (a0_8_4, .inl (a0_8_4_c, 12, .inr (.inr (.inr (.inr a0_8_4_f))))), (a0_8_5, .inl (a0_8_5_c, 12, .inr (.inr (.inr (.inr a0_8_5_f)))))] : va_W) ++ rows) ∧ Ev g (va_A (([(a0, .inr (7, [.ref a0_0, .ref a0_1, .ref a0_2, .ref a0_3, .ref a0_4, .ref a0_5, .ref a0_6, .ref a0_7, .ref a0_8, .ref a0_9, .int a0_10])), (a0_2, .inr (5, [.ref a0_2_0, .ref a0_2_1, .ref a0_2_2, .ref a0_2_3, .ref a0_2_4, .ref a0_2_5, .int a0_2_6, .int a0_2_7])), (a0_2_0, .inl (a0_2_0_c, 24, .inl a0_2_0_f)), (a0_2_1, .inl (a0_2_1_c, 24, .inl a0_2_1_f)), (a0_2_2, .inl (a0_2_2_c, 12, .inr (.inr (.inr (.inr a0_2_2_f))))), (a0_2_3, .inl (a0_2_3_c, 12, .inr (.inr (.inr (.inr a0_2_3_f))))), (a0_6, .inr (0, [.int a0_6_0, .ref a0_6_1, .int a0_6_2, .ref a0_6_3, .int a0_6_4, .ref a0_6_5, .ref a0_6_6, .ref a0_6_7, .int a0_6_8, .ref a0_6_9, .ref a0_6_10, .ref a0_6_11, .ref a0_6_12, .ref a0_6_13])), (a0_6_1, .inl (a0_6_1_c, 8, .inl a0_6_1_f)), (a0_6_3, .inl (a0_6_3_c, 4, .inl a0_6_3_f)), (a0_6_5, .inl (a0_6_5_c, 24, .inl a0_6_5_f)), (a0_6_6, .inl (a0_6_6_c, 24, .inl a0_6_6_f)), (a0_6_7, .inl (a0_6_7_c, 24, .inl a0_6_7_f)), (a0_6_9, .inl (a0_6_9_c, 12, .inl a0_6_9_f)), (a0_6_10, .inl (a0_6_10_c, 12, .inl a0_6_10_f)), (a0_6_11, .inl (a0_6_11_c, 12, .inl a0_6_11_f)), (a0_6_12, .inl (a0_6_12_c, 12, .inr (.inr (.inr (.inr a0_6_12_f))))), (a0_6_13, .inl (a0_6_13_c, 12, .inl a0_6_13_f)), (a0_8, .inr (2, [.ref a0_8_0, .ref a0_8_1, .ref a0_8_2, .ref a0_8_3, .ref a0_8_4, .ref a0_8_5])), (a0_8_0, .inl (a0_8_0_c, 24, .inl a0_8_0_f)), (a0_8_1, .inl (a0_8_1_c, 8, .inl a0_8_1_f)), (a0_8_2, .inl (a0_8_2_c, 12, .inl a0_8_2_f)), (a0_8_3, .inl (a0_8_3_c, 12, .inl a0_8_3_f)), (a0_8_4, .inl (a0_8_4_c, 12, .inr (.inr (.inr (.inr a0_8_4_f))))), (a0_8_5, .inl (a0_8_5_c, 12, .inr (.inr (.inr (.inr a0_8_5_f)))))] : va_W) ++ rows) sz) U)) (va_Qi (fun (r : Int32) (u : Int32) => u = r) (fun (u : Int32) (t : State) => ∃ (za0_10 : Int32) (za0_2_6 : Int32) (za0_2_7 : Int32) (za0_2_0_f : Nat → Int32) (za0_2_1_f : Nat → Int32) (zrows : va_W), (0 ≤ za0_2_6.toInt ∧ za0_2_6.toInt ≤ 24) ∧ (0 ≤ za0_2_7.toInt ∧ za0_2_7.toInt ≤ 12) ∧ RS g.2.2.2.2.1 rows zrows ∧ va_P (dC, dI) vwCl (([(a0, .inr (7, [.ref a0_0, .ref a0_1, .ref a0_2, .ref a0_3, .ref a0_4, .ref a0_5, .ref a0_6, .ref a0_7, .ref a0_8, .ref a0_9, .int za0_10])), (a0_2, .inr (5, [.ref a0_2_0, .ref a0_2_1, .ref a0_2_2, .ref a0_2_3, .ref a0_2_4, .ref a0_2_5, .int za0_2_6, .int za0_2_7])), (a0_2_0, .inl (a0_2_0_c, 24, .inl za0_2_0_f)), (a0_2_1, .inl (a0_2_1_c, 24, .inl za0_2_1_f)), (a0_2_2, .inl (a0_2_2_c, 12, .inr (.inr (.inr (.inr a0_2_2_f))))), (a0_2_3, .inl (a0_2_3_c, 12, .inr (.inr (.inr (.inr a0_2_3_f))))), (a0_6, .inr (0, [.int a0_6_0, .ref a0_6_1, .int a0_6_2, .ref a0_6_3, .int a0_6_4, .ref a0_6_5, .ref a0_6_6, .ref a0_6_7, .int a0_6_8, .ref a0_6_9, .ref a0_6_10, .ref a0_6_11, .ref a0_6_12, .ref a0_6_13])), (a0_6_1, .inl (a0_6_1_c, 8, .inl a0_6_1_f)), (a0_6_3, .inl (a0_6_3_c, 4, .inl a0_6_3_f)), (a0_6_5, .inl (a0_6_5_c, 24, .inl a0_6_5_f)), (a0_6_6, .inl (a0_6_6_c, 24, .inl a0_6_6_f)), (a0_6_7, .inl (a0_6_7_c, 24, .inl a0_6_7_f)), (a0_6_9, .inl (a0_6_9_c, 12, .inl a0_6_9_f)), (a0_6_10, .inl (a0_6_10_c, 12, .inl a0_6_10_f)), (a0_6_11, .inl (a0_6_11_c, 12, .inl a0_6_11_f)), (a0_6_12, .inl (a0_6_12_c, 12, .inr (.inr (.inr (.inr a0_6_12_f))))), (a0_6_13, .inl (a0_6_13_c, 12, .inl a0_6_13_f)), (a0_8, .inr (2, [.ref a0_8_0, .ref a0_8_1, .ref a0_8_2, .ref a0_8_3, .ref a0_8_4, .ref a0_8_5])), (a0_8_0, .inl (a0_8_0_c, 24, .inl a0_8_0_f)), (a0_8_1, .inl (a0_8_1_c, 8, .inl a0_8_1_f)), (a0_8_2, .inl (a0_8_2_c, 12, .inl a0_8_2_f)), (a0_8_3, .inl (a0_8_3_c, 12, .inl a0_8_3_f)), (a0_8_4, .inl (a0_8_4_c, 12, .inr (.inr (.inr (.inr a0_8_4_f))))), (a0_8_5, .inl (a0_8_5_c, 12, .inr (.inr (.inr (.inr a0_8_5_f)))))] : va_W) ++ zrows) t.heap ∧ va_K (dC, dI) vwCl [] t ∧ va_D (va_A (([(a0, .inr (7, [.ref a0_0, .ref a0_1, .ref a0_2, .ref a0_3, .ref a0_4, .ref a0_5, .ref a0_6, .ref a0_7, .ref a0_8, .ref a0_9, .int a0_10])), (a0_2, .inr (5, [.ref a0_2_0, .ref a0_2_1, .ref a0_2_2, .ref a0_2_3, .ref a0_2_4, .ref a0_2_5, .int a0_2_6, .int a0_2_7])), (a0_2_0, .inl (a0_2_0_c, 24, .inl a0_2_0_f)), (a0_2_1, .inl (a0_2_1_c, 24, .inl a0_2_1_f)), (a0_2_2, .inl (a0_2_2_c, 12, .inr (.inr (.inr (.inr a0_2_2_f))))), (a0_2_3, .inl (a0_2_3_c, 12, .inr (.inr (.inr (.inr a0_2_3_f))))), (a0_6, .inr (0, [.int a0_6_0, .ref a0_6_1, .int a0_6_2, .ref a0_6_3, .int a0_6_4, .ref a0_6_5, .ref a0_6_6, .ref a0_6_7, .int a0_6_8, .ref a0_6_9, .ref a0_6_10, .ref a0_6_11, .ref a0_6_12, .ref a0_6_13])), (a0_6_1, .inl (a0_6_1_c, 8, .inl a0_6_1_f)), (a0_6_3, .inl (a0_6_3_c, 4, .inl a0_6_3_f)), (a0_6_5, .inl (a0_6_5_c, 24, .inl a0_6_5_f)), (a0_6_6, .inl (a0_6_6_c, 24, .inl a0_6_6_f)), (a0_6_7, .inl (a0_6_7_c, 24, .inl a0_6_7_f)), (a0_6_9, .inl (a0_6_9_c, 12, .inl a0_6_9_f)), (a0_6_10, .inl (a0_6_10_c, 12, .inl a0_6_10_f)), (a0_6_11, .inl (a0_6_11_c, 12, .inl a0_6_11_f)), (a0_6_12, .inl (a0_6_12_c, 12, .inr (.inr (.inr (.inr a0_6_12_f))))), (a0_6_13, .inl (a0_6_13_c, 12, .inl a0_6_13_f)), (a0_8, .inr (2, [.ref a0_8_0, .ref a0_8_1, .ref a0_8_2, .ref a0_8_3, .ref a0_8_4, .ref a0_8_5])), (a0_8_0, .inl (a0_8_0_c, 24, .inl a0_8_0_f)), (a0_8_1, .inl (a0_8_1_c, 8, .inl a0_8_1_f)), (a0_8_2, .inl (a0_8_2_c, 12, .inl a0_8_2_f)), (a0_8_3, .inl (a0_8_3_c, 12, .inl a0_8_3_f)), (a0_8_4, .inl (a0_8_4_c, 12, .inr (.inr (.inr (.inr a0_8_4_f))))), (a0_8_5, .inl (a0_8_5_c, 12, .inr (.inr (.inr (.inr a0_8_5_f)))))] : va_W) ++ rows) sz) (([(a0, .inr (7, [.ref a0_0, .ref a0_1, .ref a0_2, .ref a0_3, .ref a0_4, .ref a0_5, .ref a0_6, .ref a0_7, .ref a0_8, .ref a0_9, .int za0_10])), (a0_2, .inr (5, [.ref a0_2_0, .ref a0_2_1, .ref a0_2_2, .ref a0_2_3, .ref a0_2_4, .ref a0_2_5, .int za0_2_6, .int za0_2_7])), (a0_2_0, .inl (a0_2_0_c, 24, .inl za0_2_0_f)), (a0_2_1, .inl (a0_2_1_c, 24, .inl za0_2_1_f)), (a0_2_2, .inl (a0_2_2_c, 12, .inr (.inr (.inr (.inr a0_2_2_f))))), (a0_2_3, .inl (a0_2_3_c, 12, .inr (.inr (.inr (.inr a0_2_3_f))))), (a0_6, .inr (0, [.int a0_6_0, .ref a0_6_1, .int a0_6_2, .ref a0_6_3, .int a0_6_4, .ref a0_6_5, .ref a0_6_6, .ref a0_6_7, .int a0_6_8, .ref a0_6_9, .ref a0_6_10, .ref a0_6_11, .ref a0_6_12, .ref a0_6_13])), (a0_6_1, .inl (a0_6_1_c, 8, .inl a0_6_1_f)), (a0_6_3, .inl (a0_6_3_c, 4, .inl a0_6_3_f)), (a0_6_5, .inl (a0_6_5_c, 24, .inl a0_6_5_f)), (a0_6_6, .inl (a0_6_6_c, 24, .inl a0_6_6_f)), (a0_6_7, .inl (a0_6_7_c, 24, .inl a0_6_7_f)), (a0_6_9, .inl (a0_6_9_c, 12, .inl a0_6_9_f)), (a0_6_10, .inl (a0_6_10_c, 12, .inl a0_6_10_f)), (a0_6_11, .inl (a0_6_11_c, 12, .inl a0_6_11_f)), (a0_6_12, .inl (a0_6_12_c, 12, .inr (.inr (.inr (.inr a0_6_12_f))))), (a0_6_13, .inl (a0_6_13_c, 12, .inl a0_6_13_f)), (a0_8, .inr (2, [.ref a0_8_0, .ref a0_8_1, .ref a0_8_2, .ref a0_8_3, .ref a0_8_4, .ref a0_8_5])), (a0_8_0, .inl (a0_8_0_c, 24, .inl a0_8_0_f)), (a0_8_1, .inl (a0_8_1_c, 8, .inl a0_8_1_f)), (a0_8_2, .inl (a0_8_2_c, 12, .inl a0_8_2_f)), (a0_8_3, .inl (a0_8_3_c, 12, .inl a0_8_3_f)), (a0_8_4, .inl (a0_8_4_c, 12, .inr (.inr (.inr (.inr a0_8_4_f))))), (a0_8_5, .inl (a0_8_5_c, 12, .inr (.inr (.inr (.inr a0_8_5_f)))))] : va_W) ++ zrows)) (va_A (([(a0, .inr (7, [.ref a0_0, .ref a0_1, .ref a0_2, .ref a0_3, .ref a0_4, .ref a0_5, .ref a0_6, .ref a0_7, .ref a0_8, .ref a0_9, .int a0_10])), (a0_2, .inr (5, [.ref a0_2_0, .ref a0_2_1, .ref a0_2_2, .ref a0_2_3, .ref a0_2_4, .ref a0_2_5, .int a0_2_6, .int a0_2_7])), (a0_2_0, .inl (a0_2_0_c, 24, .inl a0_2_0_f)), (a0_2_1, .inl (a0_2_1_c, 24, .inl a0_2_1_f)), (a0_2_2, .inl (a0_2_2_c, 12, .inr (.inr (.inr (.inr a0_2_2_f))))), (a0_2_3, .inl (a0_2_3_c, 12, .inr (.inr (.inr (.inr a0_2_3_f))))), (a0_6, .inr (0, [.int a0_6_0, .ref a0_6_1, .int a0_6_2, .ref a0_6_3, .int a0_6_4, .ref a0_6_5, .ref a0_6_6, .ref a0_6_7, .int a0_6_8, .ref a0_6_9, .ref a0_6_10, .ref a0_6_11, .ref a0_6_12, .ref a0_6_13])), (a0_6_1, .inl (a0_6_1_c, 8, .inl a0_6_1_f)), (a0_6_3, .inl (a0_6_3_c, 4, .inl a0_6_3_f)), (a0_6_5, .inl (a0_6_5_c, 24, .inl a0_6_5_f)), (a0_6_6, .inl (a0_6_6_c, 24, .inl a0_6_6_f)), (a0_6_7, .inl (a0_6_7_c, 24, .inl a0_6_7_f)), (a0_6_9, .inl (a0_6_9_c, 12, .inl a0_6_9_f)), (a0_6_10, .inl (a0_6_10_c, 12, .inl a0_6_10_f)), (a0_6_11, .inl (a0_6_11_c, 12, .inl a0_6_11_f)), (a0_6_12, .inl (a0_6_12_c, 12, .inr (.inr (.inr (.inr a0_6_12_f))))), (a0_6_13, .inl (a0_6_13_c, 12, .inl a0_6_13_f)), (a0_8, .inr (2, [.ref a0_8_0, .ref a0_8_1, .ref a0_8_2, .ref a0_8_3, .ref a0_8_4, .ref a0_8_5])), (a0_8_0, .inl (a0_8_0_c, 24, .inl a0_8_0_f)), (a0_8_1, .inl (a0_8_1_c, 8, .inl a0_8_1_f)), (a0_8_2, .inl (a0_8_2_c, 12, .inl a0_8_2_f)), (a0_8_3, .inl (a0_8_3_c, 12, .inl a0_8_3_f)), (a0_8_4, .inl (a0_8_4_c, 12, .inr (.inr (.inr (.inr a0_8_4_f))))), (a0_8_5, .inl (a0_8_5_c, 12, .inr (.inr (.inr (.inr a0_8_5_f)))))] : va_W) ++ rows) sz)) 0 0 (va_A (([(a0, .inr (7, [.ref a0_0, .ref a0_1, .ref a0_2, .ref a0_3, .ref a0_4, .ref a0_5, .ref a0_6, .ref a0_7, .ref a0_8, .ref a0_9, .int a0_10])), (a0_2, .inr (5, [.ref a0_2_0, .ref a0_2_1, .ref a0_2_2, .ref a0_2_3, .ref a0_2_4, .ref a0_2_5, .int a0_2_6, .int a0_2_7])), (a0_2_0, .inl (a0_2_0_c, 24, .inl a0_2_0_f)), (a0_2_1, .inl (a0_2_1_c, 24, .inl a0_2_1_f)), (a0_2_2, .inl (a0_2_2_c, 12, .inr (.inr (.inr (.inr a0_2_2_f))))), (a0_2_3, .inl (a0_2_3_c, 12, .inr (.inr (.inr (.inr a0_2_3_f))))), (a0_6, .inr (0, [.int a0_6_0, .ref a0_6_1, .int a0_6_2, .ref a0_6_3, .int a0_6_4, .ref a0_6_5, .ref a0_6_6, .ref a0_6_7, .int a0_6_8, .ref a0_6_9, .ref a0_6_10, .ref a0_6_11, .ref a0_6_12, .ref a0_6_13])), (a0_6_1, .inl (a0_6_1_c, 8, .inl a0_6_1_f)), (a0_6_3, .inl (a0_6_3_c, 4, .inl a0_6_3_f)), (a0_6_5, .inl (a0_6_5_c, 24, .inl a0_6_5_f)), (a0_6_6, .inl (a0_6_6_c, 24, .inl a0_6_6_f)), (a0_6_7, .inl (a0_6_7_c, 24, .inl a0_6_7_f)), (a0_6_9, .inl (a0_6_9_c, 12, .inl a0_6_9_f)), (a0_6_10, .inl (a0_6_10_c, 12, .inl a0_6_10_f)), (a0_6_11, .inl (a0_6_11_c, 12, .inl a0_6_11_f)), (a0_6_12, .inl (a0_6_12_c, 12, .inr (.inr (.inr (.inr a0_6_12_f))))), (a0_6_13, .inl (a0_6_13_c, 12, .inl a0_6_13_f)), (a0_8, .inr (2, [.ref a0_8_0, .ref a0_8_1, .ref a0_8_2, .ref a0_8_3, .ref a0_8_4, .ref a0_8_5])), (a0_8_0, .inl (a0_8_0_c, 24, .inl a0_8_0_f)), (a0_8_1, .inl (a0_8_1_c, 8, .inl a0_8_1_f)), (a0_8_2, .inl (a0_8_2_c, 12, .inl a0_8_2_f)), (a0_8_3, .inl (a0_8_3_c, 12, .inl a0_8_3_f)), (a0_8_4, .inl (a0_8_4_c, 12, .inr (.inr (.inr (.inr a0_8_4_f))))), (a0_8_5, .inl (a0_8_5_c, 12, .inr (.inr (.inr (.inr a0_8_5_f)))))] : va_W) ++ rows) sz) := by
  refine Met.ofW (cc := cX8_next) (maxL := 9) (ret := (some .int)) (by decide) rfl ?_
  intro p e s m args below meth c s₁ B hml hv
  obtain ⟨rfl, hsz, hP, hK, hD0, hE⟩ := hv
  have hx := B.exec
  have hb := B.bytes
  have hr := B.returns
  have hts0 := atoms_spec (ws := (.code yX8_next cX8_next 9 (some .int) :: TBL)) B.pre
  have hts := fun (w : Cond) (h : w ∈ TBL) => hts0 w (List.mem_cons_of_mem _ h)
  have hown : s.vm.findClass RX8 = some m.cls := findClass_of_methodNamed B.named
  have hlocks := B.notSynchronized
  have hN := hE.1
  subst hsz
  have hD := hD0.self (sz := s.heap.size)
  generalize hAe : va_A (([(a0, .inr (7, [.ref a0_0, .ref a0_1, .ref a0_2, .ref a0_3, .ref a0_4, .ref a0_5, .ref a0_6, .ref a0_7, .ref a0_8, .ref a0_9, .int a0_10])), (a0_2, .inr (5, [.ref a0_2_0, .ref a0_2_1, .ref a0_2_2, .ref a0_2_3, .ref a0_2_4, .ref a0_2_5, .int a0_2_6, .int a0_2_7])), (a0_2_0, .inl (a0_2_0_c, 24, .inl a0_2_0_f)), (a0_2_1, .inl (a0_2_1_c, 24, .inl a0_2_1_f)), (a0_2_2, .inl (a0_2_2_c, 12, .inr (.inr (.inr (.inr a0_2_2_f))))), (a0_2_3, .inl (a0_2_3_c, 12, .inr (.inr (.inr (.inr a0_2_3_f))))), (a0_6, .inr (0, [.int a0_6_0, .ref a0_6_1, .int a0_6_2, .ref a0_6_3, .int a0_6_4, .ref a0_6_5, .ref a0_6_6, .ref a0_6_7, .int a0_6_8, .ref a0_6_9, .ref a0_6_10, .ref a0_6_11, .ref a0_6_12, .ref a0_6_13])), (a0_6_1, .inl (a0_6_1_c, 8, .inl a0_6_1_f)), (a0_6_3, .inl (a0_6_3_c, 4, .inl a0_6_3_f)), (a0_6_5, .inl (a0_6_5_c, 24, .inl a0_6_5_f)), (a0_6_6, .inl (a0_6_6_c, 24, .inl a0_6_6_f)), (a0_6_7, .inl (a0_6_7_c, 24, .inl a0_6_7_f)), (a0_6_9, .inl (a0_6_9_c, 12, .inl a0_6_9_f)), (a0_6_10, .inl (a0_6_10_c, 12, .inl a0_6_10_f)), (a0_6_11, .inl (a0_6_11_c, 12, .inl a0_6_11_f)), (a0_6_12, .inl (a0_6_12_c, 12, .inr (.inr (.inr (.inr a0_6_12_f))))), (a0_6_13, .inl (a0_6_13_c, 12, .inl a0_6_13_f)), (a0_8, .inr (2, [.ref a0_8_0, .ref a0_8_1, .ref a0_8_2, .ref a0_8_3, .ref a0_8_4, .ref a0_8_5])), (a0_8_0, .inl (a0_8_0_c, 24, .inl a0_8_0_f)), (a0_8_1, .inl (a0_8_1_c, 8, .inl a0_8_1_f)), (a0_8_2, .inl (a0_8_2_c, 12, .inl a0_8_2_f)), (a0_8_3, .inl (a0_8_3_c, 12, .inl a0_8_3_f)), (a0_8_4, .inl (a0_8_4_c, 12, .inr (.inr (.inr (.inr a0_8_4_f))))), (a0_8_5, .inl (a0_8_5_c, 12, .inr (.inr (.inr (.inr a0_8_5_f)))))] : va_W) ++ rows) s.heap.size = A at hD hE ⊢
  have hA : ∀ q : Nat, s.heap.size ≤ q → A q := fun q h => by rw [← hAe]; exact Or.inr h
  have hS : va_S A s.heap s.heap [] := va_S.rf
  replace hP : va_P (dC, dI) vwCl (([(a0, .inr (7, [.ref a0_0, .ref a0_1, .ref a0_2, .ref a0_3, .ref a0_4, .ref a0_5, .ref a0_6, .ref a0_7, .ref a0_8, .ref a0_9, .int a0_10])), (a0_2, .inr (5, [.ref a0_2_0, .ref a0_2_1, .ref a0_2_2, .ref a0_2_3, .ref a0_2_4, .ref a0_2_5, .int a0_2_6, .int a0_2_7])), (a0_2_0, .inl (a0_2_0_c, 24, .inl a0_2_0_f)), (a0_2_1, .inl (a0_2_1_c, 24, .inl a0_2_1_f)), (a0_2_2, .inl (a0_2_2_c, 12, .inr (.inr (.inr (.inr a0_2_2_f))))), (a0_2_3, .inl (a0_2_3_c, 12, .inr (.inr (.inr (.inr a0_2_3_f))))), (a0_6, .inr (0, [.int a0_6_0, .ref a0_6_1, .int a0_6_2, .ref a0_6_3, .int a0_6_4, .ref a0_6_5, .ref a0_6_6, .ref a0_6_7, .int a0_6_8, .ref a0_6_9, .ref a0_6_10, .ref a0_6_11, .ref a0_6_12, .ref a0_6_13])), (a0_6_1, .inl (a0_6_1_c, 8, .inl a0_6_1_f)), (a0_6_3, .inl (a0_6_3_c, 4, .inl a0_6_3_f)), (a0_6_5, .inl (a0_6_5_c, 24, .inl a0_6_5_f)), (a0_6_6, .inl (a0_6_6_c, 24, .inl a0_6_6_f)), (a0_6_7, .inl (a0_6_7_c, 24, .inl a0_6_7_f)), (a0_6_9, .inl (a0_6_9_c, 12, .inl a0_6_9_f)), (a0_6_10, .inl (a0_6_10_c, 12, .inl a0_6_10_f)), (a0_6_11, .inl (a0_6_11_c, 12, .inl a0_6_11_f)), (a0_6_12, .inl (a0_6_12_c, 12, .inr (.inr (.inr (.inr a0_6_12_f))))), (a0_6_13, .inl (a0_6_13_c, 12, .inl a0_6_13_f)), (a0_8, .inr (2, [.ref a0_8_0, .ref a0_8_1, .ref a0_8_2, .ref a0_8_3, .ref a0_8_4, .ref a0_8_5])), (a0_8_0, .inl (a0_8_0_c, 24, .inl a0_8_0_f)), (a0_8_1, .inl (a0_8_1_c, 8, .inl a0_8_1_f)), (a0_8_2, .inl (a0_8_2_c, 12, .inl a0_8_2_f)), (a0_8_3, .inl (a0_8_3_c, 12, .inl a0_8_3_f)), (a0_8_4, .inl (a0_8_4_c, 12, .inr (.inr (.inr (.inr a0_8_4_f))))), (a0_8_5, .inl (a0_8_5_c, 12, .inr (.inr (.inr (.inr a0_8_5_f)))))] : va_W) ++ rows) s.heap := hP
  have hl := lv_entry ([.ref a0, .int a1, .int a2]) (n := 9) (Nat.le_of_ble_eq_true rfl)
  rw [lg_entry_eq]
  generalize (lg_sl ([.ref a0, .int a1, .int a2]) ++ List.replicate (9 - (lg_sl ([.ref a0, .int a1, .int a2])).length) Slot.unset).toArray = ls at hl ⊢
  have hl : lv_has ls 9 [(0, .ref a0), (1, .int a1), (2, .int a2)] := hl
  have hK := cyK hK (hts (.arrayClass .int) qw_54) hE.2.2.2.2.2.2.2.2.2.2.2.2.1
  replace hK : va_K (dC, dI) vwCl [(a0_2_0_c, .int), (a0_2_1_c, .int), (a0_2_2_c, .array .int), (a0_2_3_c, .array .int), (a0_6_1_c, .int), (a0_6_3_c, .int), (a0_6_5_c, .int), (a0_6_6_c, .int), (a0_6_7_c, .int), (a0_6_9_c, .int), (a0_6_10_c, .int), (a0_6_11_c, .boolean), (a0_6_12_c, .array .int), (a0_6_13_c, .int), (a0_8_0_c, .int), (a0_8_1_c, .int), (a0_8_2_c, .int), (a0_8_3_c, .int), (a0_8_4_c, .array .int), (a0_8_5_c, .array .int), (g.2.2.2.2.1, .int)] s := hK
  have b_a1 := i32b a1
  have b_a2 := i32b a2
  have b_a0_10 := i32b a0_10
  have hRS : RS g.2.2.2.2.1 rows rows := RS.rf
  refine lv_iload_n hx hb dX8_next_0 rfl (lv_at hl 1 rfl) ?_
  refine lv_iconst (v := (-1)) hx hb dX8_next_1 (by decide) ?_
  refine lv_icmp_eq (tgt := 12) hx hb dX8_next_2 (by decide) (fun c2_1 => ?_) (fun c2_1 => ?_)
  · have c2_1 : a1.toInt = (-1) := (cv_eq rfl (by decide)).mp c2_1
    refine lv_iconst (v := 1) hx hb dX8_next_12 (by decide) ?_
    refine lv_goto (tgt := 17) hx hb dX8_next_13 (by decide) ?_
    refine lv_istore_n (lv' := [(3, .int 1), (0, .ref a0), (1, .int a1), (2, .int a2)]) hx hb dX8_next_17 rfl hl (by decide) rfl (fun ls hl => ?_)
    refine lv_iload_n hx hb dX8_next_18 rfl (lv_at hl 0 rfl) ?_
    refine lv_if_eq (tgt := 29) hx hb dX8_next_19 (by decide) (fun c19_2 => by exfalso; exact absurd c19_2 (by decide)) (fun c19_2 => ?_)
    refine lv_iload_n hx hb dX8_next_22 rfl (lv_at hl 3 rfl) ?_
    have hPc := (rgP24_c46fd41 hP)
    have hKc := (rgK21_98db583 hK)
    refine vp_callSi ((va_runS (As := [.int a2]) (rest := []) ⟨hx, hb, hml, hown, hts⟩ (k_X8_areReaders l dC dI g (a2) ) (va_cwS 1 hts (gwS qw_326 qw_327 qw_28 qw_325) rfl rfl rfl (by decide +kernel) ⟨Nat.le_of_ble_eq_true rfl, Nat.le_of_ble_eq_true rfl⟩) ⟨fun a U g9 mk q => ⟨q.1, q.2.1, va_K.moved (u := U) (U := U.calling g9 mk a) (Vm.Alike.refl U.vm) q.2.2.1, Ev.bl q.2.2.2⟩, fun U hU hW => ⟨rfl, atB hU hPc, va_K.moved hW.alike hKc, hE.go hS (fun _ h => h.elim) hU hW⟩⟩ rfl rfl hl.1 rfl (lv_room (Nat.le_of_ble_eq_true rfl)) dX8_next_23 ⟨Nat.le_of_ble_eq_true rfl, Nat.le_of_ble_eq_true rfl⟩)).run (fun r3 h_r3 => ?_)
    have h_r3 : (r3 = 0 ∨ r3 = 1) := h_r3
    have b_r3 := z01 (show r3 = 0 ∨ r3 = 1 from h_r3)
    refine lv_if_ne (tgt := 31) hx hb dX8_next_26 (by decide) (fun c26_4 => ?_) (fun c26_4 => ?_)
    · have c26_4 : ¬ (r3.toInt = 0) := mt (cv_eq rfl (by decide)).mpr c26_4
      refine lv_aload_n hx hb dX8_next_31 rfl (lv_at hl 1 rfl) ?_
      have hPc := hP
      have hKc := (rgK21_94c7792 hK)
      have hDc := hD
      have hFc := freeW hDc hS hA
      refine va_callr (va_runV (As := []) (rest := []) ⟨hx, hb, hml, hown, hts⟩ (k_X8_upToDate l dC dI g s.heap.size (a0) (a0_0) (a0_1) (a0_2) (a0_3) (a0_4) (a0_5) (a0_6) (a0_7) (a0_8) (a0_9) (a0_10) (a0_2_0) (a0_2_1) (a0_2_2) (a0_2_3) (a0_2_4) (a0_2_5) (a0_2_6) (a0_2_7) (a0_2_0_c) (a0_2_0_f) (a0_2_1_c) (a0_2_1_f) (a0_2_2_c) (a0_2_2_f) (a0_2_3_c) (a0_2_3_f) (a0_6_0) (a0_6_1) (a0_6_2) (a0_6_3) (a0_6_4) (a0_6_5) (a0_6_6) (a0_6_7) (a0_6_8) (a0_6_9) (a0_6_10) (a0_6_11) (a0_6_12) (a0_6_13) (a0_6_1_c) (a0_6_1_f) (a0_6_3_c) (a0_6_3_f) (a0_6_5_c) (a0_6_5_f) (a0_6_6_c) (a0_6_6_f) (a0_6_7_c) (a0_6_7_f) (a0_6_9_c) (a0_6_9_f) (a0_6_10_c) (a0_6_10_f) (a0_6_11_c) (a0_6_11_f) (a0_6_12_c) (a0_6_12_f) (a0_6_13_c) (a0_6_13_f) (a0_8_0) (a0_8_1) (a0_8_2) (a0_8_3) (a0_8_4) (a0_8_5) (a0_8_0_c) (a0_8_0_f) (a0_8_1_c) (a0_8_1_f) (a0_8_2_c) (a0_8_2_f) (a0_8_3_c) (a0_8_3_f) (a0_8_4_c) (a0_8_4_f) (a0_8_5_c) (a0_8_5_f) (rows) (by omega) (by omega) (RS.gr hRS h_a0_2_2_f) (RS.gr hRS h_a0_2_3_f) (by omega) (by omega) (by omega) (by omega) (RS.gr hRS h_a0_6_12_f) h_a0_8_3_f (RS.gr hRS h_a0_8_4_f) (RS.gr hRS h_a0_8_5_f) (by assumption)) (cwV 0 hts (gwV qw_316 qw_317 qw_318 qw_28 qw_315) rfl rfl rfl (by decide +kernel) ⟨Nat.le_of_ble_eq_true rfl, Nat.le_of_ble_eq_true rfl⟩) ⟨fun a U g9 mk q => ⟨q.1, q.2.1, q.2.2.1, va_K.moved (u := U) (U := U.calling g9 mk a) (Vm.Alike.refl U.vm) q.2.2.2.1, q.2.2.2.2.1, Ev.bl q.2.2.2.2.2⟩, va_recv hK hP (ci := 7) (q0 := 0) rfl rgL24_10cdad0, fun U hU hW => ⟨rfl, by rw [hU], atB hU hPc, va_K.moved hW.alike hKc, hDc.weaken (fun _ _ _ _ => trivial), hE.go hS hFc hU hW⟩⟩ rfl rfl hl.1 rfl (lv_room (Nat.le_of_ble_eq_true rfl)) dX8_next_32 ⟨Nat.le_of_ble_eq_true rfl, Nat.le_of_ble_eq_true rfl⟩) hS (fun q _ h => hFc q h) hFc (fun u5 r6 t H1 locs ht hvm h_u5 hB hz1 hk1 hS => ?_)
      obtain ⟨hrr, za0_10_7, za0_2_6_8, za0_2_7_9, za0_2_0_f_10, za0_2_1_f_11, zrows_12, hF13, hF14, hF15, hP1, hK1, hD1⟩ := hB
      have hK1 := va_K.moved hvm.symm hK1
      have hJ9 := rgJ24_e25e203 hP hD hk1 hFc (atH ht hP1) hD1
      clear hP hD hPc hKc hDc hFc hP1 hD1 hk1 hz1
      obtain ⟨hP, hD⟩ := hJ9
      clear hK1
      generalize H1 = H at hP hS ⊢
      refine W.widen (k := 0) (n := 0) (Nat.le_of_ble_eq_true rfl) (Nat.le_of_ble_eq_true rfl) ?_
      refine topv (w := .ref a0_2) (by rw [hrr]) ?_
      have hRS := RS.tr hRS hF15
      refine lv_astore (lv' := [(4, .ref a0_2), (3, .int 1), (0, .ref a0), (1, .int a1), (2, .int a2)]) hx hb dX8_next_35 hl (by decide) rfl (fun ls hl => ?_)
      refine lv_aload_n hx hb dX8_next_37 rfl (lv_at hl 2 rfl) ?_
      refine va_get (D := (dC, dI)) (ci := 7) (v := .ref a0_6) (C := RX8) (T := TX8) (N := 11) hx hb hts inlX8 hown hK hP 0 rgL24_10cdad0 rfl 6 (by decide) (hts (.fieldLink RX8 51 "ClosedUntil" "told" "LClosedUntil$Holdings;") qw_262) (fun _ h9 => h9) rfl dX8_next_38 ?_
      refine lv_iload_n hx hb dX8_next_41 rfl (lv_at hl 4 rfl) ?_
      have hPc := (rgP24_0696254 hP)
      have hKc := (rgK21_2220a6b hK)
      refine vp_callSi ((va_runVN (As := [.int a2]) (rest := []) ⟨hx, hb, hml, hown, hts⟩ (k_X1_holdingFor l dC dI g (a0_6) (a2) (a0_6_0) (a0_6_1) (a0_6_2) (a0_6_3) (a0_6_4) (a0_6_5) (a0_6_6) (a0_6_7) (a0_6_8) (a0_6_9) (a0_6_10) (a0_6_11) (a0_6_12) (a0_6_13) (a0_6_9_c) (a0_6_9_f) (by omega) (by omega) (by omega) (by omega)) ⟨va_cnB 1 hts (gwC qw_328) rfl rfl rfl (nm_36 hN) (hts (.initialized RX1) qw_183) (by decide +kernel) ⟨Nat.le_of_ble_eq_true rfl, Nat.le_of_ble_eq_true rfl⟩, (hts (.instanceMethod yX1_holdingFor) qw_329), (hts (.selects RX1 yX1_holdingFor yX1_holdingFor) qw_330)⟩ ⟨fun a U g9 mk q => ⟨q.1, q.2.1, va_K.moved (u := U) (U := U.calling g9 mk a) (Vm.Alike.refl U.vm) q.2.2.1, Ev.bl q.2.2.2⟩, va_recv hK hP (ci := 0) (q0 := 6) rfl rgL24_1681731, fun U hU hW => ⟨rfl, atB hU hPc, va_K.moved hW.alike hKc, hE.go hS (fun _ h => h.elim) hU hW⟩⟩ rfl rfl hl.1 rfl (lv_room (Nat.le_of_ble_eq_true rfl)) dX8_next_42 ⟨Nat.le_of_ble_eq_true rfl, Nat.le_of_ble_eq_true rfl⟩)).run (fun r16 h_r16 => ?_)
      have b_r16 := i32b r16
      refine lv_istore (lv' := [(5, .int r16), (4, .ref a0_2), (3, .int 1), (0, .ref a0), (1, .int a1), (2, .int a2)]) hx hb dX8_next_45 hl (by decide) rfl (fun ls hl => ?_)
      refine lv_iconst (v := (-1)) hx hb dX8_next_47 (by decide) ?_
      refine lv_istore (lv' := [(6, .int (-1)), (5, .int r16), (4, .ref a0_2), (3, .int 1), (0, .ref a0), (1, .int a1), (2, .int a2)]) hx hb dX8_next_48 hl (by decide) rfl (fun ls hl => ?_)
      refine lv_iconst (v := 0) hx hb dX8_next_50 (by decide) ?_
      refine lv_istore (lv' := [(7, .int 0), (6, .int (-1)), (5, .int r16), (4, .ref a0_2), (3, .int 1), (0, .ref a0), (1, .int a1), (2, .int a2)]) hx hb dX8_next_51 hl (by decide) rfl (fun ls hl => ?_)
      have qcm1 : ((-1) : Int32).toInt = (-1) := by decide
      have qc0 : (0 : Int32).toInt = 0 := by decide
      have qc1 : (1 : Int32).toInt = 1 := by decide
      refine wloop (fun n H locs ls => ∃ (l53_7 : Int32) (l53_6 : Int32), n = (2147483647 - l53_7.toInt).toNat ∧ (0 ≤ l53_7.toInt) ∧ lv_has ls 9 [(7, .int l53_7), (6, .int l53_6), (5, .int r16), (4, .ref a0_2), (3, .int 1), (0, .ref a0), (1, .int a1), (2, .int a2)] ∧ va_P (dC, dI) vwCl (([(a0, .inr (7, [.ref a0_0, .ref a0_1, .ref a0_2, .ref a0_3, .ref a0_4, .ref a0_5, .ref a0_6, .ref a0_7, .ref a0_8, .ref a0_9, .int za0_10_7])), (a0_2, .inr (5, [.ref a0_2_0, .ref a0_2_1, .ref a0_2_2, .ref a0_2_3, .ref a0_2_4, .ref a0_2_5, .int za0_2_6_8, .int za0_2_7_9])), (a0_2_0, .inl (a0_2_0_c, 24, .inl za0_2_0_f_10)), (a0_2_1, .inl (a0_2_1_c, 24, .inl za0_2_1_f_11)), (a0_2_2, .inl (a0_2_2_c, 12, .inr (.inr (.inr (.inr a0_2_2_f))))), (a0_2_3, .inl (a0_2_3_c, 12, .inr (.inr (.inr (.inr a0_2_3_f))))), (a0_6, .inr (0, [.int a0_6_0, .ref a0_6_1, .int a0_6_2, .ref a0_6_3, .int a0_6_4, .ref a0_6_5, .ref a0_6_6, .ref a0_6_7, .int a0_6_8, .ref a0_6_9, .ref a0_6_10, .ref a0_6_11, .ref a0_6_12, .ref a0_6_13])), (a0_6_1, .inl (a0_6_1_c, 8, .inl a0_6_1_f)), (a0_6_3, .inl (a0_6_3_c, 4, .inl a0_6_3_f)), (a0_6_5, .inl (a0_6_5_c, 24, .inl a0_6_5_f)), (a0_6_6, .inl (a0_6_6_c, 24, .inl a0_6_6_f)), (a0_6_7, .inl (a0_6_7_c, 24, .inl a0_6_7_f)), (a0_6_9, .inl (a0_6_9_c, 12, .inl a0_6_9_f)), (a0_6_10, .inl (a0_6_10_c, 12, .inl a0_6_10_f)), (a0_6_11, .inl (a0_6_11_c, 12, .inl a0_6_11_f)), (a0_6_12, .inl (a0_6_12_c, 12, .inr (.inr (.inr (.inr a0_6_12_f))))), (a0_6_13, .inl (a0_6_13_c, 12, .inl a0_6_13_f)), (a0_8, .inr (2, [.ref a0_8_0, .ref a0_8_1, .ref a0_8_2, .ref a0_8_3, .ref a0_8_4, .ref a0_8_5])), (a0_8_0, .inl (a0_8_0_c, 24, .inl a0_8_0_f)), (a0_8_1, .inl (a0_8_1_c, 8, .inl a0_8_1_f)), (a0_8_2, .inl (a0_8_2_c, 12, .inl a0_8_2_f)), (a0_8_3, .inl (a0_8_3_c, 12, .inl a0_8_3_f)), (a0_8_4, .inl (a0_8_4_c, 12, .inr (.inr (.inr (.inr a0_8_4_f))))), (a0_8_5, .inl (a0_8_5_c, 12, .inr (.inr (.inr (.inr a0_8_5_f)))))] : va_W) ++ zrows_12) H ∧ va_D A (([(a0, .inr (7, [.ref a0_0, .ref a0_1, .ref a0_2, .ref a0_3, .ref a0_4, .ref a0_5, .ref a0_6, .ref a0_7, .ref a0_8, .ref a0_9, .int za0_10_7])), (a0_2, .inr (5, [.ref a0_2_0, .ref a0_2_1, .ref a0_2_2, .ref a0_2_3, .ref a0_2_4, .ref a0_2_5, .int za0_2_6_8, .int za0_2_7_9])), (a0_2_0, .inl (a0_2_0_c, 24, .inl za0_2_0_f_10)), (a0_2_1, .inl (a0_2_1_c, 24, .inl za0_2_1_f_11)), (a0_2_2, .inl (a0_2_2_c, 12, .inr (.inr (.inr (.inr a0_2_2_f))))), (a0_2_3, .inl (a0_2_3_c, 12, .inr (.inr (.inr (.inr a0_2_3_f))))), (a0_6, .inr (0, [.int a0_6_0, .ref a0_6_1, .int a0_6_2, .ref a0_6_3, .int a0_6_4, .ref a0_6_5, .ref a0_6_6, .ref a0_6_7, .int a0_6_8, .ref a0_6_9, .ref a0_6_10, .ref a0_6_11, .ref a0_6_12, .ref a0_6_13])), (a0_6_1, .inl (a0_6_1_c, 8, .inl a0_6_1_f)), (a0_6_3, .inl (a0_6_3_c, 4, .inl a0_6_3_f)), (a0_6_5, .inl (a0_6_5_c, 24, .inl a0_6_5_f)), (a0_6_6, .inl (a0_6_6_c, 24, .inl a0_6_6_f)), (a0_6_7, .inl (a0_6_7_c, 24, .inl a0_6_7_f)), (a0_6_9, .inl (a0_6_9_c, 12, .inl a0_6_9_f)), (a0_6_10, .inl (a0_6_10_c, 12, .inl a0_6_10_f)), (a0_6_11, .inl (a0_6_11_c, 12, .inl a0_6_11_f)), (a0_6_12, .inl (a0_6_12_c, 12, .inr (.inr (.inr (.inr a0_6_12_f))))), (a0_6_13, .inl (a0_6_13_c, 12, .inl a0_6_13_f)), (a0_8, .inr (2, [.ref a0_8_0, .ref a0_8_1, .ref a0_8_2, .ref a0_8_3, .ref a0_8_4, .ref a0_8_5])), (a0_8_0, .inl (a0_8_0_c, 24, .inl a0_8_0_f)), (a0_8_1, .inl (a0_8_1_c, 8, .inl a0_8_1_f)), (a0_8_2, .inl (a0_8_2_c, 12, .inl a0_8_2_f)), (a0_8_3, .inl (a0_8_3_c, 12, .inl a0_8_3_f)), (a0_8_4, .inl (a0_8_4_c, 12, .inr (.inr (.inr (.inr a0_8_4_f))))), (a0_8_5, .inl (a0_8_5_c, 12, .inr (.inr (.inr (.inr a0_8_5_f)))))] : va_W) ++ zrows_12) ∧ va_S A s.heap H locs) ?_ ((2147483647 - (0 : Int32).toInt).toNat) _ _ _ ⟨0, (-1), rfl, (by omega), lv_sub hl [0, 1, 2, 3, 4, 5, 6, 7] rfl, hP, hD, hS⟩
      intro n53 H locs ls hI ih53
      obtain ⟨l53_7, l53_6, hn53, g_l53_7, hl, hP, hD, hS⟩ := hI
      have b_l53_7 := i32b l53_7
      have b_l53_6 := i32b l53_6
      refine lv_iload hx hb dX8_next_53 (lv_at hl 0 rfl) ?_
      refine lv_aload_n hx hb dX8_next_55 rfl (lv_at hl 5 rfl) ?_
      refine va_get (D := (dC, dI)) (ci := 7) (v := .ref a0_6) (C := RX8) (T := TX8) (N := 11) hx hb hts inlX8 hown hK hP 0 rgL24_10cdad0 rfl 6 (by decide) (hts (.fieldLink RX8 51 "ClosedUntil" "told" "LClosedUntil$Holdings;") qw_262) (fun _ h9 => h9) rfl dX8_next_56 ?_
      refine va_getN (D := (dC, dI)) (ci := 0) (v := .int a0_6_4) (C := RX1) (T := TX1) (N := 14) hx hb hts inlX1 hown hK hP 6 rgL24_1681731 rfl 4 (by decide) (va_Nw.use rfl (nf_37 hN)) (fun _ h9 => h9) rfl dX8_next_59 ?_
      refine lv_icmp_ge (tgt := 105) hx hb dX8_next_62 (by decide) (fun c62_17 => ?_) (fun c62_17 => ?_)
      · have c62_17 : a0_6_4.toInt ≤ l53_7.toInt := (cv_le rfl rfl).mp c62_17
        refine lv_iload hx hb dX8_next_105 (lv_at hl 1 rfl) ?_
        refine W.widen (k := 0) (n := 0) (Nat.le_of_ble_eq_true rfl) (Nat.le_of_ble_eq_true rfl) ?_
        have hP9 := hP
        have hD9 := hD
        have hK9 := (rgK21_98db583 hK)
        have hf9_0 : (0 ≤ za0_2_6_8.toInt ∧ za0_2_6_8.toInt ≤ 24) := by omega
        have hf9_1 : (0 ≤ za0_2_7_9.toInt ∧ za0_2_7_9.toInt ≤ 12) := by omega
        have hf9_2 : RS g.2.2.2.2.1 rows zrows_12 := hRS
        exact W.iret (v := l53_6) hx hb hr (fun t ht hW => ⟨⟨l53_6, l53_6, rfl, rfl, za0_10_7, za0_2_6_8, za0_2_7_9, za0_2_0_f_10, za0_2_1_f_11, zrows_12, hf9_0, hf9_1, hf9_2, atB ht hP9, va_K.moved hW.alike hK9, hD9⟩, hS.F ht⟩) hS.2.2 dX8_next_107
      · have c62_17 : ¬ (a0_6_4.toInt ≤ l53_7.toInt) := mt (cv_le rfl rfl).mpr c62_17
        refine lv_aload hx hb dX8_next_65 (lv_at hl 3 rfl) ?_
        refine lv_iload hx hb dX8_next_67 (lv_at hl 0 rfl) ?_
        refine lv_iload hx hb dX8_next_69 (lv_at hl 2 rfl) ?_
        have hPc := (rgP24_69b5983 hP)
        have hKc := (rgK21_ffbac61 hK)
        refine vp_callSi ((va_runVN (As := [.int l53_7, .int r16]) (rest := []) ⟨hx, hb, hml, hown, hts⟩ (k_X6_openingOf l dC dI g (a0_2) (l53_7) (r16) (a0_2_0) (a0_2_1) (a0_2_2) (a0_2_3) (a0_2_4) (a0_2_5) (za0_2_6_8) (za0_2_7_9) (a0_2_3_c) (a0_2_3_f) (zrows_12) (by omega) (by omega) (RS.gr hRS h_a0_2_3_f) (by omega)) ⟨va_cnB 2 hts (gwC qw_164) rfl rfl rfl (nm_37 hN) (hts (.initialized RX6) qw_133) (by decide +kernel) ⟨Nat.le_of_ble_eq_true rfl, Nat.le_of_ble_eq_true rfl⟩, (hts (.instanceMethod yX6_openingOf) qw_166), (hts (.selects RX6 yX6_openingOf yX6_openingOf) qw_167)⟩ ⟨fun a U g9 mk q => ⟨q.1, q.2.1, va_K.moved (u := U) (U := U.calling g9 mk a) (Vm.Alike.refl U.vm) q.2.2.1, Ev.bl q.2.2.2⟩, va_recv hK hP (ci := 5) (q0 := 1) rfl rgL24_436a872, fun U hU hW => ⟨rfl, atB hU hPc, va_K.moved hW.alike hKc, hE.go hS (fun _ h => h.elim) hU hW⟩⟩ rfl rfl hl.1 rfl (lv_room (Nat.le_of_ble_eq_true rfl)) dX8_next_71 ⟨Nat.le_of_ble_eq_true rfl, Nat.le_of_ble_eq_true rfl⟩)).run (fun r18 h_r18 => ?_)
        have b_r18 := i32b r18
        refine lv_istore (lv' := [(8, .int r18), (7, .int l53_7), (6, .int l53_6), (5, .int r16), (4, .ref a0_2), (3, .int 1), (0, .ref a0), (1, .int a1), (2, .int a2)]) hx hb dX8_next_74 hl (by decide) rfl (fun ls hl => ?_)
        refine lv_iload hx hb dX8_next_76 (lv_at hl 0 rfl) ?_
        refine lv_iload_n hx hb dX8_next_78 rfl (lv_at hl 7 rfl) ?_
        refine lv_icmp_le (tgt := 99) hx hb dX8_next_79 (by decide) (fun c79_19 => ?_) (fun c79_19 => ?_)
        · have c79_19 : r18.toInt ≤ a1.toInt := (cv_le rfl rfl).mp c79_19
          obtain ⟨x20, e_x20⟩ : ∃ y : Int32, y = l53_7 + 1 := ⟨_, rfl⟩
          refine lv_iinc (v := x20) (lv' := [(7, .int x20), (8, .int r18), (6, .int l53_6), (5, .int r16), (4, .ref a0_2), (3, .int 1), (0, .ref a0), (1, .int a1), (2, .int a2)]) hx hb dX8_next_99 hl (k := 1) rfl (by rw [e_x20]; rfl) (by decide) rfl (fun ls hl => ?_)
          try have e_x20 := ti_add e_x20 rfl (show (1 : Int32).toInt = 1 by decide) (by omega)
          refine lv_goto (tgt := 53) hx hb dX8_next_102 (by decide) ?_
          have qc1 : (1 : Int32).toInt = 1 := by decide
          exact ih53 ((2147483647 - x20.toInt).toNat) _ _ _ (by omega) ⟨x20, l53_6, rfl, (by omega), lv_sub hl [0, 2, 3, 4, 5, 6, 7, 8] rfl, hP, hD, hS⟩
        · have c79_19 : ¬ (r18.toInt ≤ a1.toInt) := mt (cv_le rfl rfl).mpr c79_19
          refine lv_iload hx hb dX8_next_82 (lv_at hl 2 rfl) ?_
          refine lv_iconst (v := (-1)) hx hb dX8_next_84 (by decide) ?_
          refine lv_icmp_eq (tgt := 95) hx hb dX8_next_85 (by decide) (fun c85_21 => ?_) (fun c85_21 => ?_)
          · have c85_21 : l53_6.toInt = (-1) := (cv_eq rfl (by decide)).mp c85_21
            refine lv_iload hx hb dX8_next_95 (lv_at hl 0 rfl) ?_
            refine lv_istore (lv' := [(6, .int r18), (8, .int r18), (7, .int l53_7), (5, .int r16), (4, .ref a0_2), (3, .int 1), (0, .ref a0), (1, .int a1), (2, .int a2)]) hx hb dX8_next_97 hl (by decide) rfl (fun ls hl => ?_)
            obtain ⟨x22, e_x22⟩ : ∃ y : Int32, y = l53_7 + 1 := ⟨_, rfl⟩
            refine lv_iinc (v := x22) (lv' := [(7, .int x22), (6, .int r18), (8, .int r18), (5, .int r16), (4, .ref a0_2), (3, .int 1), (0, .ref a0), (1, .int a1), (2, .int a2)]) hx hb dX8_next_99 hl (k := 2) rfl (by rw [e_x22]; rfl) (by decide) rfl (fun ls hl => ?_)
            try have e_x22 := ti_add e_x22 rfl (show (1 : Int32).toInt = 1 by decide) (by omega)
            refine lv_goto (tgt := 53) hx hb dX8_next_102 (by decide) ?_
            have qc1 : (1 : Int32).toInt = 1 := by decide
            exact ih53 ((2147483647 - x22.toInt).toNat) _ _ _ (by omega) ⟨x22, r18, rfl, (by omega), lv_sub hl [0, 1, 3, 4, 5, 6, 7, 8] rfl, hP, hD, hS⟩
          · have c85_21 : ¬ (l53_6.toInt = (-1)) := mt (cv_eq rfl (by decide)).mpr c85_21
            refine lv_iload hx hb dX8_next_88 (lv_at hl 0 rfl) ?_
            refine lv_iload hx hb dX8_next_90 (lv_at hl 2 rfl) ?_
            refine lv_icmp_ge (tgt := 99) hx hb dX8_next_92 (by decide) (fun c92_23 => ?_) (fun c92_23 => ?_)
            · have c92_23 : l53_6.toInt ≤ r18.toInt := (cv_le rfl rfl).mp c92_23
              obtain ⟨x24, e_x24⟩ : ∃ y : Int32, y = l53_7 + 1 := ⟨_, rfl⟩
              refine lv_iinc (v := x24) (lv' := [(7, .int x24), (8, .int r18), (6, .int l53_6), (5, .int r16), (4, .ref a0_2), (3, .int 1), (0, .ref a0), (1, .int a1), (2, .int a2)]) hx hb dX8_next_99 hl (k := 1) rfl (by rw [e_x24]; rfl) (by decide) rfl (fun ls hl => ?_)
              try have e_x24 := ti_add e_x24 rfl (show (1 : Int32).toInt = 1 by decide) (by omega)
              refine lv_goto (tgt := 53) hx hb dX8_next_102 (by decide) ?_
              have qc1 : (1 : Int32).toInt = 1 := by decide
              exact ih53 ((2147483647 - x24.toInt).toNat) _ _ _ (by omega) ⟨x24, l53_6, rfl, (by omega), lv_sub hl [0, 2, 3, 4, 5, 6, 7, 8] rfl, hP, hD, hS⟩
            · have c92_23 : ¬ (l53_6.toInt ≤ r18.toInt) := mt (cv_le rfl rfl).mpr c92_23
              refine lv_iload hx hb dX8_next_95 (lv_at hl 0 rfl) ?_
              refine lv_istore (lv' := [(6, .int r18), (8, .int r18), (7, .int l53_7), (5, .int r16), (4, .ref a0_2), (3, .int 1), (0, .ref a0), (1, .int a1), (2, .int a2)]) hx hb dX8_next_97 hl (by decide) rfl (fun ls hl => ?_)
              obtain ⟨x25, e_x25⟩ : ∃ y : Int32, y = l53_7 + 1 := ⟨_, rfl⟩
              refine lv_iinc (v := x25) (lv' := [(7, .int x25), (6, .int r18), (8, .int r18), (5, .int r16), (4, .ref a0_2), (3, .int 1), (0, .ref a0), (1, .int a1), (2, .int a2)]) hx hb dX8_next_99 hl (k := 2) rfl (by rw [e_x25]; rfl) (by decide) rfl (fun ls hl => ?_)
              try have e_x25 := ti_add e_x25 rfl (show (1 : Int32).toInt = 1 by decide) (by omega)
              refine lv_goto (tgt := 53) hx hb dX8_next_102 (by decide) ?_
              have qc1 : (1 : Int32).toInt = 1 := by decide
              exact ih53 ((2147483647 - x25.toInt).toNat) _ _ _ (by omega) ⟨x25, r18, rfl, (by omega), lv_sub hl [0, 1, 3, 4, 5, 6, 7, 8] rfl, hP, hD, hS⟩
    · have c26_4 : r3.toInt = 0 := (cv_eq rfl (by decide)).mp c26_4
      refine lv_iconst (v := (-1)) hx hb dX8_next_29 (by decide) ?_
      have qcm1 : ((-1) : Int32).toInt = (-1) := by decide
      refine W.widen (k := 0) (n := 0) (Nat.le_of_ble_eq_true rfl) (Nat.le_of_ble_eq_true rfl) ?_
      have hP9 := hP
      have hD9 := hD
      have hK9 := (rgK21_98db583 hK)
      have hf9_0 : (0 ≤ a0_2_6.toInt ∧ a0_2_6.toInt ≤ 24) := by omega
      have hf9_1 : (0 ≤ a0_2_7.toInt ∧ a0_2_7.toInt ≤ 12) := by omega
      have hf9_2 : RS g.2.2.2.2.1 rows rows := hRS
      exact W.iret (v := (-1)) hx hb hr (fun t ht hW => ⟨⟨(-1), (-1), rfl, rfl, a0_10, a0_2_6, a0_2_7, a0_2_0_f, a0_2_1_f, rows, hf9_0, hf9_1, hf9_2, atB ht hP9, va_K.moved hW.alike hK9, hD9⟩, hS.F ht⟩) hS.2.2 dX8_next_30
  · have c2_1 : ¬ (a1.toInt = (-1)) := mt (cv_eq rfl (by decide)).mpr c2_1
    refine lv_iload_n hx hb dX8_next_5 rfl (lv_at hl 1 rfl) ?_
    have hPc := (rgP24_c46fd41 hP)
    have hKc := (rgK21_98db583 hK)
    refine vp_callSi ((va_runS (As := [.int a1]) (rest := []) ⟨hx, hb, hml, hown, hts⟩ (k_X8_isDayOrLate l dC dI g (a1) ) (va_cwS 1 hts (gwS qw_260 qw_261 qw_28 qw_259) rfl rfl rfl (by decide +kernel) ⟨Nat.le_of_ble_eq_true rfl, Nat.le_of_ble_eq_true rfl⟩) ⟨fun a U g9 mk q => ⟨q.1, q.2.1, va_K.moved (u := U) (U := U.calling g9 mk a) (Vm.Alike.refl U.vm) q.2.2.1, Ev.bl q.2.2.2⟩, fun U hU hW => ⟨rfl, atB hU hPc, va_K.moved hW.alike hKc, hE.go hS (fun _ h => h.elim) hU hW⟩⟩ rfl rfl hl.1 rfl (lv_room (Nat.le_of_ble_eq_true rfl)) dX8_next_6 ⟨Nat.le_of_ble_eq_true rfl, Nat.le_of_ble_eq_true rfl⟩)).run (fun r26 h_r26 => ?_)
    have h_r26 : (r26 = 0 ∨ r26 = 1) := h_r26
    have b_r26 := z01 (show r26 = 0 ∨ r26 = 1 from h_r26)
    refine lv_if_eq (tgt := 16) hx hb dX8_next_9 (by decide) (fun c9_27 => ?_) (fun c9_27 => ?_)
    · have c9_27 : r26.toInt = 0 := (cv_eq rfl (by decide)).mp c9_27
      refine lv_iconst (v := 0) hx hb dX8_next_16 (by decide) ?_
      refine lv_istore_n (lv' := [(3, .int 0), (0, .ref a0), (1, .int a1), (2, .int a2)]) hx hb dX8_next_17 rfl hl (by decide) rfl (fun ls hl => ?_)
      refine lv_iload_n hx hb dX8_next_18 rfl (lv_at hl 0 rfl) ?_
      refine lv_if_eq (tgt := 29) hx hb dX8_next_19 (by decide) (fun c19_28 => ?_) (fun c19_28 => by exfalso; exact absurd c19_28 (by decide))
      refine lv_iconst (v := (-1)) hx hb dX8_next_29 (by decide) ?_
      have qcm1 : ((-1) : Int32).toInt = (-1) := by decide
      refine W.widen (k := 0) (n := 0) (Nat.le_of_ble_eq_true rfl) (Nat.le_of_ble_eq_true rfl) ?_
      have hP9 := hP
      have hD9 := hD
      have hK9 := (rgK21_98db583 hK)
      have hf9_0 : (0 ≤ a0_2_6.toInt ∧ a0_2_6.toInt ≤ 24) := by omega
      have hf9_1 : (0 ≤ a0_2_7.toInt ∧ a0_2_7.toInt ≤ 12) := by omega
      have hf9_2 : RS g.2.2.2.2.1 rows rows := hRS
      exact W.iret (v := (-1)) hx hb hr (fun t ht hW => ⟨⟨(-1), (-1), rfl, rfl, a0_10, a0_2_6, a0_2_7, a0_2_0_f, a0_2_1_f, rows, hf9_0, hf9_1, hf9_2, atB ht hP9, va_K.moved hW.alike hK9, hD9⟩, hS.F ht⟩) hS.2.2 dX8_next_30
    · have c9_27 : ¬ (r26.toInt = 0) := mt (cv_eq rfl (by decide)).mpr c9_27
      refine lv_iconst (v := 1) hx hb dX8_next_12 (by decide) ?_
      refine lv_goto (tgt := 17) hx hb dX8_next_13 (by decide) ?_
      refine lv_istore_n (lv' := [(3, .int 1), (0, .ref a0), (1, .int a1), (2, .int a2)]) hx hb dX8_next_17 rfl hl (by decide) rfl (fun ls hl => ?_)
      refine lv_iload_n hx hb dX8_next_18 rfl (lv_at hl 0 rfl) ?_
      refine lv_if_eq (tgt := 29) hx hb dX8_next_19 (by decide) (fun c19_29 => by exfalso; exact absurd c19_29 (by decide)) (fun c19_29 => ?_)
      refine lv_iload_n hx hb dX8_next_22 rfl (lv_at hl 3 rfl) ?_
      have hPc := (rgP24_c46fd41 hP)
      have hKc := (rgK21_98db583 hK)
      refine vp_callSi ((va_runS (As := [.int a2]) (rest := []) ⟨hx, hb, hml, hown, hts⟩ (k_X8_areReaders l dC dI g (a2) ) (va_cwS 1 hts (gwS qw_326 qw_327 qw_28 qw_325) rfl rfl rfl (by decide +kernel) ⟨Nat.le_of_ble_eq_true rfl, Nat.le_of_ble_eq_true rfl⟩) ⟨fun a U g9 mk q => ⟨q.1, q.2.1, va_K.moved (u := U) (U := U.calling g9 mk a) (Vm.Alike.refl U.vm) q.2.2.1, Ev.bl q.2.2.2⟩, fun U hU hW => ⟨rfl, atB hU hPc, va_K.moved hW.alike hKc, hE.go hS (fun _ h => h.elim) hU hW⟩⟩ rfl rfl hl.1 rfl (lv_room (Nat.le_of_ble_eq_true rfl)) dX8_next_23 ⟨Nat.le_of_ble_eq_true rfl, Nat.le_of_ble_eq_true rfl⟩)).run (fun r30 h_r30 => ?_)
      have h_r30 : (r30 = 0 ∨ r30 = 1) := h_r30
      have b_r30 := z01 (show r30 = 0 ∨ r30 = 1 from h_r30)
      refine lv_if_ne (tgt := 31) hx hb dX8_next_26 (by decide) (fun c26_31 => ?_) (fun c26_31 => ?_)
      · have c26_31 : ¬ (r30.toInt = 0) := mt (cv_eq rfl (by decide)).mpr c26_31
        refine lv_aload_n hx hb dX8_next_31 rfl (lv_at hl 1 rfl) ?_
        have hPc := hP
        have hKc := (rgK21_94c7792 hK)
        have hDc := hD
        have hFc := freeW hDc hS hA
        refine va_callr (va_runV (As := []) (rest := []) ⟨hx, hb, hml, hown, hts⟩ (k_X8_upToDate l dC dI g s.heap.size (a0) (a0_0) (a0_1) (a0_2) (a0_3) (a0_4) (a0_5) (a0_6) (a0_7) (a0_8) (a0_9) (a0_10) (a0_2_0) (a0_2_1) (a0_2_2) (a0_2_3) (a0_2_4) (a0_2_5) (a0_2_6) (a0_2_7) (a0_2_0_c) (a0_2_0_f) (a0_2_1_c) (a0_2_1_f) (a0_2_2_c) (a0_2_2_f) (a0_2_3_c) (a0_2_3_f) (a0_6_0) (a0_6_1) (a0_6_2) (a0_6_3) (a0_6_4) (a0_6_5) (a0_6_6) (a0_6_7) (a0_6_8) (a0_6_9) (a0_6_10) (a0_6_11) (a0_6_12) (a0_6_13) (a0_6_1_c) (a0_6_1_f) (a0_6_3_c) (a0_6_3_f) (a0_6_5_c) (a0_6_5_f) (a0_6_6_c) (a0_6_6_f) (a0_6_7_c) (a0_6_7_f) (a0_6_9_c) (a0_6_9_f) (a0_6_10_c) (a0_6_10_f) (a0_6_11_c) (a0_6_11_f) (a0_6_12_c) (a0_6_12_f) (a0_6_13_c) (a0_6_13_f) (a0_8_0) (a0_8_1) (a0_8_2) (a0_8_3) (a0_8_4) (a0_8_5) (a0_8_0_c) (a0_8_0_f) (a0_8_1_c) (a0_8_1_f) (a0_8_2_c) (a0_8_2_f) (a0_8_3_c) (a0_8_3_f) (a0_8_4_c) (a0_8_4_f) (a0_8_5_c) (a0_8_5_f) (rows) (by omega) (by omega) (RS.gr hRS h_a0_2_2_f) (RS.gr hRS h_a0_2_3_f) (by omega) (by omega) (by omega) (by omega) (RS.gr hRS h_a0_6_12_f) h_a0_8_3_f (RS.gr hRS h_a0_8_4_f) (RS.gr hRS h_a0_8_5_f) (by assumption)) (cwV 0 hts (gwV qw_316 qw_317 qw_318 qw_28 qw_315) rfl rfl rfl (by decide +kernel) ⟨Nat.le_of_ble_eq_true rfl, Nat.le_of_ble_eq_true rfl⟩) ⟨fun a U g9 mk q => ⟨q.1, q.2.1, q.2.2.1, va_K.moved (u := U) (U := U.calling g9 mk a) (Vm.Alike.refl U.vm) q.2.2.2.1, q.2.2.2.2.1, Ev.bl q.2.2.2.2.2⟩, va_recv hK hP (ci := 7) (q0 := 0) rfl rgL24_10cdad0, fun U hU hW => ⟨rfl, by rw [hU], atB hU hPc, va_K.moved hW.alike hKc, hDc.weaken (fun _ _ _ _ => trivial), hE.go hS hFc hU hW⟩⟩ rfl rfl hl.1 rfl (lv_room (Nat.le_of_ble_eq_true rfl)) dX8_next_32 ⟨Nat.le_of_ble_eq_true rfl, Nat.le_of_ble_eq_true rfl⟩) hS (fun q _ h => hFc q h) hFc (fun u32 r33 t H1 locs ht hvm h_u32 hB hz1 hk1 hS => ?_)
        obtain ⟨hrr, za0_10_34, za0_2_6_35, za0_2_7_36, za0_2_0_f_37, za0_2_1_f_38, zrows_39, hF40, hF41, hF42, hP1, hK1, hD1⟩ := hB
        have hK1 := va_K.moved hvm.symm hK1
        have hJ9 := rgJ24_e25e203 hP hD hk1 hFc (atH ht hP1) hD1
        clear hP hD hPc hKc hDc hFc hP1 hD1 hk1 hz1
        obtain ⟨hP, hD⟩ := hJ9
        clear hK1
        generalize H1 = H at hP hS ⊢
        refine W.widen (k := 0) (n := 0) (Nat.le_of_ble_eq_true rfl) (Nat.le_of_ble_eq_true rfl) ?_
        refine topv (w := .ref a0_2) (by rw [hrr]) ?_
        have hRS := RS.tr hRS hF42
        refine lv_astore (lv' := [(4, .ref a0_2), (3, .int 1), (0, .ref a0), (1, .int a1), (2, .int a2)]) hx hb dX8_next_35 hl (by decide) rfl (fun ls hl => ?_)
        refine lv_aload_n hx hb dX8_next_37 rfl (lv_at hl 2 rfl) ?_
        refine va_get (D := (dC, dI)) (ci := 7) (v := .ref a0_6) (C := RX8) (T := TX8) (N := 11) hx hb hts inlX8 hown hK hP 0 rgL24_10cdad0 rfl 6 (by decide) (hts (.fieldLink RX8 51 "ClosedUntil" "told" "LClosedUntil$Holdings;") qw_262) (fun _ h9 => h9) rfl dX8_next_38 ?_
        refine lv_iload_n hx hb dX8_next_41 rfl (lv_at hl 4 rfl) ?_
        have hPc := (rgP24_0696254 hP)
        have hKc := (rgK21_2220a6b hK)
        refine vp_callSi ((va_runVN (As := [.int a2]) (rest := []) ⟨hx, hb, hml, hown, hts⟩ (k_X1_holdingFor l dC dI g (a0_6) (a2) (a0_6_0) (a0_6_1) (a0_6_2) (a0_6_3) (a0_6_4) (a0_6_5) (a0_6_6) (a0_6_7) (a0_6_8) (a0_6_9) (a0_6_10) (a0_6_11) (a0_6_12) (a0_6_13) (a0_6_9_c) (a0_6_9_f) (by omega) (by omega) (by omega) (by omega)) ⟨va_cnB 1 hts (gwC qw_328) rfl rfl rfl (nm_36 hN) (hts (.initialized RX1) qw_183) (by decide +kernel) ⟨Nat.le_of_ble_eq_true rfl, Nat.le_of_ble_eq_true rfl⟩, (hts (.instanceMethod yX1_holdingFor) qw_329), (hts (.selects RX1 yX1_holdingFor yX1_holdingFor) qw_330)⟩ ⟨fun a U g9 mk q => ⟨q.1, q.2.1, va_K.moved (u := U) (U := U.calling g9 mk a) (Vm.Alike.refl U.vm) q.2.2.1, Ev.bl q.2.2.2⟩, va_recv hK hP (ci := 0) (q0 := 6) rfl rgL24_1681731, fun U hU hW => ⟨rfl, atB hU hPc, va_K.moved hW.alike hKc, hE.go hS (fun _ h => h.elim) hU hW⟩⟩ rfl rfl hl.1 rfl (lv_room (Nat.le_of_ble_eq_true rfl)) dX8_next_42 ⟨Nat.le_of_ble_eq_true rfl, Nat.le_of_ble_eq_true rfl⟩)).run (fun r43 h_r43 => ?_)
        have b_r43 := i32b r43
        refine lv_istore (lv' := [(5, .int r43), (4, .ref a0_2), (3, .int 1), (0, .ref a0), (1, .int a1), (2, .int a2)]) hx hb dX8_next_45 hl (by decide) rfl (fun ls hl => ?_)
        refine lv_iconst (v := (-1)) hx hb dX8_next_47 (by decide) ?_
        refine lv_istore (lv' := [(6, .int (-1)), (5, .int r43), (4, .ref a0_2), (3, .int 1), (0, .ref a0), (1, .int a1), (2, .int a2)]) hx hb dX8_next_48 hl (by decide) rfl (fun ls hl => ?_)
        refine lv_iconst (v := 0) hx hb dX8_next_50 (by decide) ?_
        refine lv_istore (lv' := [(7, .int 0), (6, .int (-1)), (5, .int r43), (4, .ref a0_2), (3, .int 1), (0, .ref a0), (1, .int a1), (2, .int a2)]) hx hb dX8_next_51 hl (by decide) rfl (fun ls hl => ?_)
        have qcm1 : ((-1) : Int32).toInt = (-1) := by decide
        have qc0 : (0 : Int32).toInt = 0 := by decide
        have qc1 : (1 : Int32).toInt = 1 := by decide
        refine wloop (fun n H locs ls => ∃ (l53_7 : Int32) (l53_6 : Int32), n = (2147483647 - l53_7.toInt).toNat ∧ (0 ≤ l53_7.toInt) ∧ lv_has ls 9 [(7, .int l53_7), (6, .int l53_6), (5, .int r43), (4, .ref a0_2), (3, .int 1), (0, .ref a0), (1, .int a1), (2, .int a2)] ∧ va_P (dC, dI) vwCl (([(a0, .inr (7, [.ref a0_0, .ref a0_1, .ref a0_2, .ref a0_3, .ref a0_4, .ref a0_5, .ref a0_6, .ref a0_7, .ref a0_8, .ref a0_9, .int za0_10_34])), (a0_2, .inr (5, [.ref a0_2_0, .ref a0_2_1, .ref a0_2_2, .ref a0_2_3, .ref a0_2_4, .ref a0_2_5, .int za0_2_6_35, .int za0_2_7_36])), (a0_2_0, .inl (a0_2_0_c, 24, .inl za0_2_0_f_37)), (a0_2_1, .inl (a0_2_1_c, 24, .inl za0_2_1_f_38)), (a0_2_2, .inl (a0_2_2_c, 12, .inr (.inr (.inr (.inr a0_2_2_f))))), (a0_2_3, .inl (a0_2_3_c, 12, .inr (.inr (.inr (.inr a0_2_3_f))))), (a0_6, .inr (0, [.int a0_6_0, .ref a0_6_1, .int a0_6_2, .ref a0_6_3, .int a0_6_4, .ref a0_6_5, .ref a0_6_6, .ref a0_6_7, .int a0_6_8, .ref a0_6_9, .ref a0_6_10, .ref a0_6_11, .ref a0_6_12, .ref a0_6_13])), (a0_6_1, .inl (a0_6_1_c, 8, .inl a0_6_1_f)), (a0_6_3, .inl (a0_6_3_c, 4, .inl a0_6_3_f)), (a0_6_5, .inl (a0_6_5_c, 24, .inl a0_6_5_f)), (a0_6_6, .inl (a0_6_6_c, 24, .inl a0_6_6_f)), (a0_6_7, .inl (a0_6_7_c, 24, .inl a0_6_7_f)), (a0_6_9, .inl (a0_6_9_c, 12, .inl a0_6_9_f)), (a0_6_10, .inl (a0_6_10_c, 12, .inl a0_6_10_f)), (a0_6_11, .inl (a0_6_11_c, 12, .inl a0_6_11_f)), (a0_6_12, .inl (a0_6_12_c, 12, .inr (.inr (.inr (.inr a0_6_12_f))))), (a0_6_13, .inl (a0_6_13_c, 12, .inl a0_6_13_f)), (a0_8, .inr (2, [.ref a0_8_0, .ref a0_8_1, .ref a0_8_2, .ref a0_8_3, .ref a0_8_4, .ref a0_8_5])), (a0_8_0, .inl (a0_8_0_c, 24, .inl a0_8_0_f)), (a0_8_1, .inl (a0_8_1_c, 8, .inl a0_8_1_f)), (a0_8_2, .inl (a0_8_2_c, 12, .inl a0_8_2_f)), (a0_8_3, .inl (a0_8_3_c, 12, .inl a0_8_3_f)), (a0_8_4, .inl (a0_8_4_c, 12, .inr (.inr (.inr (.inr a0_8_4_f))))), (a0_8_5, .inl (a0_8_5_c, 12, .inr (.inr (.inr (.inr a0_8_5_f)))))] : va_W) ++ zrows_39) H ∧ va_D A (([(a0, .inr (7, [.ref a0_0, .ref a0_1, .ref a0_2, .ref a0_3, .ref a0_4, .ref a0_5, .ref a0_6, .ref a0_7, .ref a0_8, .ref a0_9, .int za0_10_34])), (a0_2, .inr (5, [.ref a0_2_0, .ref a0_2_1, .ref a0_2_2, .ref a0_2_3, .ref a0_2_4, .ref a0_2_5, .int za0_2_6_35, .int za0_2_7_36])), (a0_2_0, .inl (a0_2_0_c, 24, .inl za0_2_0_f_37)), (a0_2_1, .inl (a0_2_1_c, 24, .inl za0_2_1_f_38)), (a0_2_2, .inl (a0_2_2_c, 12, .inr (.inr (.inr (.inr a0_2_2_f))))), (a0_2_3, .inl (a0_2_3_c, 12, .inr (.inr (.inr (.inr a0_2_3_f))))), (a0_6, .inr (0, [.int a0_6_0, .ref a0_6_1, .int a0_6_2, .ref a0_6_3, .int a0_6_4, .ref a0_6_5, .ref a0_6_6, .ref a0_6_7, .int a0_6_8, .ref a0_6_9, .ref a0_6_10, .ref a0_6_11, .ref a0_6_12, .ref a0_6_13])), (a0_6_1, .inl (a0_6_1_c, 8, .inl a0_6_1_f)), (a0_6_3, .inl (a0_6_3_c, 4, .inl a0_6_3_f)), (a0_6_5, .inl (a0_6_5_c, 24, .inl a0_6_5_f)), (a0_6_6, .inl (a0_6_6_c, 24, .inl a0_6_6_f)), (a0_6_7, .inl (a0_6_7_c, 24, .inl a0_6_7_f)), (a0_6_9, .inl (a0_6_9_c, 12, .inl a0_6_9_f)), (a0_6_10, .inl (a0_6_10_c, 12, .inl a0_6_10_f)), (a0_6_11, .inl (a0_6_11_c, 12, .inl a0_6_11_f)), (a0_6_12, .inl (a0_6_12_c, 12, .inr (.inr (.inr (.inr a0_6_12_f))))), (a0_6_13, .inl (a0_6_13_c, 12, .inl a0_6_13_f)), (a0_8, .inr (2, [.ref a0_8_0, .ref a0_8_1, .ref a0_8_2, .ref a0_8_3, .ref a0_8_4, .ref a0_8_5])), (a0_8_0, .inl (a0_8_0_c, 24, .inl a0_8_0_f)), (a0_8_1, .inl (a0_8_1_c, 8, .inl a0_8_1_f)), (a0_8_2, .inl (a0_8_2_c, 12, .inl a0_8_2_f)), (a0_8_3, .inl (a0_8_3_c, 12, .inl a0_8_3_f)), (a0_8_4, .inl (a0_8_4_c, 12, .inr (.inr (.inr (.inr a0_8_4_f))))), (a0_8_5, .inl (a0_8_5_c, 12, .inr (.inr (.inr (.inr a0_8_5_f)))))] : va_W) ++ zrows_39) ∧ va_S A s.heap H locs) ?_ ((2147483647 - (0 : Int32).toInt).toNat) _ _ _ ⟨0, (-1), rfl, (by omega), lv_sub hl [0, 1, 2, 3, 4, 5, 6, 7] rfl, hP, hD, hS⟩
        intro n53 H locs ls hI ih53
        obtain ⟨l53_7, l53_6, hn53, g_l53_7, hl, hP, hD, hS⟩ := hI
        have b_l53_7 := i32b l53_7
        have b_l53_6 := i32b l53_6
        refine lv_iload hx hb dX8_next_53 (lv_at hl 0 rfl) ?_
        refine lv_aload_n hx hb dX8_next_55 rfl (lv_at hl 5 rfl) ?_
        refine va_get (D := (dC, dI)) (ci := 7) (v := .ref a0_6) (C := RX8) (T := TX8) (N := 11) hx hb hts inlX8 hown hK hP 0 rgL24_10cdad0 rfl 6 (by decide) (hts (.fieldLink RX8 51 "ClosedUntil" "told" "LClosedUntil$Holdings;") qw_262) (fun _ h9 => h9) rfl dX8_next_56 ?_
        refine va_getN (D := (dC, dI)) (ci := 0) (v := .int a0_6_4) (C := RX1) (T := TX1) (N := 14) hx hb hts inlX1 hown hK hP 6 rgL24_1681731 rfl 4 (by decide) (va_Nw.use rfl (nf_37 hN)) (fun _ h9 => h9) rfl dX8_next_59 ?_
        refine lv_icmp_ge (tgt := 105) hx hb dX8_next_62 (by decide) (fun c62_44 => ?_) (fun c62_44 => ?_)
        · have c62_44 : a0_6_4.toInt ≤ l53_7.toInt := (cv_le rfl rfl).mp c62_44
          refine lv_iload hx hb dX8_next_105 (lv_at hl 1 rfl) ?_
          refine W.widen (k := 0) (n := 0) (Nat.le_of_ble_eq_true rfl) (Nat.le_of_ble_eq_true rfl) ?_
          have hP9 := hP
          have hD9 := hD
          have hK9 := (rgK21_98db583 hK)
          have hf9_0 : (0 ≤ za0_2_6_35.toInt ∧ za0_2_6_35.toInt ≤ 24) := by omega
          have hf9_1 : (0 ≤ za0_2_7_36.toInt ∧ za0_2_7_36.toInt ≤ 12) := by omega
          have hf9_2 : RS g.2.2.2.2.1 rows zrows_39 := hRS
          exact W.iret (v := l53_6) hx hb hr (fun t ht hW => ⟨⟨l53_6, l53_6, rfl, rfl, za0_10_34, za0_2_6_35, za0_2_7_36, za0_2_0_f_37, za0_2_1_f_38, zrows_39, hf9_0, hf9_1, hf9_2, atB ht hP9, va_K.moved hW.alike hK9, hD9⟩, hS.F ht⟩) hS.2.2 dX8_next_107
        · have c62_44 : ¬ (a0_6_4.toInt ≤ l53_7.toInt) := mt (cv_le rfl rfl).mpr c62_44
          refine lv_aload hx hb dX8_next_65 (lv_at hl 3 rfl) ?_
          refine lv_iload hx hb dX8_next_67 (lv_at hl 0 rfl) ?_
          refine lv_iload hx hb dX8_next_69 (lv_at hl 2 rfl) ?_
          have hPc := (rgP24_69b5983 hP)
          have hKc := (rgK21_ffbac61 hK)
          refine vp_callSi ((va_runVN (As := [.int l53_7, .int r43]) (rest := []) ⟨hx, hb, hml, hown, hts⟩ (k_X6_openingOf l dC dI g (a0_2) (l53_7) (r43) (a0_2_0) (a0_2_1) (a0_2_2) (a0_2_3) (a0_2_4) (a0_2_5) (za0_2_6_35) (za0_2_7_36) (a0_2_3_c) (a0_2_3_f) (zrows_39) (by omega) (by omega) (RS.gr hRS h_a0_2_3_f) (by omega)) ⟨va_cnB 2 hts (gwC qw_164) rfl rfl rfl (nm_37 hN) (hts (.initialized RX6) qw_133) (by decide +kernel) ⟨Nat.le_of_ble_eq_true rfl, Nat.le_of_ble_eq_true rfl⟩, (hts (.instanceMethod yX6_openingOf) qw_166), (hts (.selects RX6 yX6_openingOf yX6_openingOf) qw_167)⟩ ⟨fun a U g9 mk q => ⟨q.1, q.2.1, va_K.moved (u := U) (U := U.calling g9 mk a) (Vm.Alike.refl U.vm) q.2.2.1, Ev.bl q.2.2.2⟩, va_recv hK hP (ci := 5) (q0 := 1) rfl rgL24_436a872, fun U hU hW => ⟨rfl, atB hU hPc, va_K.moved hW.alike hKc, hE.go hS (fun _ h => h.elim) hU hW⟩⟩ rfl rfl hl.1 rfl (lv_room (Nat.le_of_ble_eq_true rfl)) dX8_next_71 ⟨Nat.le_of_ble_eq_true rfl, Nat.le_of_ble_eq_true rfl⟩)).run (fun r45 h_r45 => ?_)
          have b_r45 := i32b r45
          refine lv_istore (lv' := [(8, .int r45), (7, .int l53_7), (6, .int l53_6), (5, .int r43), (4, .ref a0_2), (3, .int 1), (0, .ref a0), (1, .int a1), (2, .int a2)]) hx hb dX8_next_74 hl (by decide) rfl (fun ls hl => ?_)
          refine lv_iload hx hb dX8_next_76 (lv_at hl 0 rfl) ?_
          refine lv_iload_n hx hb dX8_next_78 rfl (lv_at hl 7 rfl) ?_
          refine lv_icmp_le (tgt := 99) hx hb dX8_next_79 (by decide) (fun c79_46 => ?_) (fun c79_46 => ?_)
          · have c79_46 : r45.toInt ≤ a1.toInt := (cv_le rfl rfl).mp c79_46
            obtain ⟨x47, e_x47⟩ : ∃ y : Int32, y = l53_7 + 1 := ⟨_, rfl⟩
            refine lv_iinc (v := x47) (lv' := [(7, .int x47), (8, .int r45), (6, .int l53_6), (5, .int r43), (4, .ref a0_2), (3, .int 1), (0, .ref a0), (1, .int a1), (2, .int a2)]) hx hb dX8_next_99 hl (k := 1) rfl (by rw [e_x47]; rfl) (by decide) rfl (fun ls hl => ?_)
            try have e_x47 := ti_add e_x47 rfl (show (1 : Int32).toInt = 1 by decide) (by omega)
            refine lv_goto (tgt := 53) hx hb dX8_next_102 (by decide) ?_
            have qc1 : (1 : Int32).toInt = 1 := by decide
            exact ih53 ((2147483647 - x47.toInt).toNat) _ _ _ (by omega) ⟨x47, l53_6, rfl, (by omega), lv_sub hl [0, 2, 3, 4, 5, 6, 7, 8] rfl, hP, hD, hS⟩
          · have c79_46 : ¬ (r45.toInt ≤ a1.toInt) := mt (cv_le rfl rfl).mpr c79_46
            refine lv_iload hx hb dX8_next_82 (lv_at hl 2 rfl) ?_
            refine lv_iconst (v := (-1)) hx hb dX8_next_84 (by decide) ?_
            refine lv_icmp_eq (tgt := 95) hx hb dX8_next_85 (by decide) (fun c85_48 => ?_) (fun c85_48 => ?_)
            · have c85_48 : l53_6.toInt = (-1) := (cv_eq rfl (by decide)).mp c85_48
              refine lv_iload hx hb dX8_next_95 (lv_at hl 0 rfl) ?_
              refine lv_istore (lv' := [(6, .int r45), (8, .int r45), (7, .int l53_7), (5, .int r43), (4, .ref a0_2), (3, .int 1), (0, .ref a0), (1, .int a1), (2, .int a2)]) hx hb dX8_next_97 hl (by decide) rfl (fun ls hl => ?_)
              obtain ⟨x49, e_x49⟩ : ∃ y : Int32, y = l53_7 + 1 := ⟨_, rfl⟩
              refine lv_iinc (v := x49) (lv' := [(7, .int x49), (6, .int r45), (8, .int r45), (5, .int r43), (4, .ref a0_2), (3, .int 1), (0, .ref a0), (1, .int a1), (2, .int a2)]) hx hb dX8_next_99 hl (k := 2) rfl (by rw [e_x49]; rfl) (by decide) rfl (fun ls hl => ?_)
              try have e_x49 := ti_add e_x49 rfl (show (1 : Int32).toInt = 1 by decide) (by omega)
              refine lv_goto (tgt := 53) hx hb dX8_next_102 (by decide) ?_
              have qc1 : (1 : Int32).toInt = 1 := by decide
              exact ih53 ((2147483647 - x49.toInt).toNat) _ _ _ (by omega) ⟨x49, r45, rfl, (by omega), lv_sub hl [0, 1, 3, 4, 5, 6, 7, 8] rfl, hP, hD, hS⟩
            · have c85_48 : ¬ (l53_6.toInt = (-1)) := mt (cv_eq rfl (by decide)).mpr c85_48
              refine lv_iload hx hb dX8_next_88 (lv_at hl 0 rfl) ?_
              refine lv_iload hx hb dX8_next_90 (lv_at hl 2 rfl) ?_
              refine lv_icmp_ge (tgt := 99) hx hb dX8_next_92 (by decide) (fun c92_50 => ?_) (fun c92_50 => ?_)
              · have c92_50 : l53_6.toInt ≤ r45.toInt := (cv_le rfl rfl).mp c92_50
                obtain ⟨x51, e_x51⟩ : ∃ y : Int32, y = l53_7 + 1 := ⟨_, rfl⟩
                refine lv_iinc (v := x51) (lv' := [(7, .int x51), (8, .int r45), (6, .int l53_6), (5, .int r43), (4, .ref a0_2), (3, .int 1), (0, .ref a0), (1, .int a1), (2, .int a2)]) hx hb dX8_next_99 hl (k := 1) rfl (by rw [e_x51]; rfl) (by decide) rfl (fun ls hl => ?_)
                try have e_x51 := ti_add e_x51 rfl (show (1 : Int32).toInt = 1 by decide) (by omega)
                refine lv_goto (tgt := 53) hx hb dX8_next_102 (by decide) ?_
                have qc1 : (1 : Int32).toInt = 1 := by decide
                exact ih53 ((2147483647 - x51.toInt).toNat) _ _ _ (by omega) ⟨x51, l53_6, rfl, (by omega), lv_sub hl [0, 2, 3, 4, 5, 6, 7, 8] rfl, hP, hD, hS⟩
              · have c92_50 : ¬ (l53_6.toInt ≤ r45.toInt) := mt (cv_le rfl rfl).mpr c92_50
                refine lv_iload hx hb dX8_next_95 (lv_at hl 0 rfl) ?_
                refine lv_istore (lv' := [(6, .int r45), (8, .int r45), (7, .int l53_7), (5, .int r43), (4, .ref a0_2), (3, .int 1), (0, .ref a0), (1, .int a1), (2, .int a2)]) hx hb dX8_next_97 hl (by decide) rfl (fun ls hl => ?_)
                obtain ⟨x52, e_x52⟩ : ∃ y : Int32, y = l53_7 + 1 := ⟨_, rfl⟩
                refine lv_iinc (v := x52) (lv' := [(7, .int x52), (6, .int r45), (8, .int r45), (5, .int r43), (4, .ref a0_2), (3, .int 1), (0, .ref a0), (1, .int a1), (2, .int a2)]) hx hb dX8_next_99 hl (k := 2) rfl (by rw [e_x52]; rfl) (by decide) rfl (fun ls hl => ?_)
                try have e_x52 := ti_add e_x52 rfl (show (1 : Int32).toInt = 1 by decide) (by omega)
                refine lv_goto (tgt := 53) hx hb dX8_next_102 (by decide) ?_
                have qc1 : (1 : Int32).toInt = 1 := by decide
                exact ih53 ((2147483647 - x52.toInt).toNat) _ _ _ (by omega) ⟨x52, r45, rfl, (by omega), lv_sub hl [0, 1, 3, 4, 5, 6, 7, 8] rfl, hP, hD, hS⟩
      · have c26_31 : r30.toInt = 0 := (cv_eq rfl (by decide)).mp c26_31
        refine lv_iconst (v := (-1)) hx hb dX8_next_29 (by decide) ?_
        have qcm1 : ((-1) : Int32).toInt = (-1) := by decide
        refine W.widen (k := 0) (n := 0) (Nat.le_of_ble_eq_true rfl) (Nat.le_of_ble_eq_true rfl) ?_
        have hP9 := hP
        have hD9 := hD
        have hK9 := (rgK21_98db583 hK)
        have hf9_0 : (0 ≤ a0_2_6.toInt ∧ a0_2_6.toInt ≤ 24) := by omega
        have hf9_1 : (0 ≤ a0_2_7.toInt ∧ a0_2_7.toInt ≤ 12) := by omega
        have hf9_2 : RS g.2.2.2.2.1 rows rows := hRS
        exact W.iret (v := (-1)) hx hb hr (fun t ht hW => ⟨⟨(-1), (-1), rfl, rfl, a0_10, a0_2_6, a0_2_7, a0_2_0_f, a0_2_1_f, rows, hf9_0, hf9_1, hf9_2, atB ht hP9, va_K.moved hW.alike hK9, hD9⟩, hS.F ht⟩) hS.2.2 dX8_next_30
set_option maxHeartbeats 4000000 in
set_option maxRecDepth 100000 in
theorem k_X8_listed (l : Launch) (dC : Nat → ClassId) (dI : Nat → Nat → Nat) (g : Gv) (sz : Nat) (a0 : Nat) (a1 : Int32) (a2 : Int32) (a0_0 : Nat) (a0_1 : Nat) (a0_2 : Nat) (a0_3 : Nat) (a0_4 : Nat) (a0_5 : Nat) (a0_6 : Nat) (a0_7 : Nat) (a0_8 : Nat) (a0_9 : Nat) (a0_10 : Int32) (a0_2_0 : Nat) (a0_2_1 : Nat) (a0_2_2 : Nat) (a0_2_3 : Nat) (a0_2_4 : Nat) (a0_2_5 : Nat) (a0_2_6 : Int32) (a0_2_7 : Int32) (a0_2_0_c : ClassId) (a0_2_0_f : Nat → Int32) (a0_2_1_c : ClassId) (a0_2_1_f : Nat → Int32) (a0_2_2_c : ClassId) (a0_2_2_f : Nat → Option Nat) (a0_2_3_c : ClassId) (a0_2_3_f : Nat → Option Nat) (a0_2_5_c : ClassId) (a0_2_5_f : Nat → Int32) (a0_6_0 : Int32) (a0_6_1 : Nat) (a0_6_2 : Int32) (a0_6_3 : Nat) (a0_6_4 : Int32) (a0_6_5 : Nat) (a0_6_6 : Nat) (a0_6_7 : Nat) (a0_6_8 : Int32) (a0_6_9 : Nat) (a0_6_10 : Nat) (a0_6_11 : Nat) (a0_6_12 : Nat) (a0_6_13 : Nat) (a0_6_1_c : ClassId) (a0_6_1_f : Nat → Int32) (a0_6_3_c : ClassId) (a0_6_3_f : Nat → Int32) (a0_6_5_c : ClassId) (a0_6_5_f : Nat → Int32) (a0_6_6_c : ClassId) (a0_6_6_f : Nat → Int32) (a0_6_7_c : ClassId) (a0_6_7_f : Nat → Int32) (a0_6_9_c : ClassId) (a0_6_9_f : Nat → Int32) (a0_6_10_c : ClassId) (a0_6_10_f : Nat → Int32) (a0_6_11_c : ClassId) (a0_6_11_f : Nat → Int32) (a0_6_12_c : ClassId) (a0_6_12_f : Nat → Option Nat) (a0_6_13_c : ClassId) (a0_6_13_f : Nat → Int32) (a0_8_0 : Nat) (a0_8_1 : Nat) (a0_8_2 : Nat) (a0_8_3 : Nat) (a0_8_4 : Nat) (a0_8_5 : Nat) (a0_8_0_c : ClassId) (a0_8_0_f : Nat → Int32) (a0_8_1_c : ClassId) (a0_8_1_f : Nat → Int32) (a0_8_2_c : ClassId) (a0_8_2_f : Nat → Int32) (a0_8_3_c : ClassId) (a0_8_3_f : Nat → Int32) (a0_8_4_c : ClassId) (a0_8_4_f : Nat → Option Nat) (a0_8_5_c : ClassId) (a0_8_5_f : Nat → Option Nat) (rows : va_W) (h_a0_2_6 : 0 ≤ a0_2_6.toInt ∧ a0_2_6.toInt ≤ 24) (h_a0_2_7 : 0 ≤ a0_2_7.toInt ∧ a0_2_7.toInt ≤ 12) (h_a0_2_2_f : GR g.2.2.2.2.1 24 12 a0_2_2_f rows) (h_a0_2_3_f : GR g.2.2.2.2.1 24 12 a0_2_3_f rows) (h_a0_6_0 : 0 ≤ a0_6_0.toInt ∧ a0_6_0.toInt ≤ 8) (h_a0_6_2 : 0 ≤ a0_6_2.toInt ∧ a0_6_2.toInt ≤ 4) (h_a0_6_4 : 0 ≤ a0_6_4.toInt ∧ a0_6_4.toInt ≤ 24) (h_a0_6_8 : 0 ≤ a0_6_8.toInt ∧ a0_6_8.toInt ≤ 12) (h_a0_6_12_f : GR g.2.2.2.2.1 3 12 a0_6_12_f rows) (h_a0_8_3_f : vr 0 5 a0_8_3_f) (h_a0_8_4_f : GR g.2.2.2.2.1 5 12 a0_8_4_f rows) (h_a0_8_5_f : GR g.2.2.2.2.1 5 12 a0_8_5_f rows) (hho : HOk a0_6_9_f a0_6_10_f a0_6_8) : Met l yX8_listed (.code yX8_listed cX8_listed 3 (some .int) :: TBL) ({ frames := 7, cells := 0, slots := 0, locals := 168 }) (va_Pc [.ref a0, .int a1, .int a2] (fun U => U.heap.size = sz ∧ va_P (dC, dI) vwCl (([(a0, .inr (7, [.ref a0_0, .ref a0_1, .ref a0_2, .ref a0_3, .ref a0_4, .ref a0_5, .ref a0_6, .ref a0_7, .ref a0_8, .ref a0_9, .int a0_10])), (a0_2, .inr (5, [.ref a0_2_0, .ref a0_2_1, .ref a0_2_2, .ref a0_2_3, .ref a0_2_4, .ref a0_2_5, .int a0_2_6, .int a0_2_7])), (a0_2_0, .inl (a0_2_0_c, 24, .inl a0_2_0_f)), (a0_2_1, .inl (a0_2_1_c, 24, .inl a0_2_1_f)), (a0_2_2, .inl (a0_2_2_c, 12, .inr (.inr (.inr (.inr a0_2_2_f))))), (a0_2_3, .inl (a0_2_3_c, 12, .inr (.inr (.inr (.inr a0_2_3_f))))), (a0_2_5, .inl (a0_2_5_c, 24, .inl a0_2_5_f)), (a0_6, .inr (0, [.int a0_6_0, .ref a0_6_1, .int a0_6_2, .ref a0_6_3, .int a0_6_4, .ref a0_6_5, .ref a0_6_6, .ref a0_6_7, .int a0_6_8, .ref a0_6_9, .ref a0_6_10, .ref a0_6_11, .ref a0_6_12, .ref a0_6_13])), (a0_6_1, .inl (a0_6_1_c, 8, .inl a0_6_1_f)), (a0_6_3, .inl (a0_6_3_c, 4, .inl a0_6_3_f)), (a0_6_5, .inl (a0_6_5_c, 24, .inl a0_6_5_f)), (a0_6_6, .inl (a0_6_6_c, 24, .inl a0_6_6_f)), (a0_6_7, .inl (a0_6_7_c, 24, .inl a0_6_7_f)), (a0_6_9, .inl (a0_6_9_c, 12, .inl a0_6_9_f)), (a0_6_10, .inl (a0_6_10_c, 12, .inl a0_6_10_f)), (a0_6_11, .inl (a0_6_11_c, 12, .inl a0_6_11_f)), (a0_6_12, .inl (a0_6_12_c, 12, .inr (.inr (.inr (.inr a0_6_12_f))))), (a0_6_13, .inl (a0_6_13_c, 12, .inl a0_6_13_f)), (a0_8, .inr (2, [.ref a0_8_0, .ref a0_8_1, .ref a0_8_2, .ref a0_8_3, .ref a0_8_4, .ref a0_8_5])), (a0_8_0, .inl (a0_8_0_c, 24, .inl a0_8_0_f)), (a0_8_1, .inl (a0_8_1_c, 8, .inl a0_8_1_f)), (a0_8_2, .inl (a0_8_2_c, 12, .inl a0_8_2_f)), (a0_8_3, .inl (a0_8_3_c, 12, .inl a0_8_3_f)), (a0_8_4, .inl (a0_8_4_c, 12, .inr (.inr (.inr (.inr a0_8_4_f))))), (a0_8_5, .inl (a0_8_5_c, 12, .inr (.inr (.inr (.inr a0_8_5_f)))))] : va_W) ++ rows) U.heap ∧ va_K (dC, dI) vwCl [(a0_2_0_c, .int), (a0_2_1_c, .int), (a0_2_2_c, .array .int), (a0_2_3_c, .array .int), (a0_2_5_c, .int), (a0_6_1_c, .int), (a0_6_3_c, .int), (a0_6_5_c, .int), (a0_6_6_c, .int), (a0_6_7_c, .int), (a0_6_9_c, .int), (a0_6_10_c, .int), (a0_6_11_c, .boolean), (a0_6_12_c, .array .int), (a0_6_13_c, .int), (a0_8_0_c, .int), (a0_8_1_c, .int), (a0_8_2_c, .int), (a0_8_3_c, .int), (a0_8_4_c, .array .int), (a0_8_5_c, .array .int)] U ∧ va_D (fun _ => True) (([(a0, .inr (7, [.ref a0_0, .ref a0_1, .ref a0_2, .ref a0_3, .ref a0_4, .ref a0_5, .ref a0_6, .ref a0_7, .ref a0_8, .ref a0_9, .int a0_10])), (a0_2, .inr (5, [.ref a0_2_0, .ref a0_2_1, .ref a0_2_2, .ref a0_2_3, .ref a0_2_4, .ref a0_2_5, .int a0_2_6, .int a0_2_7])), (a0_2_0, .inl (a0_2_0_c, 24, .inl a0_2_0_f)), (a0_2_1, .inl (a0_2_1_c, 24, .inl a0_2_1_f)), (a0_2_2, .inl (a0_2_2_c, 12, .inr (.inr (.inr (.inr a0_2_2_f))))), (a0_2_3, .inl (a0_2_3_c, 12, .inr (.inr (.inr (.inr a0_2_3_f))))), (a0_2_5, .inl (a0_2_5_c, 24, .inl a0_2_5_f)), (a0_6, .inr (0, [.int a0_6_0, .ref a0_6_1, .int a0_6_2, .ref a0_6_3, .int a0_6_4, .ref a0_6_5, .ref a0_6_6, .ref a0_6_7, .int a0_6_8, .ref a0_6_9, .ref a0_6_10, .ref a0_6_11, .ref a0_6_12, .ref a0_6_13])), (a0_6_1, .inl (a0_6_1_c, 8, .inl a0_6_1_f)), (a0_6_3, .inl (a0_6_3_c, 4, .inl a0_6_3_f)), (a0_6_5, .inl (a0_6_5_c, 24, .inl a0_6_5_f)), (a0_6_6, .inl (a0_6_6_c, 24, .inl a0_6_6_f)), (a0_6_7, .inl (a0_6_7_c, 24, .inl a0_6_7_f)), (a0_6_9, .inl (a0_6_9_c, 12, .inl a0_6_9_f)), (a0_6_10, .inl (a0_6_10_c, 12, .inl a0_6_10_f)), (a0_6_11, .inl (a0_6_11_c, 12, .inl a0_6_11_f)), (a0_6_12, .inl (a0_6_12_c, 12, .inr (.inr (.inr (.inr a0_6_12_f))))), (a0_6_13, .inl (a0_6_13_c, 12, .inl a0_6_13_f)), (a0_8, .inr (2, [.ref a0_8_0, .ref a0_8_1, .ref a0_8_2, .ref a0_8_3, .ref a0_8_4, .ref a0_8_5])), (a0_8_0, .inl (a0_8_0_c, 24, .inl a0_8_0_f)), (a0_8_1, .inl (a0_8_1_c, 8, .inl a0_8_1_f)), (a0_8_2, .inl (a0_8_2_c, 12, .inl a0_8_2_f)), (a0_8_3, .inl (a0_8_3_c, 12, .inl a0_8_3_f)), (a0_8_4, .inl (a0_8_4_c, 12, .inr (.inr (.inr (.inr a0_8_4_f))))), (a0_8_5, .inl (a0_8_5_c, 12, .inr (.inr (.inr (.inr a0_8_5_f)))))] : va_W) ++ rows) ∧ Ev g (va_A (([(a0, .inr (7, [.ref a0_0, .ref a0_1, .ref a0_2, .ref a0_3, .ref a0_4, .ref a0_5, .ref a0_6, .ref a0_7, .ref a0_8, .ref a0_9, .int a0_10])), (a0_2, .inr (5, [.ref a0_2_0, .ref a0_2_1, .ref a0_2_2, .ref a0_2_3, .ref a0_2_4, .ref a0_2_5, .int a0_2_6, .int a0_2_7])), (a0_2_0, .inl (a0_2_0_c, 24, .inl a0_2_0_f)), (a0_2_1, .inl (a0_2_1_c, 24, .inl a0_2_1_f)), (a0_2_2, .inl (a0_2_2_c, 12, .inr (.inr (.inr (.inr a0_2_2_f))))), (a0_2_3, .inl (a0_2_3_c, 12, .inr (.inr (.inr (.inr a0_2_3_f))))), (a0_2_5, .inl (a0_2_5_c, 24, .inl a0_2_5_f)), (a0_6, .inr (0, [.int a0_6_0, .ref a0_6_1, .int a0_6_2, .ref a0_6_3, .int a0_6_4, .ref a0_6_5, .ref a0_6_6, .ref a0_6_7, .int a0_6_8, .ref a0_6_9, .ref a0_6_10, .ref a0_6_11, .ref a0_6_12, .ref a0_6_13])), (a0_6_1, .inl (a0_6_1_c, 8, .inl a0_6_1_f)), (a0_6_3, .inl (a0_6_3_c, 4, .inl a0_6_3_f)), (a0_6_5, .inl (a0_6_5_c, 24, .inl a0_6_5_f)), (a0_6_6, .inl (a0_6_6_c, 24, .inl a0_6_6_f)), (a0_6_7, .inl (a0_6_7_c, 24, .inl a0_6_7_f)), (a0_6_9, .inl (a0_6_9_c, 12, .inl a0_6_9_f)), (a0_6_10, .inl (a0_6_10_c, 12, .inl a0_6_10_f)), (a0_6_11, .inl (a0_6_11_c, 12, .inl a0_6_11_f)), (a0_6_12, .inl (a0_6_12_c, 12, .inr (.inr (.inr (.inr a0_6_12_f))))), (a0_6_13, .inl (a0_6_13_c, 12, .inl a0_6_13_f)), (a0_8, .inr (2, [.ref a0_8_0, .ref a0_8_1, .ref a0_8_2, .ref a0_8_3, .ref a0_8_4, .ref a0_8_5])), (a0_8_0, .inl (a0_8_0_c, 24, .inl a0_8_0_f)), (a0_8_1, .inl (a0_8_1_c, 8, .inl a0_8_1_f)), (a0_8_2, .inl (a0_8_2_c, 12, .inl a0_8_2_f)), (a0_8_3, .inl (a0_8_3_c, 12, .inl a0_8_3_f)), (a0_8_4, .inl (a0_8_4_c, 12, .inr (.inr (.inr (.inr a0_8_4_f))))), (a0_8_5, .inl (a0_8_5_c, 12, .inr (.inr (.inr (.inr a0_8_5_f)))))] : va_W) ++ rows) sz) U)) (va_Qi (fun (r : Int32) (u : Int32) => u = r) (fun (u : Int32) (t : State) => ∃ (za0_10 : Int32) (za0_2_6 : Int32) (za0_2_7 : Int32) (za0_2_0_f : Nat → Int32) (za0_2_1_f : Nat → Int32) (za0_2_5_f : Nat → Int32) (zrows : va_W), (0 ≤ za0_2_6.toInt ∧ za0_2_6.toInt ≤ 24) ∧ (0 ≤ za0_2_7.toInt ∧ za0_2_7.toInt ≤ 12) ∧ RS g.2.2.2.2.1 rows zrows ∧ va_P (dC, dI) vwCl (([(a0, .inr (7, [.ref a0_0, .ref a0_1, .ref a0_2, .ref a0_3, .ref a0_4, .ref a0_5, .ref a0_6, .ref a0_7, .ref a0_8, .ref a0_9, .int za0_10])), (a0_2, .inr (5, [.ref a0_2_0, .ref a0_2_1, .ref a0_2_2, .ref a0_2_3, .ref a0_2_4, .ref a0_2_5, .int za0_2_6, .int za0_2_7])), (a0_2_0, .inl (a0_2_0_c, 24, .inl za0_2_0_f)), (a0_2_1, .inl (a0_2_1_c, 24, .inl za0_2_1_f)), (a0_2_2, .inl (a0_2_2_c, 12, .inr (.inr (.inr (.inr a0_2_2_f))))), (a0_2_3, .inl (a0_2_3_c, 12, .inr (.inr (.inr (.inr a0_2_3_f))))), (a0_2_5, .inl (a0_2_5_c, 24, .inl za0_2_5_f)), (a0_6, .inr (0, [.int a0_6_0, .ref a0_6_1, .int a0_6_2, .ref a0_6_3, .int a0_6_4, .ref a0_6_5, .ref a0_6_6, .ref a0_6_7, .int a0_6_8, .ref a0_6_9, .ref a0_6_10, .ref a0_6_11, .ref a0_6_12, .ref a0_6_13])), (a0_6_1, .inl (a0_6_1_c, 8, .inl a0_6_1_f)), (a0_6_3, .inl (a0_6_3_c, 4, .inl a0_6_3_f)), (a0_6_5, .inl (a0_6_5_c, 24, .inl a0_6_5_f)), (a0_6_6, .inl (a0_6_6_c, 24, .inl a0_6_6_f)), (a0_6_7, .inl (a0_6_7_c, 24, .inl a0_6_7_f)), (a0_6_9, .inl (a0_6_9_c, 12, .inl a0_6_9_f)), (a0_6_10, .inl (a0_6_10_c, 12, .inl a0_6_10_f)), (a0_6_11, .inl (a0_6_11_c, 12, .inl a0_6_11_f)), (a0_6_12, .inl (a0_6_12_c, 12, .inr (.inr (.inr (.inr a0_6_12_f))))), (a0_6_13, .inl (a0_6_13_c, 12, .inl a0_6_13_f)), (a0_8, .inr (2, [.ref a0_8_0, .ref a0_8_1, .ref a0_8_2, .ref a0_8_3, .ref a0_8_4, .ref a0_8_5])), (a0_8_0, .inl (a0_8_0_c, 24, .inl a0_8_0_f)), (a0_8_1, .inl (a0_8_1_c, 8, .inl a0_8_1_f)), (a0_8_2, .inl (a0_8_2_c, 12, .inl a0_8_2_f)), (a0_8_3, .inl (a0_8_3_c, 12, .inl a0_8_3_f)), (a0_8_4, .inl (a0_8_4_c, 12, .inr (.inr (.inr (.inr a0_8_4_f))))), (a0_8_5, .inl (a0_8_5_c, 12, .inr (.inr (.inr (.inr a0_8_5_f)))))] : va_W) ++ zrows) t.heap ∧ va_K (dC, dI) vwCl [] t ∧ va_D (va_A (([(a0, .inr (7, [.ref a0_0, .ref a0_1, .ref a0_2, .ref a0_3, .ref a0_4, .ref a0_5, .ref a0_6, .ref a0_7, .ref a0_8, .ref a0_9, .int a0_10])), (a0_2, .inr (5, [.ref a0_2_0, .ref a0_2_1, .ref a0_2_2, .ref a0_2_3, .ref a0_2_4, .ref a0_2_5, .int a0_2_6, .int a0_2_7])), (a0_2_0, .inl (a0_2_0_c, 24, .inl a0_2_0_f)), (a0_2_1, .inl (a0_2_1_c, 24, .inl a0_2_1_f)), (a0_2_2, .inl (a0_2_2_c, 12, .inr (.inr (.inr (.inr a0_2_2_f))))), (a0_2_3, .inl (a0_2_3_c, 12, .inr (.inr (.inr (.inr a0_2_3_f))))), (a0_2_5, .inl (a0_2_5_c, 24, .inl a0_2_5_f)), (a0_6, .inr (0, [.int a0_6_0, .ref a0_6_1, .int a0_6_2, .ref a0_6_3, .int a0_6_4, .ref a0_6_5, .ref a0_6_6, .ref a0_6_7, .int a0_6_8, .ref a0_6_9, .ref a0_6_10, .ref a0_6_11, .ref a0_6_12, .ref a0_6_13])), (a0_6_1, .inl (a0_6_1_c, 8, .inl a0_6_1_f)), (a0_6_3, .inl (a0_6_3_c, 4, .inl a0_6_3_f)), (a0_6_5, .inl (a0_6_5_c, 24, .inl a0_6_5_f)), (a0_6_6, .inl (a0_6_6_c, 24, .inl a0_6_6_f)), (a0_6_7, .inl (a0_6_7_c, 24, .inl a0_6_7_f)), (a0_6_9, .inl (a0_6_9_c, 12, .inl a0_6_9_f)), (a0_6_10, .inl (a0_6_10_c, 12, .inl a0_6_10_f)), (a0_6_11, .inl (a0_6_11_c, 12, .inl a0_6_11_f)), (a0_6_12, .inl (a0_6_12_c, 12, .inr (.inr (.inr (.inr a0_6_12_f))))), (a0_6_13, .inl (a0_6_13_c, 12, .inl a0_6_13_f)), (a0_8, .inr (2, [.ref a0_8_0, .ref a0_8_1, .ref a0_8_2, .ref a0_8_3, .ref a0_8_4, .ref a0_8_5])), (a0_8_0, .inl (a0_8_0_c, 24, .inl a0_8_0_f)), (a0_8_1, .inl (a0_8_1_c, 8, .inl a0_8_1_f)), (a0_8_2, .inl (a0_8_2_c, 12, .inl a0_8_2_f)), (a0_8_3, .inl (a0_8_3_c, 12, .inl a0_8_3_f)), (a0_8_4, .inl (a0_8_4_c, 12, .inr (.inr (.inr (.inr a0_8_4_f))))), (a0_8_5, .inl (a0_8_5_c, 12, .inr (.inr (.inr (.inr a0_8_5_f)))))] : va_W) ++ rows) sz) (([(a0, .inr (7, [.ref a0_0, .ref a0_1, .ref a0_2, .ref a0_3, .ref a0_4, .ref a0_5, .ref a0_6, .ref a0_7, .ref a0_8, .ref a0_9, .int za0_10])), (a0_2, .inr (5, [.ref a0_2_0, .ref a0_2_1, .ref a0_2_2, .ref a0_2_3, .ref a0_2_4, .ref a0_2_5, .int za0_2_6, .int za0_2_7])), (a0_2_0, .inl (a0_2_0_c, 24, .inl za0_2_0_f)), (a0_2_1, .inl (a0_2_1_c, 24, .inl za0_2_1_f)), (a0_2_2, .inl (a0_2_2_c, 12, .inr (.inr (.inr (.inr a0_2_2_f))))), (a0_2_3, .inl (a0_2_3_c, 12, .inr (.inr (.inr (.inr a0_2_3_f))))), (a0_2_5, .inl (a0_2_5_c, 24, .inl za0_2_5_f)), (a0_6, .inr (0, [.int a0_6_0, .ref a0_6_1, .int a0_6_2, .ref a0_6_3, .int a0_6_4, .ref a0_6_5, .ref a0_6_6, .ref a0_6_7, .int a0_6_8, .ref a0_6_9, .ref a0_6_10, .ref a0_6_11, .ref a0_6_12, .ref a0_6_13])), (a0_6_1, .inl (a0_6_1_c, 8, .inl a0_6_1_f)), (a0_6_3, .inl (a0_6_3_c, 4, .inl a0_6_3_f)), (a0_6_5, .inl (a0_6_5_c, 24, .inl a0_6_5_f)), (a0_6_6, .inl (a0_6_6_c, 24, .inl a0_6_6_f)), (a0_6_7, .inl (a0_6_7_c, 24, .inl a0_6_7_f)), (a0_6_9, .inl (a0_6_9_c, 12, .inl a0_6_9_f)), (a0_6_10, .inl (a0_6_10_c, 12, .inl a0_6_10_f)), (a0_6_11, .inl (a0_6_11_c, 12, .inl a0_6_11_f)), (a0_6_12, .inl (a0_6_12_c, 12, .inr (.inr (.inr (.inr a0_6_12_f))))), (a0_6_13, .inl (a0_6_13_c, 12, .inl a0_6_13_f)), (a0_8, .inr (2, [.ref a0_8_0, .ref a0_8_1, .ref a0_8_2, .ref a0_8_3, .ref a0_8_4, .ref a0_8_5])), (a0_8_0, .inl (a0_8_0_c, 24, .inl a0_8_0_f)), (a0_8_1, .inl (a0_8_1_c, 8, .inl a0_8_1_f)), (a0_8_2, .inl (a0_8_2_c, 12, .inl a0_8_2_f)), (a0_8_3, .inl (a0_8_3_c, 12, .inl a0_8_3_f)), (a0_8_4, .inl (a0_8_4_c, 12, .inr (.inr (.inr (.inr a0_8_4_f))))), (a0_8_5, .inl (a0_8_5_c, 12, .inr (.inr (.inr (.inr a0_8_5_f)))))] : va_W) ++ zrows)) (va_A (([(a0, .inr (7, [.ref a0_0, .ref a0_1, .ref a0_2, .ref a0_3, .ref a0_4, .ref a0_5, .ref a0_6, .ref a0_7, .ref a0_8, .ref a0_9, .int a0_10])), (a0_2, .inr (5, [.ref a0_2_0, .ref a0_2_1, .ref a0_2_2, .ref a0_2_3, .ref a0_2_4, .ref a0_2_5, .int a0_2_6, .int a0_2_7])), (a0_2_0, .inl (a0_2_0_c, 24, .inl a0_2_0_f)), (a0_2_1, .inl (a0_2_1_c, 24, .inl a0_2_1_f)), (a0_2_2, .inl (a0_2_2_c, 12, .inr (.inr (.inr (.inr a0_2_2_f))))), (a0_2_3, .inl (a0_2_3_c, 12, .inr (.inr (.inr (.inr a0_2_3_f))))), (a0_2_5, .inl (a0_2_5_c, 24, .inl a0_2_5_f)), (a0_6, .inr (0, [.int a0_6_0, .ref a0_6_1, .int a0_6_2, .ref a0_6_3, .int a0_6_4, .ref a0_6_5, .ref a0_6_6, .ref a0_6_7, .int a0_6_8, .ref a0_6_9, .ref a0_6_10, .ref a0_6_11, .ref a0_6_12, .ref a0_6_13])), (a0_6_1, .inl (a0_6_1_c, 8, .inl a0_6_1_f)), (a0_6_3, .inl (a0_6_3_c, 4, .inl a0_6_3_f)), (a0_6_5, .inl (a0_6_5_c, 24, .inl a0_6_5_f)), (a0_6_6, .inl (a0_6_6_c, 24, .inl a0_6_6_f)), (a0_6_7, .inl (a0_6_7_c, 24, .inl a0_6_7_f)), (a0_6_9, .inl (a0_6_9_c, 12, .inl a0_6_9_f)), (a0_6_10, .inl (a0_6_10_c, 12, .inl a0_6_10_f)), (a0_6_11, .inl (a0_6_11_c, 12, .inl a0_6_11_f)), (a0_6_12, .inl (a0_6_12_c, 12, .inr (.inr (.inr (.inr a0_6_12_f))))), (a0_6_13, .inl (a0_6_13_c, 12, .inl a0_6_13_f)), (a0_8, .inr (2, [.ref a0_8_0, .ref a0_8_1, .ref a0_8_2, .ref a0_8_3, .ref a0_8_4, .ref a0_8_5])), (a0_8_0, .inl (a0_8_0_c, 24, .inl a0_8_0_f)), (a0_8_1, .inl (a0_8_1_c, 8, .inl a0_8_1_f)), (a0_8_2, .inl (a0_8_2_c, 12, .inl a0_8_2_f)), (a0_8_3, .inl (a0_8_3_c, 12, .inl a0_8_3_f)), (a0_8_4, .inl (a0_8_4_c, 12, .inr (.inr (.inr (.inr a0_8_4_f))))), (a0_8_5, .inl (a0_8_5_c, 12, .inr (.inr (.inr (.inr a0_8_5_f)))))] : va_W) ++ rows) sz)) 0 0 (va_A (([(a0, .inr (7, [.ref a0_0, .ref a0_1, .ref a0_2, .ref a0_3, .ref a0_4, .ref a0_5, .ref a0_6, .ref a0_7, .ref a0_8, .ref a0_9, .int a0_10])), (a0_2, .inr (5, [.ref a0_2_0, .ref a0_2_1, .ref a0_2_2, .ref a0_2_3, .ref a0_2_4, .ref a0_2_5, .int a0_2_6, .int a0_2_7])), (a0_2_0, .inl (a0_2_0_c, 24, .inl a0_2_0_f)), (a0_2_1, .inl (a0_2_1_c, 24, .inl a0_2_1_f)), (a0_2_2, .inl (a0_2_2_c, 12, .inr (.inr (.inr (.inr a0_2_2_f))))), (a0_2_3, .inl (a0_2_3_c, 12, .inr (.inr (.inr (.inr a0_2_3_f))))), (a0_2_5, .inl (a0_2_5_c, 24, .inl a0_2_5_f)), (a0_6, .inr (0, [.int a0_6_0, .ref a0_6_1, .int a0_6_2, .ref a0_6_3, .int a0_6_4, .ref a0_6_5, .ref a0_6_6, .ref a0_6_7, .int a0_6_8, .ref a0_6_9, .ref a0_6_10, .ref a0_6_11, .ref a0_6_12, .ref a0_6_13])), (a0_6_1, .inl (a0_6_1_c, 8, .inl a0_6_1_f)), (a0_6_3, .inl (a0_6_3_c, 4, .inl a0_6_3_f)), (a0_6_5, .inl (a0_6_5_c, 24, .inl a0_6_5_f)), (a0_6_6, .inl (a0_6_6_c, 24, .inl a0_6_6_f)), (a0_6_7, .inl (a0_6_7_c, 24, .inl a0_6_7_f)), (a0_6_9, .inl (a0_6_9_c, 12, .inl a0_6_9_f)), (a0_6_10, .inl (a0_6_10_c, 12, .inl a0_6_10_f)), (a0_6_11, .inl (a0_6_11_c, 12, .inl a0_6_11_f)), (a0_6_12, .inl (a0_6_12_c, 12, .inr (.inr (.inr (.inr a0_6_12_f))))), (a0_6_13, .inl (a0_6_13_c, 12, .inl a0_6_13_f)), (a0_8, .inr (2, [.ref a0_8_0, .ref a0_8_1, .ref a0_8_2, .ref a0_8_3, .ref a0_8_4, .ref a0_8_5])), (a0_8_0, .inl (a0_8_0_c, 24, .inl a0_8_0_f)), (a0_8_1, .inl (a0_8_1_c, 8, .inl a0_8_1_f)), (a0_8_2, .inl (a0_8_2_c, 12, .inl a0_8_2_f)), (a0_8_3, .inl (a0_8_3_c, 12, .inl a0_8_3_f)), (a0_8_4, .inl (a0_8_4_c, 12, .inr (.inr (.inr (.inr a0_8_4_f))))), (a0_8_5, .inl (a0_8_5_c, 12, .inr (.inr (.inr (.inr a0_8_5_f)))))] : va_W) ++ rows) sz) := by
  refine Met.ofW (cc := cX8_listed) (maxL := 3) (ret := (some .int)) (by decide) rfl ?_
  intro p e s m args below meth c s₁ B hml hv
  obtain ⟨rfl, hsz, hP, hK, hD0, hE⟩ := hv
  have hx := B.exec
  have hb := B.bytes
  have hr := B.returns
  have hts0 := atoms_spec (ws := (.code yX8_listed cX8_listed 3 (some .int) :: TBL)) B.pre
  have hts := fun (w : Cond) (h : w ∈ TBL) => hts0 w (List.mem_cons_of_mem _ h)
  have hown : s.vm.findClass RX8 = some m.cls := findClass_of_methodNamed B.named
  have hlocks := B.notSynchronized
  have hN := hE.1
  subst hsz
  have hD := hD0.self (sz := s.heap.size)
  generalize hAe : va_A (([(a0, .inr (7, [.ref a0_0, .ref a0_1, .ref a0_2, .ref a0_3, .ref a0_4, .ref a0_5, .ref a0_6, .ref a0_7, .ref a0_8, .ref a0_9, .int a0_10])), (a0_2, .inr (5, [.ref a0_2_0, .ref a0_2_1, .ref a0_2_2, .ref a0_2_3, .ref a0_2_4, .ref a0_2_5, .int a0_2_6, .int a0_2_7])), (a0_2_0, .inl (a0_2_0_c, 24, .inl a0_2_0_f)), (a0_2_1, .inl (a0_2_1_c, 24, .inl a0_2_1_f)), (a0_2_2, .inl (a0_2_2_c, 12, .inr (.inr (.inr (.inr a0_2_2_f))))), (a0_2_3, .inl (a0_2_3_c, 12, .inr (.inr (.inr (.inr a0_2_3_f))))), (a0_2_5, .inl (a0_2_5_c, 24, .inl a0_2_5_f)), (a0_6, .inr (0, [.int a0_6_0, .ref a0_6_1, .int a0_6_2, .ref a0_6_3, .int a0_6_4, .ref a0_6_5, .ref a0_6_6, .ref a0_6_7, .int a0_6_8, .ref a0_6_9, .ref a0_6_10, .ref a0_6_11, .ref a0_6_12, .ref a0_6_13])), (a0_6_1, .inl (a0_6_1_c, 8, .inl a0_6_1_f)), (a0_6_3, .inl (a0_6_3_c, 4, .inl a0_6_3_f)), (a0_6_5, .inl (a0_6_5_c, 24, .inl a0_6_5_f)), (a0_6_6, .inl (a0_6_6_c, 24, .inl a0_6_6_f)), (a0_6_7, .inl (a0_6_7_c, 24, .inl a0_6_7_f)), (a0_6_9, .inl (a0_6_9_c, 12, .inl a0_6_9_f)), (a0_6_10, .inl (a0_6_10_c, 12, .inl a0_6_10_f)), (a0_6_11, .inl (a0_6_11_c, 12, .inl a0_6_11_f)), (a0_6_12, .inl (a0_6_12_c, 12, .inr (.inr (.inr (.inr a0_6_12_f))))), (a0_6_13, .inl (a0_6_13_c, 12, .inl a0_6_13_f)), (a0_8, .inr (2, [.ref a0_8_0, .ref a0_8_1, .ref a0_8_2, .ref a0_8_3, .ref a0_8_4, .ref a0_8_5])), (a0_8_0, .inl (a0_8_0_c, 24, .inl a0_8_0_f)), (a0_8_1, .inl (a0_8_1_c, 8, .inl a0_8_1_f)), (a0_8_2, .inl (a0_8_2_c, 12, .inl a0_8_2_f)), (a0_8_3, .inl (a0_8_3_c, 12, .inl a0_8_3_f)), (a0_8_4, .inl (a0_8_4_c, 12, .inr (.inr (.inr (.inr a0_8_4_f))))), (a0_8_5, .inl (a0_8_5_c, 12, .inr (.inr (.inr (.inr a0_8_5_f)))))] : va_W) ++ rows) s.heap.size = A at hD hE ⊢
  have hA : ∀ q : Nat, s.heap.size ≤ q → A q := fun q h => by rw [← hAe]; exact Or.inr h
  have hS : va_S A s.heap s.heap [] := va_S.rf
  replace hP : va_P (dC, dI) vwCl (([(a0, .inr (7, [.ref a0_0, .ref a0_1, .ref a0_2, .ref a0_3, .ref a0_4, .ref a0_5, .ref a0_6, .ref a0_7, .ref a0_8, .ref a0_9, .int a0_10])), (a0_2, .inr (5, [.ref a0_2_0, .ref a0_2_1, .ref a0_2_2, .ref a0_2_3, .ref a0_2_4, .ref a0_2_5, .int a0_2_6, .int a0_2_7])), (a0_2_0, .inl (a0_2_0_c, 24, .inl a0_2_0_f)), (a0_2_1, .inl (a0_2_1_c, 24, .inl a0_2_1_f)), (a0_2_2, .inl (a0_2_2_c, 12, .inr (.inr (.inr (.inr a0_2_2_f))))), (a0_2_3, .inl (a0_2_3_c, 12, .inr (.inr (.inr (.inr a0_2_3_f))))), (a0_2_5, .inl (a0_2_5_c, 24, .inl a0_2_5_f)), (a0_6, .inr (0, [.int a0_6_0, .ref a0_6_1, .int a0_6_2, .ref a0_6_3, .int a0_6_4, .ref a0_6_5, .ref a0_6_6, .ref a0_6_7, .int a0_6_8, .ref a0_6_9, .ref a0_6_10, .ref a0_6_11, .ref a0_6_12, .ref a0_6_13])), (a0_6_1, .inl (a0_6_1_c, 8, .inl a0_6_1_f)), (a0_6_3, .inl (a0_6_3_c, 4, .inl a0_6_3_f)), (a0_6_5, .inl (a0_6_5_c, 24, .inl a0_6_5_f)), (a0_6_6, .inl (a0_6_6_c, 24, .inl a0_6_6_f)), (a0_6_7, .inl (a0_6_7_c, 24, .inl a0_6_7_f)), (a0_6_9, .inl (a0_6_9_c, 12, .inl a0_6_9_f)), (a0_6_10, .inl (a0_6_10_c, 12, .inl a0_6_10_f)), (a0_6_11, .inl (a0_6_11_c, 12, .inl a0_6_11_f)), (a0_6_12, .inl (a0_6_12_c, 12, .inr (.inr (.inr (.inr a0_6_12_f))))), (a0_6_13, .inl (a0_6_13_c, 12, .inl a0_6_13_f)), (a0_8, .inr (2, [.ref a0_8_0, .ref a0_8_1, .ref a0_8_2, .ref a0_8_3, .ref a0_8_4, .ref a0_8_5])), (a0_8_0, .inl (a0_8_0_c, 24, .inl a0_8_0_f)), (a0_8_1, .inl (a0_8_1_c, 8, .inl a0_8_1_f)), (a0_8_2, .inl (a0_8_2_c, 12, .inl a0_8_2_f)), (a0_8_3, .inl (a0_8_3_c, 12, .inl a0_8_3_f)), (a0_8_4, .inl (a0_8_4_c, 12, .inr (.inr (.inr (.inr a0_8_4_f))))), (a0_8_5, .inl (a0_8_5_c, 12, .inr (.inr (.inr (.inr a0_8_5_f)))))] : va_W) ++ rows) s.heap := hP
  have hl := lv_entry ([.ref a0, .int a1, .int a2]) (n := 3) (Nat.le_of_ble_eq_true rfl)
  rw [lg_entry_eq]
  generalize (lg_sl ([.ref a0, .int a1, .int a2]) ++ List.replicate (3 - (lg_sl ([.ref a0, .int a1, .int a2])).length) Slot.unset).toArray = ls at hl ⊢
  have hl : lv_has ls 3 [(0, .ref a0), (1, .int a1), (2, .int a2)] := hl
  have hK := cyK hK (hts (.arrayClass .int) qw_54) hE.2.2.2.2.2.2.2.2.2.2.2.2.1
  replace hK : va_K (dC, dI) vwCl [(a0_2_0_c, .int), (a0_2_1_c, .int), (a0_2_2_c, .array .int), (a0_2_3_c, .array .int), (a0_2_5_c, .int), (a0_6_1_c, .int), (a0_6_3_c, .int), (a0_6_5_c, .int), (a0_6_6_c, .int), (a0_6_7_c, .int), (a0_6_9_c, .int), (a0_6_10_c, .int), (a0_6_11_c, .boolean), (a0_6_12_c, .array .int), (a0_6_13_c, .int), (a0_8_0_c, .int), (a0_8_1_c, .int), (a0_8_2_c, .int), (a0_8_3_c, .int), (a0_8_4_c, .array .int), (a0_8_5_c, .array .int), (g.2.2.2.2.1, .int)] s := hK
  have b_a1 := i32b a1
  have b_a2 := i32b a2
  have b_a0_10 := i32b a0_10
  have hRS : RS g.2.2.2.2.1 rows rows := RS.rf
  refine lv_aload_n hx hb dX8_listed_0 rfl (lv_at hl 0 rfl) ?_
  refine va_get (D := (dC, dI)) (ci := 7) (v := .ref a0_6) (C := RX8) (T := TX8) (N := 11) hx hb hts inlX8 hown hK hP 0 rgL25_87334e9 rfl 6 (by decide) (hts (.fieldLink RX8 51 "ClosedUntil" "told" "LClosedUntil$Holdings;") qw_262) (fun _ h9 => h9) rfl dX8_listed_1 ?_
  refine lv_iload_n hx hb dX8_listed_4 rfl (lv_at hl 1 rfl) ?_
  have hPc := (rgP25_2037506 hP)
  have hKc := (rgK22_e8c0e9b hK)
  refine vp_callSi ((va_runVN (As := [.int a1]) (rest := []) ⟨hx, hb, hml, hown, hts⟩ (k_X1_hasPiece l dC dI g (a0_6) (a1) (a0_6_0) (a0_6_1) (a0_6_2) (a0_6_3) (a0_6_4) (a0_6_5) (a0_6_6) (a0_6_7) (a0_6_8) (a0_6_9) (a0_6_10) (a0_6_11) (a0_6_12) (a0_6_13) (by omega) (by omega) (by omega) (by omega)) ⟨va_cnB 1 hts (gwC qw_312) rfl rfl rfl (nm_25 hN) (hts (.initialized RX1) qw_183) (by decide +kernel) ⟨Nat.le_of_ble_eq_true rfl, Nat.le_of_ble_eq_true rfl⟩, (hts (.instanceMethod yX1_hasPiece) qw_313), (hts (.selects RX1 yX1_hasPiece yX1_hasPiece) qw_314)⟩ ⟨fun a U g9 mk q => ⟨q.1, q.2.1, va_K.moved (u := U) (U := U.calling g9 mk a) (Vm.Alike.refl U.vm) q.2.2.1, Ev.bl q.2.2.2⟩, va_recv hK hP (ci := 0) (q0 := 7) rfl rgL25_bf1b5b5, fun U hU hW => ⟨rfl, atB hU hPc, va_K.moved hW.alike hKc, hE.go hS (fun _ h => h.elim) hU hW⟩⟩ rfl rfl hl.1 rfl (lv_room (Nat.le_of_ble_eq_true rfl)) dX8_listed_5 ⟨Nat.le_of_ble_eq_true rfl, Nat.le_of_ble_eq_true rfl⟩)).run (fun r1 h_r1 => ?_)
  have h_r1 : (r1 = 0 ∨ r1 = 1) ∧ ((r1.toInt = 1 ∧ 0 ≤ a1.toInt ∧ a1.toInt < a0_6_4.toInt) ∨ r1.toInt = 0) := h_r1
  have b_r1 := z01 (show r1 = 0 ∨ r1 = 1 from h_r1.1)
  refine lv_if_eq (tgt := 18) hx hb dX8_listed_8 (by decide) (fun c8_2 => ?_) (fun c8_2 => ?_)
  · have c8_2 : r1.toInt = 0 := (cv_eq rfl (by decide)).mp c8_2
    refine lv_iconst (v := (-1)) hx hb dX8_listed_18 (by decide) ?_
    have qcm1 : ((-1) : Int32).toInt = (-1) := by decide
    refine W.widen (k := 0) (n := 0) (Nat.le_of_ble_eq_true rfl) (Nat.le_of_ble_eq_true rfl) ?_
    have hP9 := hP
    have hD9 := hD
    have hK9 := (rgK22_e8c0e9b hK)
    have hf9_0 : (0 ≤ a0_2_6.toInt ∧ a0_2_6.toInt ≤ 24) := by omega
    have hf9_1 : (0 ≤ a0_2_7.toInt ∧ a0_2_7.toInt ≤ 12) := by omega
    have hf9_2 : RS g.2.2.2.2.1 rows rows := hRS
    exact W.iret (v := (-1)) hx hb hr (fun t ht hW => ⟨⟨(-1), (-1), rfl, rfl, a0_10, a0_2_6, a0_2_7, a0_2_0_f, a0_2_1_f, a0_2_5_f, rows, hf9_0, hf9_1, hf9_2, atB ht hP9, va_K.moved hW.alike hK9, hD9⟩, hS.F ht⟩) hS.2.2 dX8_listed_19
  · have c8_2 : ¬ (r1.toInt = 0) := mt (cv_eq rfl (by decide)).mpr c8_2
    refine lv_iload_n hx hb dX8_listed_11 rfl (lv_at hl 2 rfl) ?_
    have hPc := (rgP25_03923d6 hP)
    have hKc := (rgK22_e8c0e9b hK)
    refine vp_callSi ((va_runS (As := [.int a2]) (rest := []) ⟨hx, hb, hml, hown, hts⟩ (k_X8_areReaders l dC dI g (a2) ) (va_cwS 1 hts (gwS qw_326 qw_327 qw_28 qw_325) rfl rfl rfl (by decide +kernel) ⟨Nat.le_of_ble_eq_true rfl, Nat.le_of_ble_eq_true rfl⟩) ⟨fun a U g9 mk q => ⟨q.1, q.2.1, va_K.moved (u := U) (U := U.calling g9 mk a) (Vm.Alike.refl U.vm) q.2.2.1, Ev.bl q.2.2.2⟩, fun U hU hW => ⟨rfl, atB hU hPc, va_K.moved hW.alike hKc, hE.go hS (fun _ h => h.elim) hU hW⟩⟩ rfl rfl hl.1 rfl (lv_room (Nat.le_of_ble_eq_true rfl)) dX8_listed_12 ⟨Nat.le_of_ble_eq_true rfl, Nat.le_of_ble_eq_true rfl⟩)).run (fun r3 h_r3 => ?_)
    have h_r3 : (r3 = 0 ∨ r3 = 1) := h_r3
    have b_r3 := z01 (show r3 = 0 ∨ r3 = 1 from h_r3)
    refine lv_if_ne (tgt := 20) hx hb dX8_listed_15 (by decide) (fun c15_4 => ?_) (fun c15_4 => ?_)
    · have c15_4 : ¬ (r3.toInt = 0) := mt (cv_eq rfl (by decide)).mpr c15_4
      refine lv_aload_n hx hb dX8_listed_20 rfl (lv_at hl 0 rfl) ?_
      have hPc := (rgP25_3b7695d hP)
      have hKc := (rgK22_b422d32 hK)
      have hDc := (rgD25_d80f620 hD)
      have hFc := freeW hDc hS hA
      refine va_callr (va_runV (As := []) (rest := []) ⟨hx, hb, hml, hown, hts⟩ (k_X8_upToDate l dC dI g s.heap.size (a0) (a0_0) (a0_1) (a0_2) (a0_3) (a0_4) (a0_5) (a0_6) (a0_7) (a0_8) (a0_9) (a0_10) (a0_2_0) (a0_2_1) (a0_2_2) (a0_2_3) (a0_2_4) (a0_2_5) (a0_2_6) (a0_2_7) (a0_2_0_c) (a0_2_0_f) (a0_2_1_c) (a0_2_1_f) (a0_2_2_c) (a0_2_2_f) (a0_2_3_c) (a0_2_3_f) (a0_6_0) (a0_6_1) (a0_6_2) (a0_6_3) (a0_6_4) (a0_6_5) (a0_6_6) (a0_6_7) (a0_6_8) (a0_6_9) (a0_6_10) (a0_6_11) (a0_6_12) (a0_6_13) (a0_6_1_c) (a0_6_1_f) (a0_6_3_c) (a0_6_3_f) (a0_6_5_c) (a0_6_5_f) (a0_6_6_c) (a0_6_6_f) (a0_6_7_c) (a0_6_7_f) (a0_6_9_c) (a0_6_9_f) (a0_6_10_c) (a0_6_10_f) (a0_6_11_c) (a0_6_11_f) (a0_6_12_c) (a0_6_12_f) (a0_6_13_c) (a0_6_13_f) (a0_8_0) (a0_8_1) (a0_8_2) (a0_8_3) (a0_8_4) (a0_8_5) (a0_8_0_c) (a0_8_0_f) (a0_8_1_c) (a0_8_1_f) (a0_8_2_c) (a0_8_2_f) (a0_8_3_c) (a0_8_3_f) (a0_8_4_c) (a0_8_4_f) (a0_8_5_c) (a0_8_5_f) (rows) (by omega) (by omega) (RS.gr hRS h_a0_2_2_f) (RS.gr hRS h_a0_2_3_f) (by omega) (by omega) (by omega) (by omega) (RS.gr hRS h_a0_6_12_f) h_a0_8_3_f (RS.gr hRS h_a0_8_4_f) (RS.gr hRS h_a0_8_5_f) (by assumption)) (cwV 0 hts (gwV qw_316 qw_317 qw_318 qw_28 qw_315) rfl rfl rfl (by decide +kernel) ⟨Nat.le_of_ble_eq_true rfl, Nat.le_of_ble_eq_true rfl⟩) ⟨fun a U g9 mk q => ⟨q.1, q.2.1, q.2.2.1, va_K.moved (u := U) (U := U.calling g9 mk a) (Vm.Alike.refl U.vm) q.2.2.2.1, q.2.2.2.2.1, Ev.bl q.2.2.2.2.2⟩, va_recv hK hP (ci := 7) (q0 := 0) rfl rgL25_87334e9, fun U hU hW => ⟨rfl, by rw [hU], atB hU hPc, va_K.moved hW.alike hKc, hDc.weaken (fun _ _ _ _ => trivial), hE.go hS hFc hU hW⟩⟩ rfl rfl hl.1 rfl (lv_room (Nat.le_of_ble_eq_true rfl)) dX8_listed_21 ⟨Nat.le_of_ble_eq_true rfl, Nat.le_of_ble_eq_true rfl⟩) hS (fun q _ h => hFc q h) hFc (fun u5 r6 t H1 locs ht hvm h_u5 hB hz1 hk1 hS => ?_)
      obtain ⟨hrr, za0_10_7, za0_2_6_8, za0_2_7_9, za0_2_0_f_10, za0_2_1_f_11, zrows_12, hF13, hF14, hF15, hP1, hK1, hD1⟩ := hB
      have hK1 := va_K.moved hvm.symm hK1
      have hJ9 := rgJ25_3dbb90a hP hD hk1 hFc (atH ht hP1) hD1
      clear hP hD hPc hKc hDc hFc hP1 hD1 hk1 hz1
      obtain ⟨hP, hD⟩ := hJ9
      clear hK1
      generalize H1 = H at hP hS ⊢
      refine W.widen (k := 0) (n := 0) (Nat.le_of_ble_eq_true rfl) (Nat.le_of_ble_eq_true rfl) ?_
      refine topv (w := .ref a0_2) (by rw [hrr]) ?_
      have hRS := RS.tr hRS hF15
      refine lv_iload_n hx hb dX8_listed_24 rfl (lv_at hl 1 rfl) ?_
      refine lv_aload_n hx hb dX8_listed_25 rfl (lv_at hl 0 rfl) ?_
      refine va_get (D := (dC, dI)) (ci := 7) (v := .ref a0_6) (C := RX8) (T := TX8) (N := 11) hx hb hts inlX8 hown hK hP 0 rgL25_87334e9 rfl 6 (by decide) (hts (.fieldLink RX8 51 "ClosedUntil" "told" "LClosedUntil$Holdings;") qw_262) (fun _ h9 => h9) rfl dX8_listed_26 ?_
      refine lv_iload_n hx hb dX8_listed_29 rfl (lv_at hl 2 rfl) ?_
      have hPc := (rgP25_fd33518 hP)
      have hKc := (rgK22_98120ae hK)
      refine vp_callSi ((va_runVN (As := [.int a2]) (rest := [.int a1, .ref a0_2]) ⟨hx, hb, hml, hown, hts⟩ (k_X1_holdingFor l dC dI g (a0_6) (a2) (a0_6_0) (a0_6_1) (a0_6_2) (a0_6_3) (a0_6_4) (a0_6_5) (a0_6_6) (a0_6_7) (a0_6_8) (a0_6_9) (a0_6_10) (a0_6_11) (a0_6_12) (a0_6_13) (a0_6_9_c) (a0_6_9_f) (by omega) (by omega) (by omega) (by omega)) ⟨va_cnB 1 hts (gwC qw_328) rfl rfl rfl (nm_36 hN) (hts (.initialized RX1) qw_183) (by decide +kernel) ⟨Nat.le_of_ble_eq_true rfl, Nat.le_of_ble_eq_true rfl⟩, (hts (.instanceMethod yX1_holdingFor) qw_329), (hts (.selects RX1 yX1_holdingFor yX1_holdingFor) qw_330)⟩ ⟨fun a U g9 mk q => ⟨q.1, q.2.1, va_K.moved (u := U) (U := U.calling g9 mk a) (Vm.Alike.refl U.vm) q.2.2.1, Ev.bl q.2.2.2⟩, va_recv hK hP (ci := 0) (q0 := 7) rfl rgL25_bf1b5b5, fun U hU hW => ⟨rfl, atB hU hPc, va_K.moved hW.alike hKc, hE.go hS (fun _ h => h.elim) hU hW⟩⟩ rfl rfl hl.1 rfl (lv_room (Nat.le_of_ble_eq_true rfl)) dX8_listed_30 ⟨Nat.le_of_ble_eq_true rfl, Nat.le_of_ble_eq_true rfl⟩)).run (fun r16 h_r16 => ?_)
      have b_r16 := i32b r16
      have hPc := (rgP25_211214f hP)
      have hKc := (rgK22_e79bdbc hK)
      have hDc := (rgD25_6391d03 hD)
      have hFc := freeW hDc hS hA
      refine va_calli (va_runVN (As := [.int a1, .int r16]) (rest := []) ⟨hx, hb, hml, hown, hts⟩ (k_X6_pieceAt l dC dI g H.size (a0_2) (a1) (r16) (a0_2_0) (a0_2_1) (a0_2_2) (a0_2_3) (a0_2_4) (a0_2_5) (za0_2_6_8) (za0_2_7_9) (a0_2_1_c) (za0_2_1_f_11) (a0_2_3_c) (a0_2_3_f) (a0_2_5_c) (a0_2_5_f) (zrows_12) (by omega) (by omega) (RS.gr hRS h_a0_2_3_f)) ⟨va_cnB 2 hts (gwC qw_336) rfl rfl rfl (nm_41 hN) (hts (.initialized RX6) qw_133) (by decide +kernel) ⟨Nat.le_of_ble_eq_true rfl, Nat.le_of_ble_eq_true rfl⟩, (hts (.instanceMethod yX6_pieceAt) qw_337), (hts (.selects RX6 yX6_pieceAt yX6_pieceAt) qw_338)⟩ ⟨fun a U g9 mk q => ⟨q.1, q.2.1, q.2.2.1, va_K.moved (u := U) (U := U.calling g9 mk a) (Vm.Alike.refl U.vm) q.2.2.2.1, q.2.2.2.2.1, Ev.bl q.2.2.2.2.2⟩, va_recv hK hP (ci := 5) (q0 := 1) rfl rgL25_59cac68, fun U hU hW => ⟨rfl, by rw [hU], atB hU hPc, va_K.moved hW.alike hKc, hDc.weaken (fun _ _ _ _ => trivial), hE.go hS hFc hU hW⟩⟩ rfl rfl hl.1 rfl (lv_room (Nat.le_of_ble_eq_true rfl)) dX8_listed_33 ⟨Nat.le_of_ble_eq_true rfl, Nat.le_of_ble_eq_true rfl⟩) hS (fun q _ h => hFc q h) hFc (fun r18 u17 t H1 locs ht hvm h_u17 hB hz1 hk1 hS => ?_)
      obtain ⟨za0_5_f_19, hP1, hK1, hD1⟩ := hB
      have hK1 := va_K.moved hvm.symm hK1
      have hJ9 := rgJ25_2d9abea hP hD hk1 hFc (atH ht hP1) hD1
      clear hP hD hPc hKc hDc hFc hP1 hD1 hk1 hz1
      obtain ⟨hP, hD⟩ := hJ9
      clear hK1
      generalize H1 = H at hP hS ⊢
      refine W.widen (k := 0) (n := 0) (Nat.le_of_ble_eq_true rfl) (Nat.le_of_ble_eq_true rfl) ?_
      have h_r18 := congrArg Int32.toInt h_u17
      have b_r18 := i32b r18
      refine W.widen (k := 0) (n := 0) (Nat.le_of_ble_eq_true rfl) (Nat.le_of_ble_eq_true rfl) ?_
      have hP9 := hP
      have hD9 := hD
      have hK9 := (rgK22_e8c0e9b hK)
      have hf9_0 : (0 ≤ za0_2_6_8.toInt ∧ za0_2_6_8.toInt ≤ 24) := by omega
      have hf9_1 : (0 ≤ za0_2_7_9.toInt ∧ za0_2_7_9.toInt ≤ 12) := by omega
      have hf9_2 : RS g.2.2.2.2.1 rows zrows_12 := hRS
      exact W.iret (v := r18) hx hb hr (fun t ht hW => ⟨⟨r18, r18, rfl, rfl, za0_10_7, za0_2_6_8, za0_2_7_9, za0_2_0_f_10, za0_2_1_f_11, za0_5_f_19, zrows_12, hf9_0, hf9_1, hf9_2, atB ht hP9, va_K.moved hW.alike hK9, hD9⟩, hS.F ht⟩) hS.2.2 dX8_listed_36
    · have c15_4 : r3.toInt = 0 := (cv_eq rfl (by decide)).mp c15_4
      refine lv_iconst (v := (-1)) hx hb dX8_listed_18 (by decide) ?_
      have qcm1 : ((-1) : Int32).toInt = (-1) := by decide
      refine W.widen (k := 0) (n := 0) (Nat.le_of_ble_eq_true rfl) (Nat.le_of_ble_eq_true rfl) ?_
      have hP9 := hP
      have hD9 := hD
      have hK9 := (rgK22_e8c0e9b hK)
      have hf9_0 : (0 ≤ a0_2_6.toInt ∧ a0_2_6.toInt ≤ 24) := by omega
      have hf9_1 : (0 ≤ a0_2_7.toInt ∧ a0_2_7.toInt ≤ 12) := by omega
      have hf9_2 : RS g.2.2.2.2.1 rows rows := hRS
      exact W.iret (v := (-1)) hx hb hr (fun t ht hW => ⟨⟨(-1), (-1), rfl, rfl, a0_10, a0_2_6, a0_2_7, a0_2_0_f, a0_2_1_f, a0_2_5_f, rows, hf9_0, hf9_1, hf9_2, atB ht hP9, va_K.moved hW.alike hK9, hD9⟩, hS.F ht⟩) hS.2.2 dX8_listed_19
set_option maxHeartbeats 4000000 in
set_option maxRecDepth 100000 in
theorem k_X8_mustGo (l : Launch) (dC : Nat → ClassId) (dI : Nat → Nat → Nat) (g : Gv) (sz : Nat) (a0 : Nat) (a1 : Int32) (a2 : Int32) (a3 : Int32) (a0_0 : Nat) (a0_1 : Nat) (a0_2 : Nat) (a0_3 : Nat) (a0_4 : Nat) (a0_5 : Nat) (a0_6 : Nat) (a0_7 : Nat) (a0_8 : Nat) (a0_9 : Nat) (a0_10 : Int32) (a0_2_0 : Nat) (a0_2_1 : Nat) (a0_2_2 : Nat) (a0_2_3 : Nat) (a0_2_4 : Nat) (a0_2_5 : Nat) (a0_2_6 : Int32) (a0_2_7 : Int32) (a0_2_0_c : ClassId) (a0_2_0_f : Nat → Int32) (a0_2_1_c : ClassId) (a0_2_1_f : Nat → Int32) (a0_2_2_c : ClassId) (a0_2_2_f : Nat → Option Nat) (a0_2_3_c : ClassId) (a0_2_3_f : Nat → Option Nat) (a0_6_0 : Int32) (a0_6_1 : Nat) (a0_6_2 : Int32) (a0_6_3 : Nat) (a0_6_4 : Int32) (a0_6_5 : Nat) (a0_6_6 : Nat) (a0_6_7 : Nat) (a0_6_8 : Int32) (a0_6_9 : Nat) (a0_6_10 : Nat) (a0_6_11 : Nat) (a0_6_12 : Nat) (a0_6_13 : Nat) (a0_6_1_c : ClassId) (a0_6_1_f : Nat → Int32) (a0_6_3_c : ClassId) (a0_6_3_f : Nat → Int32) (a0_6_5_c : ClassId) (a0_6_5_f : Nat → Int32) (a0_6_6_c : ClassId) (a0_6_6_f : Nat → Int32) (a0_6_7_c : ClassId) (a0_6_7_f : Nat → Int32) (a0_6_9_c : ClassId) (a0_6_9_f : Nat → Int32) (a0_6_10_c : ClassId) (a0_6_10_f : Nat → Int32) (a0_6_11_c : ClassId) (a0_6_11_f : Nat → Int32) (a0_6_12_c : ClassId) (a0_6_12_f : Nat → Option Nat) (a0_6_13_c : ClassId) (a0_6_13_f : Nat → Int32) (a0_8_0 : Nat) (a0_8_1 : Nat) (a0_8_2 : Nat) (a0_8_3 : Nat) (a0_8_4 : Nat) (a0_8_5 : Nat) (a0_8_0_c : ClassId) (a0_8_0_f : Nat → Int32) (a0_8_1_c : ClassId) (a0_8_1_f : Nat → Int32) (a0_8_2_c : ClassId) (a0_8_2_f : Nat → Int32) (a0_8_3_c : ClassId) (a0_8_3_f : Nat → Int32) (a0_8_4_c : ClassId) (a0_8_4_f : Nat → Option Nat) (a0_8_5_c : ClassId) (a0_8_5_f : Nat → Option Nat) (rows : va_W) (h_a0_2_6 : 0 ≤ a0_2_6.toInt ∧ a0_2_6.toInt ≤ 24) (h_a0_2_7 : 0 ≤ a0_2_7.toInt ∧ a0_2_7.toInt ≤ 12) (h_a0_2_2_f : GR g.2.2.2.2.1 24 12 a0_2_2_f rows) (h_a0_2_3_f : GR g.2.2.2.2.1 24 12 a0_2_3_f rows) (h_a0_6_0 : 0 ≤ a0_6_0.toInt ∧ a0_6_0.toInt ≤ 8) (h_a0_6_2 : 0 ≤ a0_6_2.toInt ∧ a0_6_2.toInt ≤ 4) (h_a0_6_4 : 0 ≤ a0_6_4.toInt ∧ a0_6_4.toInt ≤ 24) (h_a0_6_8 : 0 ≤ a0_6_8.toInt ∧ a0_6_8.toInt ≤ 12) (h_a0_6_12_f : GR g.2.2.2.2.1 3 12 a0_6_12_f rows) (h_a0_8_3_f : vr 0 5 a0_8_3_f) (h_a0_8_4_f : GR g.2.2.2.2.1 5 12 a0_8_4_f rows) (h_a0_8_5_f : GR g.2.2.2.2.1 5 12 a0_8_5_f rows) (hho : HOk a0_6_9_f a0_6_10_f a0_6_8) : Met l yX8_mustGo (.code yX8_mustGo cX8_mustGo 8 (some .int) :: TBL) ({ frames := 7, cells := 0, slots := 0, locals := 168 }) (va_Pc [.ref a0, .int a1, .int a2, .int a3] (fun U => U.heap.size = sz ∧ va_P (dC, dI) vwCl (([(a0, .inr (7, [.ref a0_0, .ref a0_1, .ref a0_2, .ref a0_3, .ref a0_4, .ref a0_5, .ref a0_6, .ref a0_7, .ref a0_8, .ref a0_9, .int a0_10])), (a0_2, .inr (5, [.ref a0_2_0, .ref a0_2_1, .ref a0_2_2, .ref a0_2_3, .ref a0_2_4, .ref a0_2_5, .int a0_2_6, .int a0_2_7])), (a0_2_0, .inl (a0_2_0_c, 24, .inl a0_2_0_f)), (a0_2_1, .inl (a0_2_1_c, 24, .inl a0_2_1_f)), (a0_2_2, .inl (a0_2_2_c, 12, .inr (.inr (.inr (.inr a0_2_2_f))))), (a0_2_3, .inl (a0_2_3_c, 12, .inr (.inr (.inr (.inr a0_2_3_f))))), (a0_6, .inr (0, [.int a0_6_0, .ref a0_6_1, .int a0_6_2, .ref a0_6_3, .int a0_6_4, .ref a0_6_5, .ref a0_6_6, .ref a0_6_7, .int a0_6_8, .ref a0_6_9, .ref a0_6_10, .ref a0_6_11, .ref a0_6_12, .ref a0_6_13])), (a0_6_1, .inl (a0_6_1_c, 8, .inl a0_6_1_f)), (a0_6_3, .inl (a0_6_3_c, 4, .inl a0_6_3_f)), (a0_6_5, .inl (a0_6_5_c, 24, .inl a0_6_5_f)), (a0_6_6, .inl (a0_6_6_c, 24, .inl a0_6_6_f)), (a0_6_7, .inl (a0_6_7_c, 24, .inl a0_6_7_f)), (a0_6_9, .inl (a0_6_9_c, 12, .inl a0_6_9_f)), (a0_6_10, .inl (a0_6_10_c, 12, .inl a0_6_10_f)), (a0_6_11, .inl (a0_6_11_c, 12, .inl a0_6_11_f)), (a0_6_12, .inl (a0_6_12_c, 12, .inr (.inr (.inr (.inr a0_6_12_f))))), (a0_6_13, .inl (a0_6_13_c, 12, .inl a0_6_13_f)), (a0_8, .inr (2, [.ref a0_8_0, .ref a0_8_1, .ref a0_8_2, .ref a0_8_3, .ref a0_8_4, .ref a0_8_5])), (a0_8_0, .inl (a0_8_0_c, 24, .inl a0_8_0_f)), (a0_8_1, .inl (a0_8_1_c, 8, .inl a0_8_1_f)), (a0_8_2, .inl (a0_8_2_c, 12, .inl a0_8_2_f)), (a0_8_3, .inl (a0_8_3_c, 12, .inl a0_8_3_f)), (a0_8_4, .inl (a0_8_4_c, 12, .inr (.inr (.inr (.inr a0_8_4_f))))), (a0_8_5, .inl (a0_8_5_c, 12, .inr (.inr (.inr (.inr a0_8_5_f)))))] : va_W) ++ rows) U.heap ∧ va_K (dC, dI) vwCl [(a0_2_0_c, .int), (a0_2_1_c, .int), (a0_2_2_c, .array .int), (a0_2_3_c, .array .int), (a0_6_1_c, .int), (a0_6_3_c, .int), (a0_6_5_c, .int), (a0_6_6_c, .int), (a0_6_7_c, .int), (a0_6_9_c, .int), (a0_6_10_c, .int), (a0_6_11_c, .boolean), (a0_6_12_c, .array .int), (a0_6_13_c, .int), (a0_8_0_c, .int), (a0_8_1_c, .int), (a0_8_2_c, .int), (a0_8_3_c, .int), (a0_8_4_c, .array .int), (a0_8_5_c, .array .int)] U ∧ va_D (fun _ => True) (([(a0, .inr (7, [.ref a0_0, .ref a0_1, .ref a0_2, .ref a0_3, .ref a0_4, .ref a0_5, .ref a0_6, .ref a0_7, .ref a0_8, .ref a0_9, .int a0_10])), (a0_2, .inr (5, [.ref a0_2_0, .ref a0_2_1, .ref a0_2_2, .ref a0_2_3, .ref a0_2_4, .ref a0_2_5, .int a0_2_6, .int a0_2_7])), (a0_2_0, .inl (a0_2_0_c, 24, .inl a0_2_0_f)), (a0_2_1, .inl (a0_2_1_c, 24, .inl a0_2_1_f)), (a0_2_2, .inl (a0_2_2_c, 12, .inr (.inr (.inr (.inr a0_2_2_f))))), (a0_2_3, .inl (a0_2_3_c, 12, .inr (.inr (.inr (.inr a0_2_3_f))))), (a0_6, .inr (0, [.int a0_6_0, .ref a0_6_1, .int a0_6_2, .ref a0_6_3, .int a0_6_4, .ref a0_6_5, .ref a0_6_6, .ref a0_6_7, .int a0_6_8, .ref a0_6_9, .ref a0_6_10, .ref a0_6_11, .ref a0_6_12, .ref a0_6_13])), (a0_6_1, .inl (a0_6_1_c, 8, .inl a0_6_1_f)), (a0_6_3, .inl (a0_6_3_c, 4, .inl a0_6_3_f)), (a0_6_5, .inl (a0_6_5_c, 24, .inl a0_6_5_f)), (a0_6_6, .inl (a0_6_6_c, 24, .inl a0_6_6_f)), (a0_6_7, .inl (a0_6_7_c, 24, .inl a0_6_7_f)), (a0_6_9, .inl (a0_6_9_c, 12, .inl a0_6_9_f)), (a0_6_10, .inl (a0_6_10_c, 12, .inl a0_6_10_f)), (a0_6_11, .inl (a0_6_11_c, 12, .inl a0_6_11_f)), (a0_6_12, .inl (a0_6_12_c, 12, .inr (.inr (.inr (.inr a0_6_12_f))))), (a0_6_13, .inl (a0_6_13_c, 12, .inl a0_6_13_f)), (a0_8, .inr (2, [.ref a0_8_0, .ref a0_8_1, .ref a0_8_2, .ref a0_8_3, .ref a0_8_4, .ref a0_8_5])), (a0_8_0, .inl (a0_8_0_c, 24, .inl a0_8_0_f)), (a0_8_1, .inl (a0_8_1_c, 8, .inl a0_8_1_f)), (a0_8_2, .inl (a0_8_2_c, 12, .inl a0_8_2_f)), (a0_8_3, .inl (a0_8_3_c, 12, .inl a0_8_3_f)), (a0_8_4, .inl (a0_8_4_c, 12, .inr (.inr (.inr (.inr a0_8_4_f))))), (a0_8_5, .inl (a0_8_5_c, 12, .inr (.inr (.inr (.inr a0_8_5_f)))))] : va_W) ++ rows) ∧ Ev g (va_A (([(a0, .inr (7, [.ref a0_0, .ref a0_1, .ref a0_2, .ref a0_3, .ref a0_4, .ref a0_5, .ref a0_6, .ref a0_7, .ref a0_8, .ref a0_9, .int a0_10])), (a0_2, .inr (5, [.ref a0_2_0, .ref a0_2_1, .ref a0_2_2, .ref a0_2_3, .ref a0_2_4, .ref a0_2_5, .int a0_2_6, .int a0_2_7])), (a0_2_0, .inl (a0_2_0_c, 24, .inl a0_2_0_f)), (a0_2_1, .inl (a0_2_1_c, 24, .inl a0_2_1_f)), (a0_2_2, .inl (a0_2_2_c, 12, .inr (.inr (.inr (.inr a0_2_2_f))))), (a0_2_3, .inl (a0_2_3_c, 12, .inr (.inr (.inr (.inr a0_2_3_f))))), (a0_6, .inr (0, [.int a0_6_0, .ref a0_6_1, .int a0_6_2, .ref a0_6_3, .int a0_6_4, .ref a0_6_5, .ref a0_6_6, .ref a0_6_7, .int a0_6_8, .ref a0_6_9, .ref a0_6_10, .ref a0_6_11, .ref a0_6_12, .ref a0_6_13])), (a0_6_1, .inl (a0_6_1_c, 8, .inl a0_6_1_f)), (a0_6_3, .inl (a0_6_3_c, 4, .inl a0_6_3_f)), (a0_6_5, .inl (a0_6_5_c, 24, .inl a0_6_5_f)), (a0_6_6, .inl (a0_6_6_c, 24, .inl a0_6_6_f)), (a0_6_7, .inl (a0_6_7_c, 24, .inl a0_6_7_f)), (a0_6_9, .inl (a0_6_9_c, 12, .inl a0_6_9_f)), (a0_6_10, .inl (a0_6_10_c, 12, .inl a0_6_10_f)), (a0_6_11, .inl (a0_6_11_c, 12, .inl a0_6_11_f)), (a0_6_12, .inl (a0_6_12_c, 12, .inr (.inr (.inr (.inr a0_6_12_f))))), (a0_6_13, .inl (a0_6_13_c, 12, .inl a0_6_13_f)), (a0_8, .inr (2, [.ref a0_8_0, .ref a0_8_1, .ref a0_8_2, .ref a0_8_3, .ref a0_8_4, .ref a0_8_5])), (a0_8_0, .inl (a0_8_0_c, 24, .inl a0_8_0_f)), (a0_8_1, .inl (a0_8_1_c, 8, .inl a0_8_1_f)), (a0_8_2, .inl (a0_8_2_c, 12, .inl a0_8_2_f)), (a0_8_3, .inl (a0_8_3_c, 12, .inl a0_8_3_f)), (a0_8_4, .inl (a0_8_4_c, 12, .inr (.inr (.inr (.inr a0_8_4_f))))), (a0_8_5, .inl (a0_8_5_c, 12, .inr (.inr (.inr (.inr a0_8_5_f)))))] : va_W) ++ rows) sz) U)) (va_Qi (fun (r : Int32) (u : Int32) => u = r) (fun (u : Int32) (t : State) => ∃ (za0_10 : Int32) (za0_2_6 : Int32) (za0_2_7 : Int32) (za0_2_0_f : Nat → Int32) (za0_2_1_f : Nat → Int32) (zrows : va_W), (0 ≤ za0_2_6.toInt ∧ za0_2_6.toInt ≤ 24) ∧ (0 ≤ za0_2_7.toInt ∧ za0_2_7.toInt ≤ 12) ∧ RS g.2.2.2.2.1 rows zrows ∧ va_P (dC, dI) vwCl (([(a0, .inr (7, [.ref a0_0, .ref a0_1, .ref a0_2, .ref a0_3, .ref a0_4, .ref a0_5, .ref a0_6, .ref a0_7, .ref a0_8, .ref a0_9, .int za0_10])), (a0_2, .inr (5, [.ref a0_2_0, .ref a0_2_1, .ref a0_2_2, .ref a0_2_3, .ref a0_2_4, .ref a0_2_5, .int za0_2_6, .int za0_2_7])), (a0_2_0, .inl (a0_2_0_c, 24, .inl za0_2_0_f)), (a0_2_1, .inl (a0_2_1_c, 24, .inl za0_2_1_f)), (a0_2_2, .inl (a0_2_2_c, 12, .inr (.inr (.inr (.inr a0_2_2_f))))), (a0_2_3, .inl (a0_2_3_c, 12, .inr (.inr (.inr (.inr a0_2_3_f))))), (a0_6, .inr (0, [.int a0_6_0, .ref a0_6_1, .int a0_6_2, .ref a0_6_3, .int a0_6_4, .ref a0_6_5, .ref a0_6_6, .ref a0_6_7, .int a0_6_8, .ref a0_6_9, .ref a0_6_10, .ref a0_6_11, .ref a0_6_12, .ref a0_6_13])), (a0_6_1, .inl (a0_6_1_c, 8, .inl a0_6_1_f)), (a0_6_3, .inl (a0_6_3_c, 4, .inl a0_6_3_f)), (a0_6_5, .inl (a0_6_5_c, 24, .inl a0_6_5_f)), (a0_6_6, .inl (a0_6_6_c, 24, .inl a0_6_6_f)), (a0_6_7, .inl (a0_6_7_c, 24, .inl a0_6_7_f)), (a0_6_9, .inl (a0_6_9_c, 12, .inl a0_6_9_f)), (a0_6_10, .inl (a0_6_10_c, 12, .inl a0_6_10_f)), (a0_6_11, .inl (a0_6_11_c, 12, .inl a0_6_11_f)), (a0_6_12, .inl (a0_6_12_c, 12, .inr (.inr (.inr (.inr a0_6_12_f))))), (a0_6_13, .inl (a0_6_13_c, 12, .inl a0_6_13_f)), (a0_8, .inr (2, [.ref a0_8_0, .ref a0_8_1, .ref a0_8_2, .ref a0_8_3, .ref a0_8_4, .ref a0_8_5])), (a0_8_0, .inl (a0_8_0_c, 24, .inl a0_8_0_f)), (a0_8_1, .inl (a0_8_1_c, 8, .inl a0_8_1_f)), (a0_8_2, .inl (a0_8_2_c, 12, .inl a0_8_2_f)), (a0_8_3, .inl (a0_8_3_c, 12, .inl a0_8_3_f)), (a0_8_4, .inl (a0_8_4_c, 12, .inr (.inr (.inr (.inr a0_8_4_f))))), (a0_8_5, .inl (a0_8_5_c, 12, .inr (.inr (.inr (.inr a0_8_5_f)))))] : va_W) ++ zrows) t.heap ∧ va_K (dC, dI) vwCl [] t ∧ va_D (va_A (([(a0, .inr (7, [.ref a0_0, .ref a0_1, .ref a0_2, .ref a0_3, .ref a0_4, .ref a0_5, .ref a0_6, .ref a0_7, .ref a0_8, .ref a0_9, .int a0_10])), (a0_2, .inr (5, [.ref a0_2_0, .ref a0_2_1, .ref a0_2_2, .ref a0_2_3, .ref a0_2_4, .ref a0_2_5, .int a0_2_6, .int a0_2_7])), (a0_2_0, .inl (a0_2_0_c, 24, .inl a0_2_0_f)), (a0_2_1, .inl (a0_2_1_c, 24, .inl a0_2_1_f)), (a0_2_2, .inl (a0_2_2_c, 12, .inr (.inr (.inr (.inr a0_2_2_f))))), (a0_2_3, .inl (a0_2_3_c, 12, .inr (.inr (.inr (.inr a0_2_3_f))))), (a0_6, .inr (0, [.int a0_6_0, .ref a0_6_1, .int a0_6_2, .ref a0_6_3, .int a0_6_4, .ref a0_6_5, .ref a0_6_6, .ref a0_6_7, .int a0_6_8, .ref a0_6_9, .ref a0_6_10, .ref a0_6_11, .ref a0_6_12, .ref a0_6_13])), (a0_6_1, .inl (a0_6_1_c, 8, .inl a0_6_1_f)), (a0_6_3, .inl (a0_6_3_c, 4, .inl a0_6_3_f)), (a0_6_5, .inl (a0_6_5_c, 24, .inl a0_6_5_f)), (a0_6_6, .inl (a0_6_6_c, 24, .inl a0_6_6_f)), (a0_6_7, .inl (a0_6_7_c, 24, .inl a0_6_7_f)), (a0_6_9, .inl (a0_6_9_c, 12, .inl a0_6_9_f)), (a0_6_10, .inl (a0_6_10_c, 12, .inl a0_6_10_f)), (a0_6_11, .inl (a0_6_11_c, 12, .inl a0_6_11_f)), (a0_6_12, .inl (a0_6_12_c, 12, .inr (.inr (.inr (.inr a0_6_12_f))))), (a0_6_13, .inl (a0_6_13_c, 12, .inl a0_6_13_f)), (a0_8, .inr (2, [.ref a0_8_0, .ref a0_8_1, .ref a0_8_2, .ref a0_8_3, .ref a0_8_4, .ref a0_8_5])), (a0_8_0, .inl (a0_8_0_c, 24, .inl a0_8_0_f)), (a0_8_1, .inl (a0_8_1_c, 8, .inl a0_8_1_f)), (a0_8_2, .inl (a0_8_2_c, 12, .inl a0_8_2_f)), (a0_8_3, .inl (a0_8_3_c, 12, .inl a0_8_3_f)), (a0_8_4, .inl (a0_8_4_c, 12, .inr (.inr (.inr (.inr a0_8_4_f))))), (a0_8_5, .inl (a0_8_5_c, 12, .inr (.inr (.inr (.inr a0_8_5_f)))))] : va_W) ++ rows) sz) (([(a0, .inr (7, [.ref a0_0, .ref a0_1, .ref a0_2, .ref a0_3, .ref a0_4, .ref a0_5, .ref a0_6, .ref a0_7, .ref a0_8, .ref a0_9, .int za0_10])), (a0_2, .inr (5, [.ref a0_2_0, .ref a0_2_1, .ref a0_2_2, .ref a0_2_3, .ref a0_2_4, .ref a0_2_5, .int za0_2_6, .int za0_2_7])), (a0_2_0, .inl (a0_2_0_c, 24, .inl za0_2_0_f)), (a0_2_1, .inl (a0_2_1_c, 24, .inl za0_2_1_f)), (a0_2_2, .inl (a0_2_2_c, 12, .inr (.inr (.inr (.inr a0_2_2_f))))), (a0_2_3, .inl (a0_2_3_c, 12, .inr (.inr (.inr (.inr a0_2_3_f))))), (a0_6, .inr (0, [.int a0_6_0, .ref a0_6_1, .int a0_6_2, .ref a0_6_3, .int a0_6_4, .ref a0_6_5, .ref a0_6_6, .ref a0_6_7, .int a0_6_8, .ref a0_6_9, .ref a0_6_10, .ref a0_6_11, .ref a0_6_12, .ref a0_6_13])), (a0_6_1, .inl (a0_6_1_c, 8, .inl a0_6_1_f)), (a0_6_3, .inl (a0_6_3_c, 4, .inl a0_6_3_f)), (a0_6_5, .inl (a0_6_5_c, 24, .inl a0_6_5_f)), (a0_6_6, .inl (a0_6_6_c, 24, .inl a0_6_6_f)), (a0_6_7, .inl (a0_6_7_c, 24, .inl a0_6_7_f)), (a0_6_9, .inl (a0_6_9_c, 12, .inl a0_6_9_f)), (a0_6_10, .inl (a0_6_10_c, 12, .inl a0_6_10_f)), (a0_6_11, .inl (a0_6_11_c, 12, .inl a0_6_11_f)), (a0_6_12, .inl (a0_6_12_c, 12, .inr (.inr (.inr (.inr a0_6_12_f))))), (a0_6_13, .inl (a0_6_13_c, 12, .inl a0_6_13_f)), (a0_8, .inr (2, [.ref a0_8_0, .ref a0_8_1, .ref a0_8_2, .ref a0_8_3, .ref a0_8_4, .ref a0_8_5])), (a0_8_0, .inl (a0_8_0_c, 24, .inl a0_8_0_f)), (a0_8_1, .inl (a0_8_1_c, 8, .inl a0_8_1_f)), (a0_8_2, .inl (a0_8_2_c, 12, .inl a0_8_2_f)), (a0_8_3, .inl (a0_8_3_c, 12, .inl a0_8_3_f)), (a0_8_4, .inl (a0_8_4_c, 12, .inr (.inr (.inr (.inr a0_8_4_f))))), (a0_8_5, .inl (a0_8_5_c, 12, .inr (.inr (.inr (.inr a0_8_5_f)))))] : va_W) ++ zrows)) (va_A (([(a0, .inr (7, [.ref a0_0, .ref a0_1, .ref a0_2, .ref a0_3, .ref a0_4, .ref a0_5, .ref a0_6, .ref a0_7, .ref a0_8, .ref a0_9, .int a0_10])), (a0_2, .inr (5, [.ref a0_2_0, .ref a0_2_1, .ref a0_2_2, .ref a0_2_3, .ref a0_2_4, .ref a0_2_5, .int a0_2_6, .int a0_2_7])), (a0_2_0, .inl (a0_2_0_c, 24, .inl a0_2_0_f)), (a0_2_1, .inl (a0_2_1_c, 24, .inl a0_2_1_f)), (a0_2_2, .inl (a0_2_2_c, 12, .inr (.inr (.inr (.inr a0_2_2_f))))), (a0_2_3, .inl (a0_2_3_c, 12, .inr (.inr (.inr (.inr a0_2_3_f))))), (a0_6, .inr (0, [.int a0_6_0, .ref a0_6_1, .int a0_6_2, .ref a0_6_3, .int a0_6_4, .ref a0_6_5, .ref a0_6_6, .ref a0_6_7, .int a0_6_8, .ref a0_6_9, .ref a0_6_10, .ref a0_6_11, .ref a0_6_12, .ref a0_6_13])), (a0_6_1, .inl (a0_6_1_c, 8, .inl a0_6_1_f)), (a0_6_3, .inl (a0_6_3_c, 4, .inl a0_6_3_f)), (a0_6_5, .inl (a0_6_5_c, 24, .inl a0_6_5_f)), (a0_6_6, .inl (a0_6_6_c, 24, .inl a0_6_6_f)), (a0_6_7, .inl (a0_6_7_c, 24, .inl a0_6_7_f)), (a0_6_9, .inl (a0_6_9_c, 12, .inl a0_6_9_f)), (a0_6_10, .inl (a0_6_10_c, 12, .inl a0_6_10_f)), (a0_6_11, .inl (a0_6_11_c, 12, .inl a0_6_11_f)), (a0_6_12, .inl (a0_6_12_c, 12, .inr (.inr (.inr (.inr a0_6_12_f))))), (a0_6_13, .inl (a0_6_13_c, 12, .inl a0_6_13_f)), (a0_8, .inr (2, [.ref a0_8_0, .ref a0_8_1, .ref a0_8_2, .ref a0_8_3, .ref a0_8_4, .ref a0_8_5])), (a0_8_0, .inl (a0_8_0_c, 24, .inl a0_8_0_f)), (a0_8_1, .inl (a0_8_1_c, 8, .inl a0_8_1_f)), (a0_8_2, .inl (a0_8_2_c, 12, .inl a0_8_2_f)), (a0_8_3, .inl (a0_8_3_c, 12, .inl a0_8_3_f)), (a0_8_4, .inl (a0_8_4_c, 12, .inr (.inr (.inr (.inr a0_8_4_f))))), (a0_8_5, .inl (a0_8_5_c, 12, .inr (.inr (.inr (.inr a0_8_5_f)))))] : va_W) ++ rows) sz)) 0 0 (va_A (([(a0, .inr (7, [.ref a0_0, .ref a0_1, .ref a0_2, .ref a0_3, .ref a0_4, .ref a0_5, .ref a0_6, .ref a0_7, .ref a0_8, .ref a0_9, .int a0_10])), (a0_2, .inr (5, [.ref a0_2_0, .ref a0_2_1, .ref a0_2_2, .ref a0_2_3, .ref a0_2_4, .ref a0_2_5, .int a0_2_6, .int a0_2_7])), (a0_2_0, .inl (a0_2_0_c, 24, .inl a0_2_0_f)), (a0_2_1, .inl (a0_2_1_c, 24, .inl a0_2_1_f)), (a0_2_2, .inl (a0_2_2_c, 12, .inr (.inr (.inr (.inr a0_2_2_f))))), (a0_2_3, .inl (a0_2_3_c, 12, .inr (.inr (.inr (.inr a0_2_3_f))))), (a0_6, .inr (0, [.int a0_6_0, .ref a0_6_1, .int a0_6_2, .ref a0_6_3, .int a0_6_4, .ref a0_6_5, .ref a0_6_6, .ref a0_6_7, .int a0_6_8, .ref a0_6_9, .ref a0_6_10, .ref a0_6_11, .ref a0_6_12, .ref a0_6_13])), (a0_6_1, .inl (a0_6_1_c, 8, .inl a0_6_1_f)), (a0_6_3, .inl (a0_6_3_c, 4, .inl a0_6_3_f)), (a0_6_5, .inl (a0_6_5_c, 24, .inl a0_6_5_f)), (a0_6_6, .inl (a0_6_6_c, 24, .inl a0_6_6_f)), (a0_6_7, .inl (a0_6_7_c, 24, .inl a0_6_7_f)), (a0_6_9, .inl (a0_6_9_c, 12, .inl a0_6_9_f)), (a0_6_10, .inl (a0_6_10_c, 12, .inl a0_6_10_f)), (a0_6_11, .inl (a0_6_11_c, 12, .inl a0_6_11_f)), (a0_6_12, .inl (a0_6_12_c, 12, .inr (.inr (.inr (.inr a0_6_12_f))))), (a0_6_13, .inl (a0_6_13_c, 12, .inl a0_6_13_f)), (a0_8, .inr (2, [.ref a0_8_0, .ref a0_8_1, .ref a0_8_2, .ref a0_8_3, .ref a0_8_4, .ref a0_8_5])), (a0_8_0, .inl (a0_8_0_c, 24, .inl a0_8_0_f)), (a0_8_1, .inl (a0_8_1_c, 8, .inl a0_8_1_f)), (a0_8_2, .inl (a0_8_2_c, 12, .inl a0_8_2_f)), (a0_8_3, .inl (a0_8_3_c, 12, .inl a0_8_3_f)), (a0_8_4, .inl (a0_8_4_c, 12, .inr (.inr (.inr (.inr a0_8_4_f))))), (a0_8_5, .inl (a0_8_5_c, 12, .inr (.inr (.inr (.inr a0_8_5_f)))))] : va_W) ++ rows) sz) := by
  refine Met.ofW (cc := cX8_mustGo) (maxL := 8) (ret := (some .int)) (by decide) rfl ?_
  intro p e s m args below meth c s₁ B hml hv
  obtain ⟨rfl, hsz, hP, hK, hD0, hE⟩ := hv
  have hx := B.exec
  have hb := B.bytes
  have hr := B.returns
  have hts0 := atoms_spec (ws := (.code yX8_mustGo cX8_mustGo 8 (some .int) :: TBL)) B.pre
  have hts := fun (w : Cond) (h : w ∈ TBL) => hts0 w (List.mem_cons_of_mem _ h)
  have hown : s.vm.findClass RX8 = some m.cls := findClass_of_methodNamed B.named
  have hlocks := B.notSynchronized
  have hN := hE.1
  subst hsz
  have hD := hD0.self (sz := s.heap.size)
  generalize hAe : va_A (([(a0, .inr (7, [.ref a0_0, .ref a0_1, .ref a0_2, .ref a0_3, .ref a0_4, .ref a0_5, .ref a0_6, .ref a0_7, .ref a0_8, .ref a0_9, .int a0_10])), (a0_2, .inr (5, [.ref a0_2_0, .ref a0_2_1, .ref a0_2_2, .ref a0_2_3, .ref a0_2_4, .ref a0_2_5, .int a0_2_6, .int a0_2_7])), (a0_2_0, .inl (a0_2_0_c, 24, .inl a0_2_0_f)), (a0_2_1, .inl (a0_2_1_c, 24, .inl a0_2_1_f)), (a0_2_2, .inl (a0_2_2_c, 12, .inr (.inr (.inr (.inr a0_2_2_f))))), (a0_2_3, .inl (a0_2_3_c, 12, .inr (.inr (.inr (.inr a0_2_3_f))))), (a0_6, .inr (0, [.int a0_6_0, .ref a0_6_1, .int a0_6_2, .ref a0_6_3, .int a0_6_4, .ref a0_6_5, .ref a0_6_6, .ref a0_6_7, .int a0_6_8, .ref a0_6_9, .ref a0_6_10, .ref a0_6_11, .ref a0_6_12, .ref a0_6_13])), (a0_6_1, .inl (a0_6_1_c, 8, .inl a0_6_1_f)), (a0_6_3, .inl (a0_6_3_c, 4, .inl a0_6_3_f)), (a0_6_5, .inl (a0_6_5_c, 24, .inl a0_6_5_f)), (a0_6_6, .inl (a0_6_6_c, 24, .inl a0_6_6_f)), (a0_6_7, .inl (a0_6_7_c, 24, .inl a0_6_7_f)), (a0_6_9, .inl (a0_6_9_c, 12, .inl a0_6_9_f)), (a0_6_10, .inl (a0_6_10_c, 12, .inl a0_6_10_f)), (a0_6_11, .inl (a0_6_11_c, 12, .inl a0_6_11_f)), (a0_6_12, .inl (a0_6_12_c, 12, .inr (.inr (.inr (.inr a0_6_12_f))))), (a0_6_13, .inl (a0_6_13_c, 12, .inl a0_6_13_f)), (a0_8, .inr (2, [.ref a0_8_0, .ref a0_8_1, .ref a0_8_2, .ref a0_8_3, .ref a0_8_4, .ref a0_8_5])), (a0_8_0, .inl (a0_8_0_c, 24, .inl a0_8_0_f)), (a0_8_1, .inl (a0_8_1_c, 8, .inl a0_8_1_f)), (a0_8_2, .inl (a0_8_2_c, 12, .inl a0_8_2_f)), (a0_8_3, .inl (a0_8_3_c, 12, .inl a0_8_3_f)), (a0_8_4, .inl (a0_8_4_c, 12, .inr (.inr (.inr (.inr a0_8_4_f))))), (a0_8_5, .inl (a0_8_5_c, 12, .inr (.inr (.inr (.inr a0_8_5_f)))))] : va_W) ++ rows) s.heap.size = A at hD hE ⊢
  have hA : ∀ q : Nat, s.heap.size ≤ q → A q := fun q h => by rw [← hAe]; exact Or.inr h
  have hS : va_S A s.heap s.heap [] := va_S.rf
  replace hP : va_P (dC, dI) vwCl (([(a0, .inr (7, [.ref a0_0, .ref a0_1, .ref a0_2, .ref a0_3, .ref a0_4, .ref a0_5, .ref a0_6, .ref a0_7, .ref a0_8, .ref a0_9, .int a0_10])), (a0_2, .inr (5, [.ref a0_2_0, .ref a0_2_1, .ref a0_2_2, .ref a0_2_3, .ref a0_2_4, .ref a0_2_5, .int a0_2_6, .int a0_2_7])), (a0_2_0, .inl (a0_2_0_c, 24, .inl a0_2_0_f)), (a0_2_1, .inl (a0_2_1_c, 24, .inl a0_2_1_f)), (a0_2_2, .inl (a0_2_2_c, 12, .inr (.inr (.inr (.inr a0_2_2_f))))), (a0_2_3, .inl (a0_2_3_c, 12, .inr (.inr (.inr (.inr a0_2_3_f))))), (a0_6, .inr (0, [.int a0_6_0, .ref a0_6_1, .int a0_6_2, .ref a0_6_3, .int a0_6_4, .ref a0_6_5, .ref a0_6_6, .ref a0_6_7, .int a0_6_8, .ref a0_6_9, .ref a0_6_10, .ref a0_6_11, .ref a0_6_12, .ref a0_6_13])), (a0_6_1, .inl (a0_6_1_c, 8, .inl a0_6_1_f)), (a0_6_3, .inl (a0_6_3_c, 4, .inl a0_6_3_f)), (a0_6_5, .inl (a0_6_5_c, 24, .inl a0_6_5_f)), (a0_6_6, .inl (a0_6_6_c, 24, .inl a0_6_6_f)), (a0_6_7, .inl (a0_6_7_c, 24, .inl a0_6_7_f)), (a0_6_9, .inl (a0_6_9_c, 12, .inl a0_6_9_f)), (a0_6_10, .inl (a0_6_10_c, 12, .inl a0_6_10_f)), (a0_6_11, .inl (a0_6_11_c, 12, .inl a0_6_11_f)), (a0_6_12, .inl (a0_6_12_c, 12, .inr (.inr (.inr (.inr a0_6_12_f))))), (a0_6_13, .inl (a0_6_13_c, 12, .inl a0_6_13_f)), (a0_8, .inr (2, [.ref a0_8_0, .ref a0_8_1, .ref a0_8_2, .ref a0_8_3, .ref a0_8_4, .ref a0_8_5])), (a0_8_0, .inl (a0_8_0_c, 24, .inl a0_8_0_f)), (a0_8_1, .inl (a0_8_1_c, 8, .inl a0_8_1_f)), (a0_8_2, .inl (a0_8_2_c, 12, .inl a0_8_2_f)), (a0_8_3, .inl (a0_8_3_c, 12, .inl a0_8_3_f)), (a0_8_4, .inl (a0_8_4_c, 12, .inr (.inr (.inr (.inr a0_8_4_f))))), (a0_8_5, .inl (a0_8_5_c, 12, .inr (.inr (.inr (.inr a0_8_5_f)))))] : va_W) ++ rows) s.heap := hP
  have hl := lv_entry ([.ref a0, .int a1, .int a2, .int a3]) (n := 8) (Nat.le_of_ble_eq_true rfl)
  rw [lg_entry_eq]
  generalize (lg_sl ([.ref a0, .int a1, .int a2, .int a3]) ++ List.replicate (8 - (lg_sl ([.ref a0, .int a1, .int a2, .int a3])).length) Slot.unset).toArray = ls at hl ⊢
  have hl : lv_has ls 8 [(0, .ref a0), (1, .int a1), (2, .int a2), (3, .int a3)] := hl
  have hK := cyK hK (hts (.arrayClass .int) qw_54) hE.2.2.2.2.2.2.2.2.2.2.2.2.1
  replace hK : va_K (dC, dI) vwCl [(a0_2_0_c, .int), (a0_2_1_c, .int), (a0_2_2_c, .array .int), (a0_2_3_c, .array .int), (a0_6_1_c, .int), (a0_6_3_c, .int), (a0_6_5_c, .int), (a0_6_6_c, .int), (a0_6_7_c, .int), (a0_6_9_c, .int), (a0_6_10_c, .int), (a0_6_11_c, .boolean), (a0_6_12_c, .array .int), (a0_6_13_c, .int), (a0_8_0_c, .int), (a0_8_1_c, .int), (a0_8_2_c, .int), (a0_8_3_c, .int), (a0_8_4_c, .array .int), (a0_8_5_c, .array .int), (g.2.2.2.2.1, .int)] s := hK
  have b_a1 := i32b a1
  have b_a2 := i32b a2
  have b_a3 := i32b a3
  have b_a0_10 := i32b a0_10
  have hRS : RS g.2.2.2.2.1 rows rows := RS.rf
  refine lv_aload_n hx hb dX8_mustGo_0 rfl (lv_at hl 0 rfl) ?_
  refine va_get (D := (dC, dI)) (ci := 7) (v := .ref a0_6) (C := RX8) (T := TX8) (N := 11) hx hb hts inlX8 hown hK hP 0 rgL24_10cdad0 rfl 6 (by decide) (hts (.fieldLink RX8 51 "ClosedUntil" "told" "LClosedUntil$Holdings;") qw_262) (fun _ h9 => h9) rfl dX8_mustGo_1 ?_
  refine lv_iload_n hx hb dX8_mustGo_4 rfl (lv_at hl 1 rfl) ?_
  have hPc := (rgP24_76396e2 hP)
  have hKc := (rgK21_98db583 hK)
  refine vp_callSi ((va_runVN (As := [.int a1]) (rest := []) ⟨hx, hb, hml, hown, hts⟩ (k_X1_hasPiece l dC dI g (a0_6) (a1) (a0_6_0) (a0_6_1) (a0_6_2) (a0_6_3) (a0_6_4) (a0_6_5) (a0_6_6) (a0_6_7) (a0_6_8) (a0_6_9) (a0_6_10) (a0_6_11) (a0_6_12) (a0_6_13) (by omega) (by omega) (by omega) (by omega)) ⟨va_cnB 1 hts (gwC qw_312) rfl rfl rfl (nm_25 hN) (hts (.initialized RX1) qw_183) (by decide +kernel) ⟨Nat.le_of_ble_eq_true rfl, Nat.le_of_ble_eq_true rfl⟩, (hts (.instanceMethod yX1_hasPiece) qw_313), (hts (.selects RX1 yX1_hasPiece yX1_hasPiece) qw_314)⟩ ⟨fun a U g9 mk q => ⟨q.1, q.2.1, va_K.moved (u := U) (U := U.calling g9 mk a) (Vm.Alike.refl U.vm) q.2.2.1, Ev.bl q.2.2.2⟩, va_recv hK hP (ci := 0) (q0 := 6) rfl rgL24_1681731, fun U hU hW => ⟨rfl, atB hU hPc, va_K.moved hW.alike hKc, hE.go hS (fun _ h => h.elim) hU hW⟩⟩ rfl rfl hl.1 rfl (lv_room (Nat.le_of_ble_eq_true rfl)) dX8_mustGo_5 ⟨Nat.le_of_ble_eq_true rfl, Nat.le_of_ble_eq_true rfl⟩)).run (fun r1 h_r1 => ?_)
  have h_r1 : (r1 = 0 ∨ r1 = 1) ∧ ((r1.toInt = 1 ∧ 0 ≤ a1.toInt ∧ a1.toInt < a0_6_4.toInt) ∨ r1.toInt = 0) := h_r1
  have b_r1 := z01 (show r1 = 0 ∨ r1 = 1 from h_r1.1)
  refine lv_if_eq (tgt := 25) hx hb dX8_mustGo_8 (by decide) (fun c8_2 => ?_) (fun c8_2 => ?_)
  · have c8_2 : r1.toInt = 0 := (cv_eq rfl (by decide)).mp c8_2
    refine lv_iconst (v := (-1)) hx hb dX8_mustGo_25 (by decide) ?_
    have qcm1 : ((-1) : Int32).toInt = (-1) := by decide
    refine W.widen (k := 0) (n := 0) (Nat.le_of_ble_eq_true rfl) (Nat.le_of_ble_eq_true rfl) ?_
    have hP9 := hP
    have hD9 := hD
    have hK9 := (rgK21_98db583 hK)
    have hf9_0 : (0 ≤ a0_2_6.toInt ∧ a0_2_6.toInt ≤ 24) := by omega
    have hf9_1 : (0 ≤ a0_2_7.toInt ∧ a0_2_7.toInt ≤ 12) := by omega
    have hf9_2 : RS g.2.2.2.2.1 rows rows := hRS
    exact W.iret (v := (-1)) hx hb hr (fun t ht hW => ⟨⟨(-1), (-1), rfl, rfl, a0_10, a0_2_6, a0_2_7, a0_2_0_f, a0_2_1_f, rows, hf9_0, hf9_1, hf9_2, atB ht hP9, va_K.moved hW.alike hK9, hD9⟩, hS.F ht⟩) hS.2.2 dX8_mustGo_26
  · have c8_2 : ¬ (r1.toInt = 0) := mt (cv_eq rfl (by decide)).mpr c8_2
    refine lv_iload_n hx hb dX8_mustGo_11 rfl (lv_at hl 2 rfl) ?_
    have hPc := (rgP24_c46fd41 hP)
    have hKc := (rgK21_98db583 hK)
    refine vp_callSi ((va_runS (As := [.int a2]) (rest := []) ⟨hx, hb, hml, hown, hts⟩ (k_X8_isDayOrLate l dC dI g (a2) ) (va_cwS 1 hts (gwS qw_260 qw_261 qw_28 qw_259) rfl rfl rfl (by decide +kernel) ⟨Nat.le_of_ble_eq_true rfl, Nat.le_of_ble_eq_true rfl⟩) ⟨fun a U g9 mk q => ⟨q.1, q.2.1, va_K.moved (u := U) (U := U.calling g9 mk a) (Vm.Alike.refl U.vm) q.2.2.1, Ev.bl q.2.2.2⟩, fun U hU hW => ⟨rfl, atB hU hPc, va_K.moved hW.alike hKc, hE.go hS (fun _ h => h.elim) hU hW⟩⟩ rfl rfl hl.1 rfl (lv_room (Nat.le_of_ble_eq_true rfl)) dX8_mustGo_12 ⟨Nat.le_of_ble_eq_true rfl, Nat.le_of_ble_eq_true rfl⟩)).run (fun r3 h_r3 => ?_)
    have h_r3 : (r3 = 0 ∨ r3 = 1) := h_r3
    have b_r3 := z01 (show r3 = 0 ∨ r3 = 1 from h_r3)
    refine lv_if_eq (tgt := 25) hx hb dX8_mustGo_15 (by decide) (fun c15_4 => ?_) (fun c15_4 => ?_)
    · have c15_4 : r3.toInt = 0 := (cv_eq rfl (by decide)).mp c15_4
      refine lv_iconst (v := (-1)) hx hb dX8_mustGo_25 (by decide) ?_
      have qcm1 : ((-1) : Int32).toInt = (-1) := by decide
      refine W.widen (k := 0) (n := 0) (Nat.le_of_ble_eq_true rfl) (Nat.le_of_ble_eq_true rfl) ?_
      have hP9 := hP
      have hD9 := hD
      have hK9 := (rgK21_98db583 hK)
      have hf9_0 : (0 ≤ a0_2_6.toInt ∧ a0_2_6.toInt ≤ 24) := by omega
      have hf9_1 : (0 ≤ a0_2_7.toInt ∧ a0_2_7.toInt ≤ 12) := by omega
      have hf9_2 : RS g.2.2.2.2.1 rows rows := hRS
      exact W.iret (v := (-1)) hx hb hr (fun t ht hW => ⟨⟨(-1), (-1), rfl, rfl, a0_10, a0_2_6, a0_2_7, a0_2_0_f, a0_2_1_f, rows, hf9_0, hf9_1, hf9_2, atB ht hP9, va_K.moved hW.alike hK9, hD9⟩, hS.F ht⟩) hS.2.2 dX8_mustGo_26
    · have c15_4 : ¬ (r3.toInt = 0) := mt (cv_eq rfl (by decide)).mpr c15_4
      refine lv_iload_n hx hb dX8_mustGo_18 rfl (lv_at hl 3 rfl) ?_
      have hPc := (rgP24_c46fd41 hP)
      have hKc := (rgK21_98db583 hK)
      refine vp_callSi ((va_runS (As := [.int a3]) (rest := []) ⟨hx, hb, hml, hown, hts⟩ (k_X8_areReaders l dC dI g (a3) ) (va_cwS 1 hts (gwS qw_326 qw_327 qw_28 qw_325) rfl rfl rfl (by decide +kernel) ⟨Nat.le_of_ble_eq_true rfl, Nat.le_of_ble_eq_true rfl⟩) ⟨fun a U g9 mk q => ⟨q.1, q.2.1, va_K.moved (u := U) (U := U.calling g9 mk a) (Vm.Alike.refl U.vm) q.2.2.1, Ev.bl q.2.2.2⟩, fun U hU hW => ⟨rfl, atB hU hPc, va_K.moved hW.alike hKc, hE.go hS (fun _ h => h.elim) hU hW⟩⟩ rfl rfl hl.1 rfl (lv_room (Nat.le_of_ble_eq_true rfl)) dX8_mustGo_19 ⟨Nat.le_of_ble_eq_true rfl, Nat.le_of_ble_eq_true rfl⟩)).run (fun r5 h_r5 => ?_)
      have h_r5 : (r5 = 0 ∨ r5 = 1) := h_r5
      have b_r5 := z01 (show r5 = 0 ∨ r5 = 1 from h_r5)
      refine lv_if_ne (tgt := 27) hx hb dX8_mustGo_22 (by decide) (fun c22_6 => ?_) (fun c22_6 => ?_)
      · have c22_6 : ¬ (r5.toInt = 0) := mt (cv_eq rfl (by decide)).mpr c22_6
        refine lv_aload_n hx hb dX8_mustGo_27 rfl (lv_at hl 0 rfl) ?_
        have hPc := hP
        have hKc := (rgK21_94c7792 hK)
        have hDc := hD
        have hFc := freeW hDc hS hA
        refine va_callr (va_runV (As := []) (rest := []) ⟨hx, hb, hml, hown, hts⟩ (k_X8_upToDate l dC dI g s.heap.size (a0) (a0_0) (a0_1) (a0_2) (a0_3) (a0_4) (a0_5) (a0_6) (a0_7) (a0_8) (a0_9) (a0_10) (a0_2_0) (a0_2_1) (a0_2_2) (a0_2_3) (a0_2_4) (a0_2_5) (a0_2_6) (a0_2_7) (a0_2_0_c) (a0_2_0_f) (a0_2_1_c) (a0_2_1_f) (a0_2_2_c) (a0_2_2_f) (a0_2_3_c) (a0_2_3_f) (a0_6_0) (a0_6_1) (a0_6_2) (a0_6_3) (a0_6_4) (a0_6_5) (a0_6_6) (a0_6_7) (a0_6_8) (a0_6_9) (a0_6_10) (a0_6_11) (a0_6_12) (a0_6_13) (a0_6_1_c) (a0_6_1_f) (a0_6_3_c) (a0_6_3_f) (a0_6_5_c) (a0_6_5_f) (a0_6_6_c) (a0_6_6_f) (a0_6_7_c) (a0_6_7_f) (a0_6_9_c) (a0_6_9_f) (a0_6_10_c) (a0_6_10_f) (a0_6_11_c) (a0_6_11_f) (a0_6_12_c) (a0_6_12_f) (a0_6_13_c) (a0_6_13_f) (a0_8_0) (a0_8_1) (a0_8_2) (a0_8_3) (a0_8_4) (a0_8_5) (a0_8_0_c) (a0_8_0_f) (a0_8_1_c) (a0_8_1_f) (a0_8_2_c) (a0_8_2_f) (a0_8_3_c) (a0_8_3_f) (a0_8_4_c) (a0_8_4_f) (a0_8_5_c) (a0_8_5_f) (rows) (by omega) (by omega) (RS.gr hRS h_a0_2_2_f) (RS.gr hRS h_a0_2_3_f) (by omega) (by omega) (by omega) (by omega) (RS.gr hRS h_a0_6_12_f) h_a0_8_3_f (RS.gr hRS h_a0_8_4_f) (RS.gr hRS h_a0_8_5_f) (by assumption)) (cwV 0 hts (gwV qw_316 qw_317 qw_318 qw_28 qw_315) rfl rfl rfl (by decide +kernel) ⟨Nat.le_of_ble_eq_true rfl, Nat.le_of_ble_eq_true rfl⟩) ⟨fun a U g9 mk q => ⟨q.1, q.2.1, q.2.2.1, va_K.moved (u := U) (U := U.calling g9 mk a) (Vm.Alike.refl U.vm) q.2.2.2.1, q.2.2.2.2.1, Ev.bl q.2.2.2.2.2⟩, va_recv hK hP (ci := 7) (q0 := 0) rfl rgL24_10cdad0, fun U hU hW => ⟨rfl, by rw [hU], atB hU hPc, va_K.moved hW.alike hKc, hDc.weaken (fun _ _ _ _ => trivial), hE.go hS hFc hU hW⟩⟩ rfl rfl hl.1 rfl (lv_room (Nat.le_of_ble_eq_true rfl)) dX8_mustGo_28 ⟨Nat.le_of_ble_eq_true rfl, Nat.le_of_ble_eq_true rfl⟩) hS (fun q _ h => hFc q h) hFc (fun u7 r8 t H1 locs ht hvm h_u7 hB hz1 hk1 hS => ?_)
        obtain ⟨hrr, za0_10_9, za0_2_6_10, za0_2_7_11, za0_2_0_f_12, za0_2_1_f_13, zrows_14, hF15, hF16, hF17, hP1, hK1, hD1⟩ := hB
        have hK1 := va_K.moved hvm.symm hK1
        have hJ9 := rgJ24_e25e203 hP hD hk1 hFc (atH ht hP1) hD1
        clear hP hD hPc hKc hDc hFc hP1 hD1 hk1 hz1
        obtain ⟨hP, hD⟩ := hJ9
        clear hK1
        generalize H1 = H at hP hS ⊢
        refine W.widen (k := 0) (n := 0) (Nat.le_of_ble_eq_true rfl) (Nat.le_of_ble_eq_true rfl) ?_
        refine topv (w := .ref a0_2) (by rw [hrr]) ?_
        have hRS := RS.tr hRS hF17
        refine lv_astore (lv' := [(4, .ref a0_2), (0, .ref a0), (1, .int a1), (2, .int a2), (3, .int a3)]) hx hb dX8_mustGo_31 hl (by decide) rfl (fun ls hl => ?_)
        refine lv_aload_n hx hb dX8_mustGo_33 rfl (lv_at hl 1 rfl) ?_
        refine va_get (D := (dC, dI)) (ci := 7) (v := .ref a0_6) (C := RX8) (T := TX8) (N := 11) hx hb hts inlX8 hown hK hP 0 rgL24_10cdad0 rfl 6 (by decide) (hts (.fieldLink RX8 51 "ClosedUntil" "told" "LClosedUntil$Holdings;") qw_262) (fun _ h9 => h9) rfl dX8_mustGo_34 ?_
        refine lv_iload_n hx hb dX8_mustGo_37 rfl (lv_at hl 4 rfl) ?_
        have hPc := (rgP24_0696254 hP)
        have hKc := (rgK21_2220a6b hK)
        refine vp_callSi ((va_runVN (As := [.int a3]) (rest := []) ⟨hx, hb, hml, hown, hts⟩ (k_X1_holdingFor l dC dI g (a0_6) (a3) (a0_6_0) (a0_6_1) (a0_6_2) (a0_6_3) (a0_6_4) (a0_6_5) (a0_6_6) (a0_6_7) (a0_6_8) (a0_6_9) (a0_6_10) (a0_6_11) (a0_6_12) (a0_6_13) (a0_6_9_c) (a0_6_9_f) (by omega) (by omega) (by omega) (by omega)) ⟨va_cnB 1 hts (gwC qw_328) rfl rfl rfl (nm_36 hN) (hts (.initialized RX1) qw_183) (by decide +kernel) ⟨Nat.le_of_ble_eq_true rfl, Nat.le_of_ble_eq_true rfl⟩, (hts (.instanceMethod yX1_holdingFor) qw_329), (hts (.selects RX1 yX1_holdingFor yX1_holdingFor) qw_330)⟩ ⟨fun a U g9 mk q => ⟨q.1, q.2.1, va_K.moved (u := U) (U := U.calling g9 mk a) (Vm.Alike.refl U.vm) q.2.2.1, Ev.bl q.2.2.2⟩, va_recv hK hP (ci := 0) (q0 := 6) rfl rgL24_1681731, fun U hU hW => ⟨rfl, atB hU hPc, va_K.moved hW.alike hKc, hE.go hS (fun _ h => h.elim) hU hW⟩⟩ rfl rfl hl.1 rfl (lv_room (Nat.le_of_ble_eq_true rfl)) dX8_mustGo_38 ⟨Nat.le_of_ble_eq_true rfl, Nat.le_of_ble_eq_true rfl⟩)).run (fun r18 h_r18 => ?_)
        have b_r18 := i32b r18
        refine lv_istore (lv' := [(5, .int r18), (4, .ref a0_2), (0, .ref a0), (1, .int a1), (2, .int a2), (3, .int a3)]) hx hb dX8_mustGo_41 hl (by decide) rfl (fun ls hl => ?_)
        refine lv_iconst (v := 0) hx hb dX8_mustGo_43 (by decide) ?_
        refine lv_istore (lv' := [(6, .int 0), (5, .int r18), (4, .ref a0_2), (0, .ref a0), (1, .int a1), (2, .int a2), (3, .int a3)]) hx hb dX8_mustGo_44 hl (by decide) rfl (fun ls hl => ?_)
        refine lv_iconst (v := 0) hx hb dX8_mustGo_46 (by decide) ?_
        refine lv_istore (lv' := [(7, .int 0), (6, .int 0), (5, .int r18), (4, .ref a0_2), (0, .ref a0), (1, .int a1), (2, .int a2), (3, .int a3)]) hx hb dX8_mustGo_47 hl (by decide) rfl (fun ls hl => ?_)
        have qc0 : (0 : Int32).toInt = 0 := by decide
        refine wloop (fun n H locs ls => ∃ (l49_7 : Int32) (l49_6 : Int32), n = (2147483647 - l49_7.toInt).toNat ∧ (0 ≤ l49_7.toInt) ∧ lv_has ls 8 [(7, .int l49_7), (6, .int l49_6), (5, .int r18), (4, .ref a0_2), (0, .ref a0), (1, .int a1), (2, .int a2), (3, .int a3)] ∧ va_P (dC, dI) vwCl (([(a0, .inr (7, [.ref a0_0, .ref a0_1, .ref a0_2, .ref a0_3, .ref a0_4, .ref a0_5, .ref a0_6, .ref a0_7, .ref a0_8, .ref a0_9, .int za0_10_9])), (a0_2, .inr (5, [.ref a0_2_0, .ref a0_2_1, .ref a0_2_2, .ref a0_2_3, .ref a0_2_4, .ref a0_2_5, .int za0_2_6_10, .int za0_2_7_11])), (a0_2_0, .inl (a0_2_0_c, 24, .inl za0_2_0_f_12)), (a0_2_1, .inl (a0_2_1_c, 24, .inl za0_2_1_f_13)), (a0_2_2, .inl (a0_2_2_c, 12, .inr (.inr (.inr (.inr a0_2_2_f))))), (a0_2_3, .inl (a0_2_3_c, 12, .inr (.inr (.inr (.inr a0_2_3_f))))), (a0_6, .inr (0, [.int a0_6_0, .ref a0_6_1, .int a0_6_2, .ref a0_6_3, .int a0_6_4, .ref a0_6_5, .ref a0_6_6, .ref a0_6_7, .int a0_6_8, .ref a0_6_9, .ref a0_6_10, .ref a0_6_11, .ref a0_6_12, .ref a0_6_13])), (a0_6_1, .inl (a0_6_1_c, 8, .inl a0_6_1_f)), (a0_6_3, .inl (a0_6_3_c, 4, .inl a0_6_3_f)), (a0_6_5, .inl (a0_6_5_c, 24, .inl a0_6_5_f)), (a0_6_6, .inl (a0_6_6_c, 24, .inl a0_6_6_f)), (a0_6_7, .inl (a0_6_7_c, 24, .inl a0_6_7_f)), (a0_6_9, .inl (a0_6_9_c, 12, .inl a0_6_9_f)), (a0_6_10, .inl (a0_6_10_c, 12, .inl a0_6_10_f)), (a0_6_11, .inl (a0_6_11_c, 12, .inl a0_6_11_f)), (a0_6_12, .inl (a0_6_12_c, 12, .inr (.inr (.inr (.inr a0_6_12_f))))), (a0_6_13, .inl (a0_6_13_c, 12, .inl a0_6_13_f)), (a0_8, .inr (2, [.ref a0_8_0, .ref a0_8_1, .ref a0_8_2, .ref a0_8_3, .ref a0_8_4, .ref a0_8_5])), (a0_8_0, .inl (a0_8_0_c, 24, .inl a0_8_0_f)), (a0_8_1, .inl (a0_8_1_c, 8, .inl a0_8_1_f)), (a0_8_2, .inl (a0_8_2_c, 12, .inl a0_8_2_f)), (a0_8_3, .inl (a0_8_3_c, 12, .inl a0_8_3_f)), (a0_8_4, .inl (a0_8_4_c, 12, .inr (.inr (.inr (.inr a0_8_4_f))))), (a0_8_5, .inl (a0_8_5_c, 12, .inr (.inr (.inr (.inr a0_8_5_f)))))] : va_W) ++ zrows_14) H ∧ va_D A (([(a0, .inr (7, [.ref a0_0, .ref a0_1, .ref a0_2, .ref a0_3, .ref a0_4, .ref a0_5, .ref a0_6, .ref a0_7, .ref a0_8, .ref a0_9, .int za0_10_9])), (a0_2, .inr (5, [.ref a0_2_0, .ref a0_2_1, .ref a0_2_2, .ref a0_2_3, .ref a0_2_4, .ref a0_2_5, .int za0_2_6_10, .int za0_2_7_11])), (a0_2_0, .inl (a0_2_0_c, 24, .inl za0_2_0_f_12)), (a0_2_1, .inl (a0_2_1_c, 24, .inl za0_2_1_f_13)), (a0_2_2, .inl (a0_2_2_c, 12, .inr (.inr (.inr (.inr a0_2_2_f))))), (a0_2_3, .inl (a0_2_3_c, 12, .inr (.inr (.inr (.inr a0_2_3_f))))), (a0_6, .inr (0, [.int a0_6_0, .ref a0_6_1, .int a0_6_2, .ref a0_6_3, .int a0_6_4, .ref a0_6_5, .ref a0_6_6, .ref a0_6_7, .int a0_6_8, .ref a0_6_9, .ref a0_6_10, .ref a0_6_11, .ref a0_6_12, .ref a0_6_13])), (a0_6_1, .inl (a0_6_1_c, 8, .inl a0_6_1_f)), (a0_6_3, .inl (a0_6_3_c, 4, .inl a0_6_3_f)), (a0_6_5, .inl (a0_6_5_c, 24, .inl a0_6_5_f)), (a0_6_6, .inl (a0_6_6_c, 24, .inl a0_6_6_f)), (a0_6_7, .inl (a0_6_7_c, 24, .inl a0_6_7_f)), (a0_6_9, .inl (a0_6_9_c, 12, .inl a0_6_9_f)), (a0_6_10, .inl (a0_6_10_c, 12, .inl a0_6_10_f)), (a0_6_11, .inl (a0_6_11_c, 12, .inl a0_6_11_f)), (a0_6_12, .inl (a0_6_12_c, 12, .inr (.inr (.inr (.inr a0_6_12_f))))), (a0_6_13, .inl (a0_6_13_c, 12, .inl a0_6_13_f)), (a0_8, .inr (2, [.ref a0_8_0, .ref a0_8_1, .ref a0_8_2, .ref a0_8_3, .ref a0_8_4, .ref a0_8_5])), (a0_8_0, .inl (a0_8_0_c, 24, .inl a0_8_0_f)), (a0_8_1, .inl (a0_8_1_c, 8, .inl a0_8_1_f)), (a0_8_2, .inl (a0_8_2_c, 12, .inl a0_8_2_f)), (a0_8_3, .inl (a0_8_3_c, 12, .inl a0_8_3_f)), (a0_8_4, .inl (a0_8_4_c, 12, .inr (.inr (.inr (.inr a0_8_4_f))))), (a0_8_5, .inl (a0_8_5_c, 12, .inr (.inr (.inr (.inr a0_8_5_f)))))] : va_W) ++ zrows_14) ∧ va_S A s.heap H locs) ?_ ((2147483647 - (0 : Int32).toInt).toNat) _ _ _ ⟨0, 0, rfl, (by omega), lv_sub hl [0, 1, 2, 3, 4, 5, 6, 7] rfl, hP, hD, hS⟩
        intro n49 H locs ls hI ih49
        obtain ⟨l49_7, l49_6, hn49, g_l49_7, hl, hP, hD, hS⟩ := hI
        have b_l49_7 := i32b l49_7
        have b_l49_6 := i32b l49_6
        refine lv_iload hx hb dX8_mustGo_49 (lv_at hl 0 rfl) ?_
        refine lv_aload_n hx hb dX8_mustGo_51 rfl (lv_at hl 4 rfl) ?_
        refine va_get (D := (dC, dI)) (ci := 7) (v := .ref a0_6) (C := RX8) (T := TX8) (N := 11) hx hb hts inlX8 hown hK hP 0 rgL24_10cdad0 rfl 6 (by decide) (hts (.fieldLink RX8 51 "ClosedUntil" "told" "LClosedUntil$Holdings;") qw_262) (fun _ h9 => h9) rfl dX8_mustGo_52 ?_
        refine va_getN (D := (dC, dI)) (ci := 0) (v := .int a0_6_4) (C := RX1) (T := TX1) (N := 14) hx hb hts inlX1 hown hK hP 6 rgL24_1681731 rfl 4 (by decide) (va_Nw.use rfl (nf_37 hN)) (fun _ h9 => h9) rfl dX8_mustGo_55 ?_
        refine lv_icmp_ge (tgt := 97) hx hb dX8_mustGo_58 (by decide) (fun c58_19 => ?_) (fun c58_19 => ?_)
        · have c58_19 : a0_6_4.toInt ≤ l49_7.toInt := (cv_le rfl rfl).mp c58_19
          refine lv_iload hx hb dX8_mustGo_97 (lv_at hl 1 rfl) ?_
          refine W.widen (k := 0) (n := 0) (Nat.le_of_ble_eq_true rfl) (Nat.le_of_ble_eq_true rfl) ?_
          have hP9 := hP
          have hD9 := hD
          have hK9 := (rgK21_98db583 hK)
          have hf9_0 : (0 ≤ za0_2_6_10.toInt ∧ za0_2_6_10.toInt ≤ 24) := by omega
          have hf9_1 : (0 ≤ za0_2_7_11.toInt ∧ za0_2_7_11.toInt ≤ 12) := by omega
          have hf9_2 : RS g.2.2.2.2.1 rows zrows_14 := hRS
          exact W.iret (v := l49_6) hx hb hr (fun t ht hW => ⟨⟨l49_6, l49_6, rfl, rfl, za0_10_9, za0_2_6_10, za0_2_7_11, za0_2_0_f_12, za0_2_1_f_13, zrows_14, hf9_0, hf9_1, hf9_2, atB ht hP9, va_K.moved hW.alike hK9, hD9⟩, hS.F ht⟩) hS.2.2 dX8_mustGo_99
        · have c58_19 : ¬ (a0_6_4.toInt ≤ l49_7.toInt) := mt (cv_le rfl rfl).mpr c58_19
          refine lv_aload hx hb dX8_mustGo_61 (lv_at hl 3 rfl) ?_
          refine va_getN (D := (dC, dI)) (ci := 5) (v := .ref a0_2_0) (C := RX6) (T := TX6) (N := 8) hx hb hts inlX6 hown hK hP 1 rgL24_436a872 rfl 0 (by decide) (va_Nw.use rfl (nf_6 hN)) (fun _ h9 => h9) rfl dX8_mustGo_63 ?_
          refine lv_iload_n hx hb dX8_mustGo_66 rfl (lv_at hl 5 rfl) ?_
          refine va_iald hx hb hK hP 2 0 rgL24_66dbb44 rgT21_601c03f (vinI (by omega) (by omega)) dX8_mustGo_67 ?_
          refine lv_topi (fun x20 e_x20 => ?_)
          have b_x20 := i32b x20
          refine lv_iload hx hb dX8_mustGo_68 (lv_at hl 0 rfl) ?_
          have hPc := (rgP24_c46fd41 hP)
          have hKc := (rgK21_98db583 hK)
          refine vp_callSi ((va_runS (As := [.int x20, .int l49_7]) (rest := []) ⟨hx, hb, hml, hown, hts⟩ (k_X8_hasBit l dC dI g (x20) (l49_7) ) (va_cwS 2 hts (gwS qw_331 qw_29 qw_28 qw_27) rfl rfl rfl (by decide +kernel) ⟨Nat.le_of_ble_eq_true rfl, Nat.le_of_ble_eq_true rfl⟩) ⟨fun a U g9 mk q => ⟨q.1, q.2.1, va_K.moved (u := U) (U := U.calling g9 mk a) (Vm.Alike.refl U.vm) q.2.2.1, Ev.bl q.2.2.2⟩, fun U hU hW => ⟨rfl, atB hU hPc, va_K.moved hW.alike hKc, hE.go hS (fun _ h => h.elim) hU hW⟩⟩ rfl rfl hl.1 rfl (lv_room (Nat.le_of_ble_eq_true rfl)) dX8_mustGo_70 ⟨Nat.le_of_ble_eq_true rfl, Nat.le_of_ble_eq_true rfl⟩)).run (fun r21 h_r21 => ?_)
          have h_r21 : (r21 = 0 ∨ r21 = 1) := h_r21
          have b_r21 := z01 (show r21 = 0 ∨ r21 = 1 from h_r21)
          refine lv_if_eq (tgt := 91) hx hb dX8_mustGo_73 (by decide) (fun c73_22 => ?_) (fun c73_22 => ?_)
          · have c73_22 : r21.toInt = 0 := (cv_eq rfl (by decide)).mp c73_22
            obtain ⟨x23, e_x23⟩ : ∃ y : Int32, y = l49_7 + 1 := ⟨_, rfl⟩
            refine lv_iinc (v := x23) (lv' := [(7, .int x23), (6, .int l49_6), (5, .int r18), (4, .ref a0_2), (0, .ref a0), (1, .int a1), (2, .int a2), (3, .int a3)]) hx hb dX8_mustGo_91 hl (k := 0) rfl (by rw [e_x23]; rfl) (by decide) rfl (fun ls hl => ?_)
            try have e_x23 := ti_add e_x23 rfl (show (1 : Int32).toInt = 1 by decide) (by omega)
            refine lv_goto (tgt := 49) hx hb dX8_mustGo_94 (by decide) ?_
            exact ih49 ((2147483647 - x23.toInt).toNat) _ _ _ (by omega) ⟨x23, l49_6, rfl, (by omega), lv_sub hl [0, 1, 2, 3, 4, 5, 6, 7] rfl, hP, hD, hS⟩
          · have c73_22 : ¬ (r21.toInt = 0) := mt (cv_eq rfl (by decide)).mpr c73_22
            refine lv_iload hx hb dX8_mustGo_76 (lv_at hl 1 rfl) ?_
            refine lv_aload hx hb dX8_mustGo_78 (lv_at hl 3 rfl) ?_
            refine lv_iload hx hb dX8_mustGo_80 (lv_at hl 0 rfl) ?_
            refine lv_iload_n hx hb dX8_mustGo_82 rfl (lv_at hl 6 rfl) ?_
            refine lv_iload hx hb dX8_mustGo_83 (lv_at hl 2 rfl) ?_
            have hPc := (rgP24_69b5983 hP)
            have hKc := (rgK21_ffbac61 hK)
            refine vp_callSi ((va_runVN (As := [.int l49_7, .int a2, .int r18]) (rest := [.int l49_6]) ⟨hx, hb, hml, hown, hts⟩ (k_X6_closersOf l dC dI g (a0_2) (l49_7) (a2) (r18) (a0_2_0) (a0_2_1) (a0_2_2) (a0_2_3) (a0_2_4) (a0_2_5) (za0_2_6_10) (za0_2_7_11) (a0_2_3_c) (a0_2_3_f) (zrows_14) (by omega) (by omega) (RS.gr hRS h_a0_2_3_f) (by omega)) ⟨va_cnB 3 hts (gwC qw_149) rfl rfl rfl (nm_39 hN) (hts (.initialized RX6) qw_133) (by decide +kernel) ⟨Nat.le_of_ble_eq_true rfl, Nat.le_of_ble_eq_true rfl⟩, (hts (.instanceMethod yX6_closersOf) qw_151), (hts (.selects RX6 yX6_closersOf yX6_closersOf) qw_152)⟩ ⟨fun a U g9 mk q => ⟨q.1, q.2.1, va_K.moved (u := U) (U := U.calling g9 mk a) (Vm.Alike.refl U.vm) q.2.2.1, Ev.bl q.2.2.2⟩, va_recv hK hP (ci := 5) (q0 := 1) rfl rgL24_436a872, fun U hU hW => ⟨rfl, atB hU hPc, va_K.moved hW.alike hKc, hE.go hS (fun _ h => h.elim) hU hW⟩⟩ rfl rfl hl.1 rfl (lv_room (Nat.le_of_ble_eq_true rfl)) dX8_mustGo_85 ⟨Nat.le_of_ble_eq_true rfl, Nat.le_of_ble_eq_true rfl⟩)).run (fun r24 h_r24 => ?_)
            have b_r24 := i32b r24
            refine lv_ior hx hb dX8_mustGo_88 ?_
            refine lv_topi (fun x25 e_x25 => ?_)
            refine lv_istore (lv' := [(6, .int x25), (7, .int l49_7), (5, .int r18), (4, .ref a0_2), (0, .ref a0), (1, .int a1), (2, .int a2), (3, .int a3)]) hx hb dX8_mustGo_89 hl (by decide) rfl (fun ls hl => ?_)
            obtain ⟨x26, e_x26⟩ : ∃ y : Int32, y = l49_7 + 1 := ⟨_, rfl⟩
            refine lv_iinc (v := x26) (lv' := [(7, .int x26), (6, .int x25), (5, .int r18), (4, .ref a0_2), (0, .ref a0), (1, .int a1), (2, .int a2), (3, .int a3)]) hx hb dX8_mustGo_91 hl (k := 1) rfl (by rw [e_x26]; rfl) (by decide) rfl (fun ls hl => ?_)
            try have e_x26 := ti_add e_x26 rfl (show (1 : Int32).toInt = 1 by decide) (by omega)
            refine lv_goto (tgt := 49) hx hb dX8_mustGo_94 (by decide) ?_
            exact ih49 ((2147483647 - x26.toInt).toNat) _ _ _ (by omega) ⟨x26, x25, rfl, (by omega), lv_sub hl [0, 1, 2, 3, 4, 5, 6, 7] rfl, hP, hD, hS⟩
      · have c22_6 : r5.toInt = 0 := (cv_eq rfl (by decide)).mp c22_6
        refine lv_iconst (v := (-1)) hx hb dX8_mustGo_25 (by decide) ?_
        have qcm1 : ((-1) : Int32).toInt = (-1) := by decide
        refine W.widen (k := 0) (n := 0) (Nat.le_of_ble_eq_true rfl) (Nat.le_of_ble_eq_true rfl) ?_
        have hP9 := hP
        have hD9 := hD
        have hK9 := (rgK21_98db583 hK)
        have hf9_0 : (0 ≤ a0_2_6.toInt ∧ a0_2_6.toInt ≤ 24) := by omega
        have hf9_1 : (0 ≤ a0_2_7.toInt ∧ a0_2_7.toInt ≤ 12) := by omega
        have hf9_2 : RS g.2.2.2.2.1 rows rows := hRS
        exact W.iret (v := (-1)) hx hb hr (fun t ht hW => ⟨⟨(-1), (-1), rfl, rfl, a0_10, a0_2_6, a0_2_7, a0_2_0_f, a0_2_1_f, rows, hf9_0, hf9_1, hf9_2, atB ht hP9, va_K.moved hW.alike hK9, hD9⟩, hS.F ht⟩) hS.2.2 dX8_mustGo_26
set_option maxHeartbeats 4000000 in
set_option maxRecDepth 100000 in
theorem k_X8_best (l : Launch) (dC : Nat → ClassId) (dI : Nat → Nat → Nat) (g : Gv) (sz : Nat) (a0 : Nat) (a1 : Int32) (a2 : Int32) (a3 : Int32) (a0_0 : Nat) (a0_1 : Nat) (a0_2 : Nat) (a0_3 : Nat) (a0_4 : Nat) (a0_5 : Nat) (a0_6 : Nat) (a0_7 : Nat) (a0_8 : Nat) (a0_9 : Nat) (a0_10 : Int32) (a0_2_0 : Nat) (a0_2_1 : Nat) (a0_2_2 : Nat) (a0_2_3 : Nat) (a0_2_4 : Nat) (a0_2_5 : Nat) (a0_2_6 : Int32) (a0_2_7 : Int32) (a0_2_0_c : ClassId) (a0_2_0_f : Nat → Int32) (a0_2_1_c : ClassId) (a0_2_1_f : Nat → Int32) (a0_2_2_c : ClassId) (a0_2_2_f : Nat → Option Nat) (a0_2_3_c : ClassId) (a0_2_3_f : Nat → Option Nat) (a0_2_4_c : ClassId) (a0_2_4_f : Nat → Int32) (a0_6_0 : Int32) (a0_6_1 : Nat) (a0_6_2 : Int32) (a0_6_3 : Nat) (a0_6_4 : Int32) (a0_6_5 : Nat) (a0_6_6 : Nat) (a0_6_7 : Nat) (a0_6_8 : Int32) (a0_6_9 : Nat) (a0_6_10 : Nat) (a0_6_11 : Nat) (a0_6_12 : Nat) (a0_6_13 : Nat) (a0_6_1_c : ClassId) (a0_6_1_f : Nat → Int32) (a0_6_3_c : ClassId) (a0_6_3_f : Nat → Int32) (a0_6_5_c : ClassId) (a0_6_5_f : Nat → Int32) (a0_6_6_c : ClassId) (a0_6_6_f : Nat → Int32) (a0_6_7_c : ClassId) (a0_6_7_f : Nat → Int32) (a0_6_9_c : ClassId) (a0_6_9_f : Nat → Int32) (a0_6_10_c : ClassId) (a0_6_10_f : Nat → Int32) (a0_6_11_c : ClassId) (a0_6_11_f : Nat → Int32) (a0_6_12_c : ClassId) (a0_6_12_f : Nat → Option Nat) (a0_6_13_c : ClassId) (a0_6_13_f : Nat → Int32) (a0_8_0 : Nat) (a0_8_1 : Nat) (a0_8_2 : Nat) (a0_8_3 : Nat) (a0_8_4 : Nat) (a0_8_5 : Nat) (a0_8_0_c : ClassId) (a0_8_0_f : Nat → Int32) (a0_8_1_c : ClassId) (a0_8_1_f : Nat → Int32) (a0_8_2_c : ClassId) (a0_8_2_f : Nat → Int32) (a0_8_3_c : ClassId) (a0_8_3_f : Nat → Int32) (a0_8_4_c : ClassId) (a0_8_4_f : Nat → Option Nat) (a0_8_5_c : ClassId) (a0_8_5_f : Nat → Option Nat) (rows : va_W) (h_a0_2_6 : 0 ≤ a0_2_6.toInt ∧ a0_2_6.toInt ≤ 24) (h_a0_2_7 : 0 ≤ a0_2_7.toInt ∧ a0_2_7.toInt ≤ 12) (h_a0_2_2_f : GR g.2.2.2.2.1 24 12 a0_2_2_f rows) (h_a0_2_3_f : GR g.2.2.2.2.1 24 12 a0_2_3_f rows) (h_a0_6_0 : 0 ≤ a0_6_0.toInt ∧ a0_6_0.toInt ≤ 8) (h_a0_6_2 : 0 ≤ a0_6_2.toInt ∧ a0_6_2.toInt ≤ 4) (h_a0_6_4 : 0 ≤ a0_6_4.toInt ∧ a0_6_4.toInt ≤ 24) (h_a0_6_8 : 0 ≤ a0_6_8.toInt ∧ a0_6_8.toInt ≤ 12) (h_a0_6_12_f : GR g.2.2.2.2.1 3 12 a0_6_12_f rows) (h_a0_8_3_f : vr 0 5 a0_8_3_f) (h_a0_8_4_f : GR g.2.2.2.2.1 5 12 a0_8_4_f rows) (h_a0_8_5_f : GR g.2.2.2.2.1 5 12 a0_8_5_f rows) (hho : HOk a0_6_9_f a0_6_10_f a0_6_8) : Met l yX8_best (.code yX8_best cX8_best 4 (some .int) :: TBL) ({ frames := 7, cells := 0, slots := 0, locals := 168 }) (va_Pc [.ref a0, .int a1, .int a2, .int a3] (fun U => U.heap.size = sz ∧ va_P (dC, dI) vwCl (([(a0, .inr (7, [.ref a0_0, .ref a0_1, .ref a0_2, .ref a0_3, .ref a0_4, .ref a0_5, .ref a0_6, .ref a0_7, .ref a0_8, .ref a0_9, .int a0_10])), (a0_2, .inr (5, [.ref a0_2_0, .ref a0_2_1, .ref a0_2_2, .ref a0_2_3, .ref a0_2_4, .ref a0_2_5, .int a0_2_6, .int a0_2_7])), (a0_2_0, .inl (a0_2_0_c, 24, .inl a0_2_0_f)), (a0_2_1, .inl (a0_2_1_c, 24, .inl a0_2_1_f)), (a0_2_2, .inl (a0_2_2_c, 12, .inr (.inr (.inr (.inr a0_2_2_f))))), (a0_2_3, .inl (a0_2_3_c, 12, .inr (.inr (.inr (.inr a0_2_3_f))))), (a0_2_4, .inl (a0_2_4_c, 24, .inl a0_2_4_f)), (a0_6, .inr (0, [.int a0_6_0, .ref a0_6_1, .int a0_6_2, .ref a0_6_3, .int a0_6_4, .ref a0_6_5, .ref a0_6_6, .ref a0_6_7, .int a0_6_8, .ref a0_6_9, .ref a0_6_10, .ref a0_6_11, .ref a0_6_12, .ref a0_6_13])), (a0_6_1, .inl (a0_6_1_c, 8, .inl a0_6_1_f)), (a0_6_3, .inl (a0_6_3_c, 4, .inl a0_6_3_f)), (a0_6_5, .inl (a0_6_5_c, 24, .inl a0_6_5_f)), (a0_6_6, .inl (a0_6_6_c, 24, .inl a0_6_6_f)), (a0_6_7, .inl (a0_6_7_c, 24, .inl a0_6_7_f)), (a0_6_9, .inl (a0_6_9_c, 12, .inl a0_6_9_f)), (a0_6_10, .inl (a0_6_10_c, 12, .inl a0_6_10_f)), (a0_6_11, .inl (a0_6_11_c, 12, .inl a0_6_11_f)), (a0_6_12, .inl (a0_6_12_c, 12, .inr (.inr (.inr (.inr a0_6_12_f))))), (a0_6_13, .inl (a0_6_13_c, 12, .inl a0_6_13_f)), (a0_8, .inr (2, [.ref a0_8_0, .ref a0_8_1, .ref a0_8_2, .ref a0_8_3, .ref a0_8_4, .ref a0_8_5])), (a0_8_0, .inl (a0_8_0_c, 24, .inl a0_8_0_f)), (a0_8_1, .inl (a0_8_1_c, 8, .inl a0_8_1_f)), (a0_8_2, .inl (a0_8_2_c, 12, .inl a0_8_2_f)), (a0_8_3, .inl (a0_8_3_c, 12, .inl a0_8_3_f)), (a0_8_4, .inl (a0_8_4_c, 12, .inr (.inr (.inr (.inr a0_8_4_f))))), (a0_8_5, .inl (a0_8_5_c, 12, .inr (.inr (.inr (.inr a0_8_5_f)))))] : va_W) ++ rows) U.heap ∧ va_K (dC, dI) vwCl [(a0_2_0_c, .int), (a0_2_1_c, .int), (a0_2_2_c, .array .int), (a0_2_3_c, .array .int), (a0_2_4_c, .int), (a0_6_1_c, .int), (a0_6_3_c, .int), (a0_6_5_c, .int), (a0_6_6_c, .int), (a0_6_7_c, .int), (a0_6_9_c, .int), (a0_6_10_c, .int), (a0_6_11_c, .boolean), (a0_6_12_c, .array .int), (a0_6_13_c, .int), (a0_8_0_c, .int), (a0_8_1_c, .int), (a0_8_2_c, .int), (a0_8_3_c, .int), (a0_8_4_c, .array .int), (a0_8_5_c, .array .int)] U ∧ va_D (fun _ => True) (([(a0, .inr (7, [.ref a0_0, .ref a0_1, .ref a0_2, .ref a0_3, .ref a0_4, .ref a0_5, .ref a0_6, .ref a0_7, .ref a0_8, .ref a0_9, .int a0_10])), (a0_2, .inr (5, [.ref a0_2_0, .ref a0_2_1, .ref a0_2_2, .ref a0_2_3, .ref a0_2_4, .ref a0_2_5, .int a0_2_6, .int a0_2_7])), (a0_2_0, .inl (a0_2_0_c, 24, .inl a0_2_0_f)), (a0_2_1, .inl (a0_2_1_c, 24, .inl a0_2_1_f)), (a0_2_2, .inl (a0_2_2_c, 12, .inr (.inr (.inr (.inr a0_2_2_f))))), (a0_2_3, .inl (a0_2_3_c, 12, .inr (.inr (.inr (.inr a0_2_3_f))))), (a0_2_4, .inl (a0_2_4_c, 24, .inl a0_2_4_f)), (a0_6, .inr (0, [.int a0_6_0, .ref a0_6_1, .int a0_6_2, .ref a0_6_3, .int a0_6_4, .ref a0_6_5, .ref a0_6_6, .ref a0_6_7, .int a0_6_8, .ref a0_6_9, .ref a0_6_10, .ref a0_6_11, .ref a0_6_12, .ref a0_6_13])), (a0_6_1, .inl (a0_6_1_c, 8, .inl a0_6_1_f)), (a0_6_3, .inl (a0_6_3_c, 4, .inl a0_6_3_f)), (a0_6_5, .inl (a0_6_5_c, 24, .inl a0_6_5_f)), (a0_6_6, .inl (a0_6_6_c, 24, .inl a0_6_6_f)), (a0_6_7, .inl (a0_6_7_c, 24, .inl a0_6_7_f)), (a0_6_9, .inl (a0_6_9_c, 12, .inl a0_6_9_f)), (a0_6_10, .inl (a0_6_10_c, 12, .inl a0_6_10_f)), (a0_6_11, .inl (a0_6_11_c, 12, .inl a0_6_11_f)), (a0_6_12, .inl (a0_6_12_c, 12, .inr (.inr (.inr (.inr a0_6_12_f))))), (a0_6_13, .inl (a0_6_13_c, 12, .inl a0_6_13_f)), (a0_8, .inr (2, [.ref a0_8_0, .ref a0_8_1, .ref a0_8_2, .ref a0_8_3, .ref a0_8_4, .ref a0_8_5])), (a0_8_0, .inl (a0_8_0_c, 24, .inl a0_8_0_f)), (a0_8_1, .inl (a0_8_1_c, 8, .inl a0_8_1_f)), (a0_8_2, .inl (a0_8_2_c, 12, .inl a0_8_2_f)), (a0_8_3, .inl (a0_8_3_c, 12, .inl a0_8_3_f)), (a0_8_4, .inl (a0_8_4_c, 12, .inr (.inr (.inr (.inr a0_8_4_f))))), (a0_8_5, .inl (a0_8_5_c, 12, .inr (.inr (.inr (.inr a0_8_5_f)))))] : va_W) ++ rows) ∧ Ev g (va_A (([(a0, .inr (7, [.ref a0_0, .ref a0_1, .ref a0_2, .ref a0_3, .ref a0_4, .ref a0_5, .ref a0_6, .ref a0_7, .ref a0_8, .ref a0_9, .int a0_10])), (a0_2, .inr (5, [.ref a0_2_0, .ref a0_2_1, .ref a0_2_2, .ref a0_2_3, .ref a0_2_4, .ref a0_2_5, .int a0_2_6, .int a0_2_7])), (a0_2_0, .inl (a0_2_0_c, 24, .inl a0_2_0_f)), (a0_2_1, .inl (a0_2_1_c, 24, .inl a0_2_1_f)), (a0_2_2, .inl (a0_2_2_c, 12, .inr (.inr (.inr (.inr a0_2_2_f))))), (a0_2_3, .inl (a0_2_3_c, 12, .inr (.inr (.inr (.inr a0_2_3_f))))), (a0_2_4, .inl (a0_2_4_c, 24, .inl a0_2_4_f)), (a0_6, .inr (0, [.int a0_6_0, .ref a0_6_1, .int a0_6_2, .ref a0_6_3, .int a0_6_4, .ref a0_6_5, .ref a0_6_6, .ref a0_6_7, .int a0_6_8, .ref a0_6_9, .ref a0_6_10, .ref a0_6_11, .ref a0_6_12, .ref a0_6_13])), (a0_6_1, .inl (a0_6_1_c, 8, .inl a0_6_1_f)), (a0_6_3, .inl (a0_6_3_c, 4, .inl a0_6_3_f)), (a0_6_5, .inl (a0_6_5_c, 24, .inl a0_6_5_f)), (a0_6_6, .inl (a0_6_6_c, 24, .inl a0_6_6_f)), (a0_6_7, .inl (a0_6_7_c, 24, .inl a0_6_7_f)), (a0_6_9, .inl (a0_6_9_c, 12, .inl a0_6_9_f)), (a0_6_10, .inl (a0_6_10_c, 12, .inl a0_6_10_f)), (a0_6_11, .inl (a0_6_11_c, 12, .inl a0_6_11_f)), (a0_6_12, .inl (a0_6_12_c, 12, .inr (.inr (.inr (.inr a0_6_12_f))))), (a0_6_13, .inl (a0_6_13_c, 12, .inl a0_6_13_f)), (a0_8, .inr (2, [.ref a0_8_0, .ref a0_8_1, .ref a0_8_2, .ref a0_8_3, .ref a0_8_4, .ref a0_8_5])), (a0_8_0, .inl (a0_8_0_c, 24, .inl a0_8_0_f)), (a0_8_1, .inl (a0_8_1_c, 8, .inl a0_8_1_f)), (a0_8_2, .inl (a0_8_2_c, 12, .inl a0_8_2_f)), (a0_8_3, .inl (a0_8_3_c, 12, .inl a0_8_3_f)), (a0_8_4, .inl (a0_8_4_c, 12, .inr (.inr (.inr (.inr a0_8_4_f))))), (a0_8_5, .inl (a0_8_5_c, 12, .inr (.inr (.inr (.inr a0_8_5_f)))))] : va_W) ++ rows) sz) U)) (va_Qi (fun (r : Int32) (u : Int32) => u = r) (fun (u : Int32) (t : State) => ∃ (za0_10 : Int32) (za0_2_6 : Int32) (za0_2_7 : Int32) (za0_2_0_f : Nat → Int32) (za0_2_1_f : Nat → Int32) (za0_2_4_f : Nat → Int32) (zrows : va_W), (0 ≤ za0_2_6.toInt ∧ za0_2_6.toInt ≤ 24) ∧ (0 ≤ za0_2_7.toInt ∧ za0_2_7.toInt ≤ 12) ∧ RS g.2.2.2.2.1 rows zrows ∧ va_P (dC, dI) vwCl (([(a0, .inr (7, [.ref a0_0, .ref a0_1, .ref a0_2, .ref a0_3, .ref a0_4, .ref a0_5, .ref a0_6, .ref a0_7, .ref a0_8, .ref a0_9, .int za0_10])), (a0_2, .inr (5, [.ref a0_2_0, .ref a0_2_1, .ref a0_2_2, .ref a0_2_3, .ref a0_2_4, .ref a0_2_5, .int za0_2_6, .int za0_2_7])), (a0_2_0, .inl (a0_2_0_c, 24, .inl za0_2_0_f)), (a0_2_1, .inl (a0_2_1_c, 24, .inl za0_2_1_f)), (a0_2_2, .inl (a0_2_2_c, 12, .inr (.inr (.inr (.inr a0_2_2_f))))), (a0_2_3, .inl (a0_2_3_c, 12, .inr (.inr (.inr (.inr a0_2_3_f))))), (a0_2_4, .inl (a0_2_4_c, 24, .inl za0_2_4_f)), (a0_6, .inr (0, [.int a0_6_0, .ref a0_6_1, .int a0_6_2, .ref a0_6_3, .int a0_6_4, .ref a0_6_5, .ref a0_6_6, .ref a0_6_7, .int a0_6_8, .ref a0_6_9, .ref a0_6_10, .ref a0_6_11, .ref a0_6_12, .ref a0_6_13])), (a0_6_1, .inl (a0_6_1_c, 8, .inl a0_6_1_f)), (a0_6_3, .inl (a0_6_3_c, 4, .inl a0_6_3_f)), (a0_6_5, .inl (a0_6_5_c, 24, .inl a0_6_5_f)), (a0_6_6, .inl (a0_6_6_c, 24, .inl a0_6_6_f)), (a0_6_7, .inl (a0_6_7_c, 24, .inl a0_6_7_f)), (a0_6_9, .inl (a0_6_9_c, 12, .inl a0_6_9_f)), (a0_6_10, .inl (a0_6_10_c, 12, .inl a0_6_10_f)), (a0_6_11, .inl (a0_6_11_c, 12, .inl a0_6_11_f)), (a0_6_12, .inl (a0_6_12_c, 12, .inr (.inr (.inr (.inr a0_6_12_f))))), (a0_6_13, .inl (a0_6_13_c, 12, .inl a0_6_13_f)), (a0_8, .inr (2, [.ref a0_8_0, .ref a0_8_1, .ref a0_8_2, .ref a0_8_3, .ref a0_8_4, .ref a0_8_5])), (a0_8_0, .inl (a0_8_0_c, 24, .inl a0_8_0_f)), (a0_8_1, .inl (a0_8_1_c, 8, .inl a0_8_1_f)), (a0_8_2, .inl (a0_8_2_c, 12, .inl a0_8_2_f)), (a0_8_3, .inl (a0_8_3_c, 12, .inl a0_8_3_f)), (a0_8_4, .inl (a0_8_4_c, 12, .inr (.inr (.inr (.inr a0_8_4_f))))), (a0_8_5, .inl (a0_8_5_c, 12, .inr (.inr (.inr (.inr a0_8_5_f)))))] : va_W) ++ zrows) t.heap ∧ va_K (dC, dI) vwCl [] t ∧ va_D (va_A (([(a0, .inr (7, [.ref a0_0, .ref a0_1, .ref a0_2, .ref a0_3, .ref a0_4, .ref a0_5, .ref a0_6, .ref a0_7, .ref a0_8, .ref a0_9, .int a0_10])), (a0_2, .inr (5, [.ref a0_2_0, .ref a0_2_1, .ref a0_2_2, .ref a0_2_3, .ref a0_2_4, .ref a0_2_5, .int a0_2_6, .int a0_2_7])), (a0_2_0, .inl (a0_2_0_c, 24, .inl a0_2_0_f)), (a0_2_1, .inl (a0_2_1_c, 24, .inl a0_2_1_f)), (a0_2_2, .inl (a0_2_2_c, 12, .inr (.inr (.inr (.inr a0_2_2_f))))), (a0_2_3, .inl (a0_2_3_c, 12, .inr (.inr (.inr (.inr a0_2_3_f))))), (a0_2_4, .inl (a0_2_4_c, 24, .inl a0_2_4_f)), (a0_6, .inr (0, [.int a0_6_0, .ref a0_6_1, .int a0_6_2, .ref a0_6_3, .int a0_6_4, .ref a0_6_5, .ref a0_6_6, .ref a0_6_7, .int a0_6_8, .ref a0_6_9, .ref a0_6_10, .ref a0_6_11, .ref a0_6_12, .ref a0_6_13])), (a0_6_1, .inl (a0_6_1_c, 8, .inl a0_6_1_f)), (a0_6_3, .inl (a0_6_3_c, 4, .inl a0_6_3_f)), (a0_6_5, .inl (a0_6_5_c, 24, .inl a0_6_5_f)), (a0_6_6, .inl (a0_6_6_c, 24, .inl a0_6_6_f)), (a0_6_7, .inl (a0_6_7_c, 24, .inl a0_6_7_f)), (a0_6_9, .inl (a0_6_9_c, 12, .inl a0_6_9_f)), (a0_6_10, .inl (a0_6_10_c, 12, .inl a0_6_10_f)), (a0_6_11, .inl (a0_6_11_c, 12, .inl a0_6_11_f)), (a0_6_12, .inl (a0_6_12_c, 12, .inr (.inr (.inr (.inr a0_6_12_f))))), (a0_6_13, .inl (a0_6_13_c, 12, .inl a0_6_13_f)), (a0_8, .inr (2, [.ref a0_8_0, .ref a0_8_1, .ref a0_8_2, .ref a0_8_3, .ref a0_8_4, .ref a0_8_5])), (a0_8_0, .inl (a0_8_0_c, 24, .inl a0_8_0_f)), (a0_8_1, .inl (a0_8_1_c, 8, .inl a0_8_1_f)), (a0_8_2, .inl (a0_8_2_c, 12, .inl a0_8_2_f)), (a0_8_3, .inl (a0_8_3_c, 12, .inl a0_8_3_f)), (a0_8_4, .inl (a0_8_4_c, 12, .inr (.inr (.inr (.inr a0_8_4_f))))), (a0_8_5, .inl (a0_8_5_c, 12, .inr (.inr (.inr (.inr a0_8_5_f)))))] : va_W) ++ rows) sz) (([(a0, .inr (7, [.ref a0_0, .ref a0_1, .ref a0_2, .ref a0_3, .ref a0_4, .ref a0_5, .ref a0_6, .ref a0_7, .ref a0_8, .ref a0_9, .int za0_10])), (a0_2, .inr (5, [.ref a0_2_0, .ref a0_2_1, .ref a0_2_2, .ref a0_2_3, .ref a0_2_4, .ref a0_2_5, .int za0_2_6, .int za0_2_7])), (a0_2_0, .inl (a0_2_0_c, 24, .inl za0_2_0_f)), (a0_2_1, .inl (a0_2_1_c, 24, .inl za0_2_1_f)), (a0_2_2, .inl (a0_2_2_c, 12, .inr (.inr (.inr (.inr a0_2_2_f))))), (a0_2_3, .inl (a0_2_3_c, 12, .inr (.inr (.inr (.inr a0_2_3_f))))), (a0_2_4, .inl (a0_2_4_c, 24, .inl za0_2_4_f)), (a0_6, .inr (0, [.int a0_6_0, .ref a0_6_1, .int a0_6_2, .ref a0_6_3, .int a0_6_4, .ref a0_6_5, .ref a0_6_6, .ref a0_6_7, .int a0_6_8, .ref a0_6_9, .ref a0_6_10, .ref a0_6_11, .ref a0_6_12, .ref a0_6_13])), (a0_6_1, .inl (a0_6_1_c, 8, .inl a0_6_1_f)), (a0_6_3, .inl (a0_6_3_c, 4, .inl a0_6_3_f)), (a0_6_5, .inl (a0_6_5_c, 24, .inl a0_6_5_f)), (a0_6_6, .inl (a0_6_6_c, 24, .inl a0_6_6_f)), (a0_6_7, .inl (a0_6_7_c, 24, .inl a0_6_7_f)), (a0_6_9, .inl (a0_6_9_c, 12, .inl a0_6_9_f)), (a0_6_10, .inl (a0_6_10_c, 12, .inl a0_6_10_f)), (a0_6_11, .inl (a0_6_11_c, 12, .inl a0_6_11_f)), (a0_6_12, .inl (a0_6_12_c, 12, .inr (.inr (.inr (.inr a0_6_12_f))))), (a0_6_13, .inl (a0_6_13_c, 12, .inl a0_6_13_f)), (a0_8, .inr (2, [.ref a0_8_0, .ref a0_8_1, .ref a0_8_2, .ref a0_8_3, .ref a0_8_4, .ref a0_8_5])), (a0_8_0, .inl (a0_8_0_c, 24, .inl a0_8_0_f)), (a0_8_1, .inl (a0_8_1_c, 8, .inl a0_8_1_f)), (a0_8_2, .inl (a0_8_2_c, 12, .inl a0_8_2_f)), (a0_8_3, .inl (a0_8_3_c, 12, .inl a0_8_3_f)), (a0_8_4, .inl (a0_8_4_c, 12, .inr (.inr (.inr (.inr a0_8_4_f))))), (a0_8_5, .inl (a0_8_5_c, 12, .inr (.inr (.inr (.inr a0_8_5_f)))))] : va_W) ++ zrows)) (va_A (([(a0, .inr (7, [.ref a0_0, .ref a0_1, .ref a0_2, .ref a0_3, .ref a0_4, .ref a0_5, .ref a0_6, .ref a0_7, .ref a0_8, .ref a0_9, .int a0_10])), (a0_2, .inr (5, [.ref a0_2_0, .ref a0_2_1, .ref a0_2_2, .ref a0_2_3, .ref a0_2_4, .ref a0_2_5, .int a0_2_6, .int a0_2_7])), (a0_2_0, .inl (a0_2_0_c, 24, .inl a0_2_0_f)), (a0_2_1, .inl (a0_2_1_c, 24, .inl a0_2_1_f)), (a0_2_2, .inl (a0_2_2_c, 12, .inr (.inr (.inr (.inr a0_2_2_f))))), (a0_2_3, .inl (a0_2_3_c, 12, .inr (.inr (.inr (.inr a0_2_3_f))))), (a0_2_4, .inl (a0_2_4_c, 24, .inl a0_2_4_f)), (a0_6, .inr (0, [.int a0_6_0, .ref a0_6_1, .int a0_6_2, .ref a0_6_3, .int a0_6_4, .ref a0_6_5, .ref a0_6_6, .ref a0_6_7, .int a0_6_8, .ref a0_6_9, .ref a0_6_10, .ref a0_6_11, .ref a0_6_12, .ref a0_6_13])), (a0_6_1, .inl (a0_6_1_c, 8, .inl a0_6_1_f)), (a0_6_3, .inl (a0_6_3_c, 4, .inl a0_6_3_f)), (a0_6_5, .inl (a0_6_5_c, 24, .inl a0_6_5_f)), (a0_6_6, .inl (a0_6_6_c, 24, .inl a0_6_6_f)), (a0_6_7, .inl (a0_6_7_c, 24, .inl a0_6_7_f)), (a0_6_9, .inl (a0_6_9_c, 12, .inl a0_6_9_f)), (a0_6_10, .inl (a0_6_10_c, 12, .inl a0_6_10_f)), (a0_6_11, .inl (a0_6_11_c, 12, .inl a0_6_11_f)), (a0_6_12, .inl (a0_6_12_c, 12, .inr (.inr (.inr (.inr a0_6_12_f))))), (a0_6_13, .inl (a0_6_13_c, 12, .inl a0_6_13_f)), (a0_8, .inr (2, [.ref a0_8_0, .ref a0_8_1, .ref a0_8_2, .ref a0_8_3, .ref a0_8_4, .ref a0_8_5])), (a0_8_0, .inl (a0_8_0_c, 24, .inl a0_8_0_f)), (a0_8_1, .inl (a0_8_1_c, 8, .inl a0_8_1_f)), (a0_8_2, .inl (a0_8_2_c, 12, .inl a0_8_2_f)), (a0_8_3, .inl (a0_8_3_c, 12, .inl a0_8_3_f)), (a0_8_4, .inl (a0_8_4_c, 12, .inr (.inr (.inr (.inr a0_8_4_f))))), (a0_8_5, .inl (a0_8_5_c, 12, .inr (.inr (.inr (.inr a0_8_5_f)))))] : va_W) ++ rows) sz)) 0 0 (va_A (([(a0, .inr (7, [.ref a0_0, .ref a0_1, .ref a0_2, .ref a0_3, .ref a0_4, .ref a0_5, .ref a0_6, .ref a0_7, .ref a0_8, .ref a0_9, .int a0_10])), (a0_2, .inr (5, [.ref a0_2_0, .ref a0_2_1, .ref a0_2_2, .ref a0_2_3, .ref a0_2_4, .ref a0_2_5, .int a0_2_6, .int a0_2_7])), (a0_2_0, .inl (a0_2_0_c, 24, .inl a0_2_0_f)), (a0_2_1, .inl (a0_2_1_c, 24, .inl a0_2_1_f)), (a0_2_2, .inl (a0_2_2_c, 12, .inr (.inr (.inr (.inr a0_2_2_f))))), (a0_2_3, .inl (a0_2_3_c, 12, .inr (.inr (.inr (.inr a0_2_3_f))))), (a0_2_4, .inl (a0_2_4_c, 24, .inl a0_2_4_f)), (a0_6, .inr (0, [.int a0_6_0, .ref a0_6_1, .int a0_6_2, .ref a0_6_3, .int a0_6_4, .ref a0_6_5, .ref a0_6_6, .ref a0_6_7, .int a0_6_8, .ref a0_6_9, .ref a0_6_10, .ref a0_6_11, .ref a0_6_12, .ref a0_6_13])), (a0_6_1, .inl (a0_6_1_c, 8, .inl a0_6_1_f)), (a0_6_3, .inl (a0_6_3_c, 4, .inl a0_6_3_f)), (a0_6_5, .inl (a0_6_5_c, 24, .inl a0_6_5_f)), (a0_6_6, .inl (a0_6_6_c, 24, .inl a0_6_6_f)), (a0_6_7, .inl (a0_6_7_c, 24, .inl a0_6_7_f)), (a0_6_9, .inl (a0_6_9_c, 12, .inl a0_6_9_f)), (a0_6_10, .inl (a0_6_10_c, 12, .inl a0_6_10_f)), (a0_6_11, .inl (a0_6_11_c, 12, .inl a0_6_11_f)), (a0_6_12, .inl (a0_6_12_c, 12, .inr (.inr (.inr (.inr a0_6_12_f))))), (a0_6_13, .inl (a0_6_13_c, 12, .inl a0_6_13_f)), (a0_8, .inr (2, [.ref a0_8_0, .ref a0_8_1, .ref a0_8_2, .ref a0_8_3, .ref a0_8_4, .ref a0_8_5])), (a0_8_0, .inl (a0_8_0_c, 24, .inl a0_8_0_f)), (a0_8_1, .inl (a0_8_1_c, 8, .inl a0_8_1_f)), (a0_8_2, .inl (a0_8_2_c, 12, .inl a0_8_2_f)), (a0_8_3, .inl (a0_8_3_c, 12, .inl a0_8_3_f)), (a0_8_4, .inl (a0_8_4_c, 12, .inr (.inr (.inr (.inr a0_8_4_f))))), (a0_8_5, .inl (a0_8_5_c, 12, .inr (.inr (.inr (.inr a0_8_5_f)))))] : va_W) ++ rows) sz) := by
  refine Met.ofW (cc := cX8_best) (maxL := 4) (ret := (some .int)) (by decide) rfl ?_
  intro p e s m args below meth c s₁ B hml hv
  obtain ⟨rfl, hsz, hP, hK, hD0, hE⟩ := hv
  have hx := B.exec
  have hb := B.bytes
  have hr := B.returns
  have hts0 := atoms_spec (ws := (.code yX8_best cX8_best 4 (some .int) :: TBL)) B.pre
  have hts := fun (w : Cond) (h : w ∈ TBL) => hts0 w (List.mem_cons_of_mem _ h)
  have hown : s.vm.findClass RX8 = some m.cls := findClass_of_methodNamed B.named
  have hlocks := B.notSynchronized
  have hN := hE.1
  subst hsz
  have hD := hD0.self (sz := s.heap.size)
  generalize hAe : va_A (([(a0, .inr (7, [.ref a0_0, .ref a0_1, .ref a0_2, .ref a0_3, .ref a0_4, .ref a0_5, .ref a0_6, .ref a0_7, .ref a0_8, .ref a0_9, .int a0_10])), (a0_2, .inr (5, [.ref a0_2_0, .ref a0_2_1, .ref a0_2_2, .ref a0_2_3, .ref a0_2_4, .ref a0_2_5, .int a0_2_6, .int a0_2_7])), (a0_2_0, .inl (a0_2_0_c, 24, .inl a0_2_0_f)), (a0_2_1, .inl (a0_2_1_c, 24, .inl a0_2_1_f)), (a0_2_2, .inl (a0_2_2_c, 12, .inr (.inr (.inr (.inr a0_2_2_f))))), (a0_2_3, .inl (a0_2_3_c, 12, .inr (.inr (.inr (.inr a0_2_3_f))))), (a0_2_4, .inl (a0_2_4_c, 24, .inl a0_2_4_f)), (a0_6, .inr (0, [.int a0_6_0, .ref a0_6_1, .int a0_6_2, .ref a0_6_3, .int a0_6_4, .ref a0_6_5, .ref a0_6_6, .ref a0_6_7, .int a0_6_8, .ref a0_6_9, .ref a0_6_10, .ref a0_6_11, .ref a0_6_12, .ref a0_6_13])), (a0_6_1, .inl (a0_6_1_c, 8, .inl a0_6_1_f)), (a0_6_3, .inl (a0_6_3_c, 4, .inl a0_6_3_f)), (a0_6_5, .inl (a0_6_5_c, 24, .inl a0_6_5_f)), (a0_6_6, .inl (a0_6_6_c, 24, .inl a0_6_6_f)), (a0_6_7, .inl (a0_6_7_c, 24, .inl a0_6_7_f)), (a0_6_9, .inl (a0_6_9_c, 12, .inl a0_6_9_f)), (a0_6_10, .inl (a0_6_10_c, 12, .inl a0_6_10_f)), (a0_6_11, .inl (a0_6_11_c, 12, .inl a0_6_11_f)), (a0_6_12, .inl (a0_6_12_c, 12, .inr (.inr (.inr (.inr a0_6_12_f))))), (a0_6_13, .inl (a0_6_13_c, 12, .inl a0_6_13_f)), (a0_8, .inr (2, [.ref a0_8_0, .ref a0_8_1, .ref a0_8_2, .ref a0_8_3, .ref a0_8_4, .ref a0_8_5])), (a0_8_0, .inl (a0_8_0_c, 24, .inl a0_8_0_f)), (a0_8_1, .inl (a0_8_1_c, 8, .inl a0_8_1_f)), (a0_8_2, .inl (a0_8_2_c, 12, .inl a0_8_2_f)), (a0_8_3, .inl (a0_8_3_c, 12, .inl a0_8_3_f)), (a0_8_4, .inl (a0_8_4_c, 12, .inr (.inr (.inr (.inr a0_8_4_f))))), (a0_8_5, .inl (a0_8_5_c, 12, .inr (.inr (.inr (.inr a0_8_5_f)))))] : va_W) ++ rows) s.heap.size = A at hD hE ⊢
  have hA : ∀ q : Nat, s.heap.size ≤ q → A q := fun q h => by rw [← hAe]; exact Or.inr h
  have hS : va_S A s.heap s.heap [] := va_S.rf
  replace hP : va_P (dC, dI) vwCl (([(a0, .inr (7, [.ref a0_0, .ref a0_1, .ref a0_2, .ref a0_3, .ref a0_4, .ref a0_5, .ref a0_6, .ref a0_7, .ref a0_8, .ref a0_9, .int a0_10])), (a0_2, .inr (5, [.ref a0_2_0, .ref a0_2_1, .ref a0_2_2, .ref a0_2_3, .ref a0_2_4, .ref a0_2_5, .int a0_2_6, .int a0_2_7])), (a0_2_0, .inl (a0_2_0_c, 24, .inl a0_2_0_f)), (a0_2_1, .inl (a0_2_1_c, 24, .inl a0_2_1_f)), (a0_2_2, .inl (a0_2_2_c, 12, .inr (.inr (.inr (.inr a0_2_2_f))))), (a0_2_3, .inl (a0_2_3_c, 12, .inr (.inr (.inr (.inr a0_2_3_f))))), (a0_2_4, .inl (a0_2_4_c, 24, .inl a0_2_4_f)), (a0_6, .inr (0, [.int a0_6_0, .ref a0_6_1, .int a0_6_2, .ref a0_6_3, .int a0_6_4, .ref a0_6_5, .ref a0_6_6, .ref a0_6_7, .int a0_6_8, .ref a0_6_9, .ref a0_6_10, .ref a0_6_11, .ref a0_6_12, .ref a0_6_13])), (a0_6_1, .inl (a0_6_1_c, 8, .inl a0_6_1_f)), (a0_6_3, .inl (a0_6_3_c, 4, .inl a0_6_3_f)), (a0_6_5, .inl (a0_6_5_c, 24, .inl a0_6_5_f)), (a0_6_6, .inl (a0_6_6_c, 24, .inl a0_6_6_f)), (a0_6_7, .inl (a0_6_7_c, 24, .inl a0_6_7_f)), (a0_6_9, .inl (a0_6_9_c, 12, .inl a0_6_9_f)), (a0_6_10, .inl (a0_6_10_c, 12, .inl a0_6_10_f)), (a0_6_11, .inl (a0_6_11_c, 12, .inl a0_6_11_f)), (a0_6_12, .inl (a0_6_12_c, 12, .inr (.inr (.inr (.inr a0_6_12_f))))), (a0_6_13, .inl (a0_6_13_c, 12, .inl a0_6_13_f)), (a0_8, .inr (2, [.ref a0_8_0, .ref a0_8_1, .ref a0_8_2, .ref a0_8_3, .ref a0_8_4, .ref a0_8_5])), (a0_8_0, .inl (a0_8_0_c, 24, .inl a0_8_0_f)), (a0_8_1, .inl (a0_8_1_c, 8, .inl a0_8_1_f)), (a0_8_2, .inl (a0_8_2_c, 12, .inl a0_8_2_f)), (a0_8_3, .inl (a0_8_3_c, 12, .inl a0_8_3_f)), (a0_8_4, .inl (a0_8_4_c, 12, .inr (.inr (.inr (.inr a0_8_4_f))))), (a0_8_5, .inl (a0_8_5_c, 12, .inr (.inr (.inr (.inr a0_8_5_f)))))] : va_W) ++ rows) s.heap := hP
  have hl := lv_entry ([.ref a0, .int a1, .int a2, .int a3]) (n := 4) (Nat.le_of_ble_eq_true rfl)
  rw [lg_entry_eq]
  generalize (lg_sl ([.ref a0, .int a1, .int a2, .int a3]) ++ List.replicate (4 - (lg_sl ([.ref a0, .int a1, .int a2, .int a3])).length) Slot.unset).toArray = ls at hl ⊢
  have hl : lv_has ls 4 [(0, .ref a0), (1, .int a1), (2, .int a2), (3, .int a3)] := hl
  have hK := cyK hK (hts (.arrayClass .int) qw_54) hE.2.2.2.2.2.2.2.2.2.2.2.2.1
  replace hK : va_K (dC, dI) vwCl [(a0_2_0_c, .int), (a0_2_1_c, .int), (a0_2_2_c, .array .int), (a0_2_3_c, .array .int), (a0_2_4_c, .int), (a0_6_1_c, .int), (a0_6_3_c, .int), (a0_6_5_c, .int), (a0_6_6_c, .int), (a0_6_7_c, .int), (a0_6_9_c, .int), (a0_6_10_c, .int), (a0_6_11_c, .boolean), (a0_6_12_c, .array .int), (a0_6_13_c, .int), (a0_8_0_c, .int), (a0_8_1_c, .int), (a0_8_2_c, .int), (a0_8_3_c, .int), (a0_8_4_c, .array .int), (a0_8_5_c, .array .int), (g.2.2.2.2.1, .int)] s := hK
  have b_a1 := i32b a1
  have b_a2 := i32b a2
  have b_a3 := i32b a3
  have b_a0_10 := i32b a0_10
  have hRS : RS g.2.2.2.2.1 rows rows := RS.rf
  refine lv_iload_n hx hb dX8_best_0 rfl (lv_at hl 1 rfl) ?_
  have hPc := (rgP25_03923d6 hP)
  have hKc := (rgK22_e8c0e9b hK)
  refine vp_callSi ((va_runS (As := [.int a1]) (rest := []) ⟨hx, hb, hml, hown, hts⟩ (k_X8_isDayOrLate l dC dI g (a1) ) (va_cwS 1 hts (gwS qw_260 qw_261 qw_28 qw_259) rfl rfl rfl (by decide +kernel) ⟨Nat.le_of_ble_eq_true rfl, Nat.le_of_ble_eq_true rfl⟩) ⟨fun a U g9 mk q => ⟨q.1, q.2.1, va_K.moved (u := U) (U := U.calling g9 mk a) (Vm.Alike.refl U.vm) q.2.2.1, Ev.bl q.2.2.2⟩, fun U hU hW => ⟨rfl, atB hU hPc, va_K.moved hW.alike hKc, hE.go hS (fun _ h => h.elim) hU hW⟩⟩ rfl rfl hl.1 rfl (lv_room (Nat.le_of_ble_eq_true rfl)) dX8_best_1 ⟨Nat.le_of_ble_eq_true rfl, Nat.le_of_ble_eq_true rfl⟩)).run (fun r1 h_r1 => ?_)
  have h_r1 : (r1 = 0 ∨ r1 = 1) := h_r1
  have b_r1 := z01 (show r1 = 0 ∨ r1 = 1 from h_r1)
  refine lv_if_eq (tgt := 23) hx hb dX8_best_4 (by decide) (fun c4_2 => ?_) (fun c4_2 => ?_)
  · have c4_2 : r1.toInt = 0 := (cv_eq rfl (by decide)).mp c4_2
    refine lv_iconst (v := (-1)) hx hb dX8_best_23 (by decide) ?_
    have qcm1 : ((-1) : Int32).toInt = (-1) := by decide
    refine W.widen (k := 0) (n := 0) (Nat.le_of_ble_eq_true rfl) (Nat.le_of_ble_eq_true rfl) ?_
    have hP9 := hP
    have hD9 := hD
    have hK9 := (rgK22_e8c0e9b hK)
    have hf9_0 : (0 ≤ a0_2_6.toInt ∧ a0_2_6.toInt ≤ 24) := by omega
    have hf9_1 : (0 ≤ a0_2_7.toInt ∧ a0_2_7.toInt ≤ 12) := by omega
    have hf9_2 : RS g.2.2.2.2.1 rows rows := hRS
    exact W.iret (v := (-1)) hx hb hr (fun t ht hW => ⟨⟨(-1), (-1), rfl, rfl, a0_10, a0_2_6, a0_2_7, a0_2_0_f, a0_2_1_f, a0_2_4_f, rows, hf9_0, hf9_1, hf9_2, atB ht hP9, va_K.moved hW.alike hK9, hD9⟩, hS.F ht⟩) hS.2.2 dX8_best_24
  · have c4_2 : ¬ (r1.toInt = 0) := mt (cv_eq rfl (by decide)).mpr c4_2
    refine lv_iload_n hx hb dX8_best_7 rfl (lv_at hl 2 rfl) ?_
    have hPc := (rgP25_03923d6 hP)
    have hKc := (rgK22_e8c0e9b hK)
    refine vp_callSi ((va_runS (As := [.int a2]) (rest := []) ⟨hx, hb, hml, hown, hts⟩ (k_X8_areReaders l dC dI g (a2) ) (va_cwS 1 hts (gwS qw_326 qw_327 qw_28 qw_325) rfl rfl rfl (by decide +kernel) ⟨Nat.le_of_ble_eq_true rfl, Nat.le_of_ble_eq_true rfl⟩) ⟨fun a U g9 mk q => ⟨q.1, q.2.1, va_K.moved (u := U) (U := U.calling g9 mk a) (Vm.Alike.refl U.vm) q.2.2.1, Ev.bl q.2.2.2⟩, fun U hU hW => ⟨rfl, atB hU hPc, va_K.moved hW.alike hKc, hE.go hS (fun _ h => h.elim) hU hW⟩⟩ rfl rfl hl.1 rfl (lv_room (Nat.le_of_ble_eq_true rfl)) dX8_best_8 ⟨Nat.le_of_ble_eq_true rfl, Nat.le_of_ble_eq_true rfl⟩)).run (fun r3 h_r3 => ?_)
    have h_r3 : (r3 = 0 ∨ r3 = 1) := h_r3
    have b_r3 := z01 (show r3 = 0 ∨ r3 = 1 from h_r3)
    refine lv_if_eq (tgt := 23) hx hb dX8_best_11 (by decide) (fun c11_4 => ?_) (fun c11_4 => ?_)
    · have c11_4 : r3.toInt = 0 := (cv_eq rfl (by decide)).mp c11_4
      refine lv_iconst (v := (-1)) hx hb dX8_best_23 (by decide) ?_
      have qcm1 : ((-1) : Int32).toInt = (-1) := by decide
      refine W.widen (k := 0) (n := 0) (Nat.le_of_ble_eq_true rfl) (Nat.le_of_ble_eq_true rfl) ?_
      have hP9 := hP
      have hD9 := hD
      have hK9 := (rgK22_e8c0e9b hK)
      have hf9_0 : (0 ≤ a0_2_6.toInt ∧ a0_2_6.toInt ≤ 24) := by omega
      have hf9_1 : (0 ≤ a0_2_7.toInt ∧ a0_2_7.toInt ≤ 12) := by omega
      have hf9_2 : RS g.2.2.2.2.1 rows rows := hRS
      exact W.iret (v := (-1)) hx hb hr (fun t ht hW => ⟨⟨(-1), (-1), rfl, rfl, a0_10, a0_2_6, a0_2_7, a0_2_0_f, a0_2_1_f, a0_2_4_f, rows, hf9_0, hf9_1, hf9_2, atB ht hP9, va_K.moved hW.alike hK9, hD9⟩, hS.F ht⟩) hS.2.2 dX8_best_24
    · have c11_4 : ¬ (r3.toInt = 0) := mt (cv_eq rfl (by decide)).mpr c11_4
      refine lv_iload_n hx hb dX8_best_14 rfl (lv_at hl 3 rfl) ?_
      refine lv_if_lt (tgt := 23) hx hb dX8_best_15 (by decide) (fun c15_5 => ?_) (fun c15_5 => ?_)
      · have c15_5 : a3.toInt < 0 := (cv_lt rfl (by decide)).mp c15_5
        refine lv_iconst (v := (-1)) hx hb dX8_best_23 (by decide) ?_
        have qcm1 : ((-1) : Int32).toInt = (-1) := by decide
        refine W.widen (k := 0) (n := 0) (Nat.le_of_ble_eq_true rfl) (Nat.le_of_ble_eq_true rfl) ?_
        have hP9 := hP
        have hD9 := hD
        have hK9 := (rgK22_e8c0e9b hK)
        have hf9_0 : (0 ≤ a0_2_6.toInt ∧ a0_2_6.toInt ≤ 24) := by omega
        have hf9_1 : (0 ≤ a0_2_7.toInt ∧ a0_2_7.toInt ≤ 12) := by omega
        have hf9_2 : RS g.2.2.2.2.1 rows rows := hRS
        exact W.iret (v := (-1)) hx hb hr (fun t ht hW => ⟨⟨(-1), (-1), rfl, rfl, a0_10, a0_2_6, a0_2_7, a0_2_0_f, a0_2_1_f, a0_2_4_f, rows, hf9_0, hf9_1, hf9_2, atB ht hP9, va_K.moved hW.alike hK9, hD9⟩, hS.F ht⟩) hS.2.2 dX8_best_24
      · have c15_5 : ¬ (a3.toInt < 0) := mt (cv_lt rfl (by decide)).mpr c15_5
        refine lv_iload_n hx hb dX8_best_18 rfl (lv_at hl 3 rfl) ?_
        refine lv_iconst (v := 3) hx hb dX8_best_19 (by decide) ?_
        refine lv_icmp_le (tgt := 25) hx hb dX8_best_20 (by decide) (fun c20_6 => ?_) (fun c20_6 => ?_)
        · have c20_6 : a3.toInt ≤ 3 := (cv_le rfl (by decide)).mp c20_6
          refine lv_aload_n hx hb dX8_best_25 rfl (lv_at hl 0 rfl) ?_
          have hPc := (rgP25_3b7695d hP)
          have hKc := (rgK22_b422d32 hK)
          have hDc := (rgD25_d80f620 hD)
          have hFc := freeW hDc hS hA
          refine va_callr (va_runV (As := []) (rest := []) ⟨hx, hb, hml, hown, hts⟩ (k_X8_upToDate l dC dI g s.heap.size (a0) (a0_0) (a0_1) (a0_2) (a0_3) (a0_4) (a0_5) (a0_6) (a0_7) (a0_8) (a0_9) (a0_10) (a0_2_0) (a0_2_1) (a0_2_2) (a0_2_3) (a0_2_4) (a0_2_5) (a0_2_6) (a0_2_7) (a0_2_0_c) (a0_2_0_f) (a0_2_1_c) (a0_2_1_f) (a0_2_2_c) (a0_2_2_f) (a0_2_3_c) (a0_2_3_f) (a0_6_0) (a0_6_1) (a0_6_2) (a0_6_3) (a0_6_4) (a0_6_5) (a0_6_6) (a0_6_7) (a0_6_8) (a0_6_9) (a0_6_10) (a0_6_11) (a0_6_12) (a0_6_13) (a0_6_1_c) (a0_6_1_f) (a0_6_3_c) (a0_6_3_f) (a0_6_5_c) (a0_6_5_f) (a0_6_6_c) (a0_6_6_f) (a0_6_7_c) (a0_6_7_f) (a0_6_9_c) (a0_6_9_f) (a0_6_10_c) (a0_6_10_f) (a0_6_11_c) (a0_6_11_f) (a0_6_12_c) (a0_6_12_f) (a0_6_13_c) (a0_6_13_f) (a0_8_0) (a0_8_1) (a0_8_2) (a0_8_3) (a0_8_4) (a0_8_5) (a0_8_0_c) (a0_8_0_f) (a0_8_1_c) (a0_8_1_f) (a0_8_2_c) (a0_8_2_f) (a0_8_3_c) (a0_8_3_f) (a0_8_4_c) (a0_8_4_f) (a0_8_5_c) (a0_8_5_f) (rows) (by omega) (by omega) (RS.gr hRS h_a0_2_2_f) (RS.gr hRS h_a0_2_3_f) (by omega) (by omega) (by omega) (by omega) (RS.gr hRS h_a0_6_12_f) h_a0_8_3_f (RS.gr hRS h_a0_8_4_f) (RS.gr hRS h_a0_8_5_f) (by assumption)) (cwV 0 hts (gwV qw_316 qw_317 qw_318 qw_28 qw_315) rfl rfl rfl (by decide +kernel) ⟨Nat.le_of_ble_eq_true rfl, Nat.le_of_ble_eq_true rfl⟩) ⟨fun a U g9 mk q => ⟨q.1, q.2.1, q.2.2.1, va_K.moved (u := U) (U := U.calling g9 mk a) (Vm.Alike.refl U.vm) q.2.2.2.1, q.2.2.2.2.1, Ev.bl q.2.2.2.2.2⟩, va_recv hK hP (ci := 7) (q0 := 0) rfl rgL25_87334e9, fun U hU hW => ⟨rfl, by rw [hU], atB hU hPc, va_K.moved hW.alike hKc, hDc.weaken (fun _ _ _ _ => trivial), hE.go hS hFc hU hW⟩⟩ rfl rfl hl.1 rfl (lv_room (Nat.le_of_ble_eq_true rfl)) dX8_best_26 ⟨Nat.le_of_ble_eq_true rfl, Nat.le_of_ble_eq_true rfl⟩) hS (fun q _ h => hFc q h) hFc (fun u7 r8 t H1 locs ht hvm h_u7 hB hz1 hk1 hS => ?_)
          obtain ⟨hrr, za0_10_9, za0_2_6_10, za0_2_7_11, za0_2_0_f_12, za0_2_1_f_13, zrows_14, hF15, hF16, hF17, hP1, hK1, hD1⟩ := hB
          have hK1 := va_K.moved hvm.symm hK1
          have hJ9 := rgJ25_3dbb90a hP hD hk1 hFc (atH ht hP1) hD1
          clear hP hD hPc hKc hDc hFc hP1 hD1 hk1 hz1
          obtain ⟨hP, hD⟩ := hJ9
          clear hK1
          generalize H1 = H at hP hS ⊢
          refine W.widen (k := 0) (n := 0) (Nat.le_of_ble_eq_true rfl) (Nat.le_of_ble_eq_true rfl) ?_
          refine topv (w := .ref a0_2) (by rw [hrr]) ?_
          have hRS := RS.tr hRS hF17
          refine lv_iload_n hx hb dX8_best_29 rfl (lv_at hl 1 rfl) ?_
          refine lv_aload_n hx hb dX8_best_30 rfl (lv_at hl 0 rfl) ?_
          refine va_get (D := (dC, dI)) (ci := 7) (v := .ref a0_6) (C := RX8) (T := TX8) (N := 11) hx hb hts inlX8 hown hK hP 0 rgL25_87334e9 rfl 6 (by decide) (hts (.fieldLink RX8 51 "ClosedUntil" "told" "LClosedUntil$Holdings;") qw_262) (fun _ h9 => h9) rfl dX8_best_31 ?_
          refine lv_iload_n hx hb dX8_best_34 rfl (lv_at hl 2 rfl) ?_
          have hPc := (rgP25_fd33518 hP)
          have hKc := (rgK22_98120ae hK)
          refine vp_callSi ((va_runVN (As := [.int a2]) (rest := [.int a1, .ref a0_2]) ⟨hx, hb, hml, hown, hts⟩ (k_X1_holdingFor l dC dI g (a0_6) (a2) (a0_6_0) (a0_6_1) (a0_6_2) (a0_6_3) (a0_6_4) (a0_6_5) (a0_6_6) (a0_6_7) (a0_6_8) (a0_6_9) (a0_6_10) (a0_6_11) (a0_6_12) (a0_6_13) (a0_6_9_c) (a0_6_9_f) (by omega) (by omega) (by omega) (by omega)) ⟨va_cnB 1 hts (gwC qw_328) rfl rfl rfl (nm_36 hN) (hts (.initialized RX1) qw_183) (by decide +kernel) ⟨Nat.le_of_ble_eq_true rfl, Nat.le_of_ble_eq_true rfl⟩, (hts (.instanceMethod yX1_holdingFor) qw_329), (hts (.selects RX1 yX1_holdingFor yX1_holdingFor) qw_330)⟩ ⟨fun a U g9 mk q => ⟨q.1, q.2.1, va_K.moved (u := U) (U := U.calling g9 mk a) (Vm.Alike.refl U.vm) q.2.2.1, Ev.bl q.2.2.2⟩, va_recv hK hP (ci := 0) (q0 := 7) rfl rgL25_bf1b5b5, fun U hU hW => ⟨rfl, atB hU hPc, va_K.moved hW.alike hKc, hE.go hS (fun _ h => h.elim) hU hW⟩⟩ rfl rfl hl.1 rfl (lv_room (Nat.le_of_ble_eq_true rfl)) dX8_best_35 ⟨Nat.le_of_ble_eq_true rfl, Nat.le_of_ble_eq_true rfl⟩)).run (fun r18 h_r18 => ?_)
          have b_r18 := i32b r18
          refine lv_iload_n hx hb dX8_best_38 rfl (lv_at hl 3 rfl) ?_
          have hPc := (rgP25_62cba25 hP)
          have hKc := (rgK22_b93248d hK)
          have hDc := (rgD25_f6b6d71 hD)
          have hFc := freeW hDc hS hA
          refine va_calli (va_runVN (As := [.int a1, .int r18, .int a3]) (rest := []) ⟨hx, hb, hml, hown, hts⟩ (k_X6_bestToLift l dC dI g H.size (a0_2) (a1) (r18) (a3) (a0_2_0) (a0_2_1) (a0_2_2) (a0_2_3) (a0_2_4) (a0_2_5) (za0_2_6_10) (za0_2_7_11) (a0_2_3_c) (a0_2_3_f) (a0_2_4_c) (a0_2_4_f) (zrows_14) (by omega) (by omega) (RS.gr hRS h_a0_2_3_f) (by omega)) ⟨va_cnB 3 hts (gwC qw_339) rfl rfl rfl (nm_42 hN) (hts (.initialized RX6) qw_133) (by decide +kernel) ⟨Nat.le_of_ble_eq_true rfl, Nat.le_of_ble_eq_true rfl⟩, (hts (.instanceMethod yX6_bestToLift) qw_340), (hts (.selects RX6 yX6_bestToLift yX6_bestToLift) qw_341)⟩ ⟨fun a U g9 mk q => ⟨q.1, q.2.1, q.2.2.1, va_K.moved (u := U) (U := U.calling g9 mk a) (Vm.Alike.refl U.vm) q.2.2.2.1, q.2.2.2.2.1, Ev.bl q.2.2.2.2.2⟩, va_recv hK hP (ci := 5) (q0 := 1) rfl rgL25_59cac68, fun U hU hW => ⟨rfl, by rw [hU], atB hU hPc, va_K.moved hW.alike hKc, hDc.weaken (fun _ _ _ _ => trivial), hE.go hS hFc hU hW⟩⟩ rfl rfl hl.1 rfl (lv_room (Nat.le_of_ble_eq_true rfl)) dX8_best_39 ⟨Nat.le_of_ble_eq_true rfl, Nat.le_of_ble_eq_true rfl⟩) hS (fun q _ h => hFc q h) hFc (fun r20 u19 t H1 locs ht hvm h_u19 hB hz1 hk1 hS => ?_)
          obtain ⟨za0_4_f_21, hP1, hK1, hD1⟩ := hB
          have hK1 := va_K.moved hvm.symm hK1
          have hJ9 := rgJ25_cea8d0a hP hD hk1 hFc (atH ht hP1) hD1
          clear hP hD hPc hKc hDc hFc hP1 hD1 hk1 hz1
          obtain ⟨hP, hD⟩ := hJ9
          clear hK1
          generalize H1 = H at hP hS ⊢
          refine W.widen (k := 0) (n := 0) (Nat.le_of_ble_eq_true rfl) (Nat.le_of_ble_eq_true rfl) ?_
          have h_r20 := congrArg Int32.toInt h_u19
          have b_r20 := i32b r20
          refine W.widen (k := 0) (n := 0) (Nat.le_of_ble_eq_true rfl) (Nat.le_of_ble_eq_true rfl) ?_
          have hP9 := hP
          have hD9 := hD
          have hK9 := (rgK22_e8c0e9b hK)
          have hf9_0 : (0 ≤ za0_2_6_10.toInt ∧ za0_2_6_10.toInt ≤ 24) := by omega
          have hf9_1 : (0 ≤ za0_2_7_11.toInt ∧ za0_2_7_11.toInt ≤ 12) := by omega
          have hf9_2 : RS g.2.2.2.2.1 rows zrows_14 := hRS
          exact W.iret (v := r20) hx hb hr (fun t ht hW => ⟨⟨r20, r20, rfl, rfl, za0_10_9, za0_2_6_10, za0_2_7_11, za0_2_0_f_12, za0_2_1_f_13, za0_4_f_21, zrows_14, hf9_0, hf9_1, hf9_2, atB ht hP9, va_K.moved hW.alike hK9, hD9⟩, hS.F ht⟩) hS.2.2 dX8_best_42
        · have c20_6 : ¬ (a3.toInt ≤ 3) := mt (cv_le rfl (by decide)).mpr c20_6
          refine lv_iconst (v := (-1)) hx hb dX8_best_23 (by decide) ?_
          have qcm1 : ((-1) : Int32).toInt = (-1) := by decide
          refine W.widen (k := 0) (n := 0) (Nat.le_of_ble_eq_true rfl) (Nat.le_of_ble_eq_true rfl) ?_
          have hP9 := hP
          have hD9 := hD
          have hK9 := (rgK22_e8c0e9b hK)
          have hf9_0 : (0 ≤ a0_2_6.toInt ∧ a0_2_6.toInt ≤ 24) := by omega
          have hf9_1 : (0 ≤ a0_2_7.toInt ∧ a0_2_7.toInt ≤ 12) := by omega
          have hf9_2 : RS g.2.2.2.2.1 rows rows := hRS
          exact W.iret (v := (-1)) hx hb hr (fun t ht hW => ⟨⟨(-1), (-1), rfl, rfl, a0_10, a0_2_6, a0_2_7, a0_2_0_f, a0_2_1_f, a0_2_4_f, rows, hf9_0, hf9_1, hf9_2, atB ht hP9, va_K.moved hW.alike hK9, hD9⟩, hS.F ht⟩) hS.2.2 dX8_best_24
set_option maxHeartbeats 4000000 in
set_option maxRecDepth 100000 in
theorem k_J6_bitCount_0f7a4 (l : Launch) (dC : Nat → ClassId) (dI : Nat → Nat → Nat) (g : Gv) (a0 : Int32)  : Met l yJ6_bitCount_0f7a4 (.code yJ6_bitCount_0f7a4 cJ6_bitCount_0f7a4 1 (some .int) :: TBL) ({ frames := 0, cells := 0, slots := 0, locals := 0 }) (va_Pc [.int a0] (fun U => va_P (dC, dI) vwCl [] U.heap ∧ va_K (dC, dI) vwCl [] U ∧ Ev g (fun _ => False) U)) (vp_Si (fun (r : Int32) => True)) 0 0 (fun _ => False) := by
  refine Met.ofW (cc := cJ6_bitCount_0f7a4) (maxL := 1) (ret := (some .int)) (by decide) rfl ?_
  intro p e s m args below meth c s₁ B hml hv
  obtain ⟨rfl, hP, hK, hE⟩ := hv
  have hx := B.exec
  have hb := B.bytes
  have hr := B.returns
  have hts0 := atoms_spec (ws := (.code yJ6_bitCount_0f7a4 cJ6_bitCount_0f7a4 1 (some .int) :: TBL)) B.pre
  have hts := fun (w : Cond) (h : w ∈ TBL) => hts0 w (List.mem_cons_of_mem _ h)
  have hown : s.vm.findClass RJ6 = some m.cls := findClass_of_methodNamed B.named
  have hlocks := B.notSynchronized
  have hN := hE.1
  have hS : va_S (fun _ => False) s.heap s.heap [] := va_S.rf
  replace hP : va_P (dC, dI) vwCl [] s.heap := hP
  have hl := lv_entry ([.int a0]) (n := 1) (Nat.le_of_ble_eq_true rfl)
  rw [lg_entry_eq]
  generalize (lg_sl ([.int a0]) ++ List.replicate (1 - (lg_sl ([.int a0])).length) Slot.unset).toArray = ls at hl ⊢
  have hl : lv_has ls 1 [(0, .int a0)] := hl
  have b_a0 := i32b a0
  refine lv_iload_n hx hb dJ6_bitCount_0f7a4_0 rfl (lv_at hl 0 rfl) ?_
  refine lv_iload_n hx hb dJ6_bitCount_0f7a4_1 rfl (lv_at hl 0 rfl) ?_
  refine lv_iconst (v := 1) hx hb dJ6_bitCount_0f7a4_2 (by decide) ?_
  refine lv_iushr hx hb dJ6_bitCount_0f7a4_3 rfl ?_
  refine lv_topi (fun x1 e_x1 => ?_)
  refine lv_ldcw (v := 1431655765) hx hb hown (hts (.constant RJ6 265 (1431655765)) qw_342) dJ6_bitCount_0f7a4_4 ?_
  refine lv_iand hx hb dJ6_bitCount_0f7a4_7 ?_
  refine lv_topi (fun x2 e_x2 => ?_)
  have e_x2 := ti_and e_x2 (show (1431655765 : Int32).toInt = 1431655765 by decide) (by decide)
  refine lv_isub hx hb dJ6_bitCount_0f7a4_8 ?_
  refine lv_topi (fun x3 e_x3 => ?_)
  try have e_x3 := ti_sub e_x3 rfl rfl (by omega)
  refine lv_istore_n (lv' := [(0, .int x3)]) hx hb dJ6_bitCount_0f7a4_9 rfl hl (by decide) rfl (fun ls hl => ?_)
  refine lv_iload_n hx hb dJ6_bitCount_0f7a4_10 rfl (lv_at hl 0 rfl) ?_
  refine lv_ldcw (v := 858993459) hx hb hown (hts (.constant RJ6 266 (858993459)) qw_343) dJ6_bitCount_0f7a4_11 ?_
  refine lv_iand hx hb dJ6_bitCount_0f7a4_14 ?_
  refine lv_topi (fun x4 e_x4 => ?_)
  have e_x4 := ti_and e_x4 (show (858993459 : Int32).toInt = 858993459 by decide) (by decide)
  refine lv_iload_n hx hb dJ6_bitCount_0f7a4_15 rfl (lv_at hl 0 rfl) ?_
  refine lv_iconst (v := 2) hx hb dJ6_bitCount_0f7a4_16 (by decide) ?_
  refine lv_iushr hx hb dJ6_bitCount_0f7a4_17 rfl ?_
  refine lv_topi (fun x5 e_x5 => ?_)
  refine lv_ldcw (v := 858993459) hx hb hown (hts (.constant RJ6 266 (858993459)) qw_343) dJ6_bitCount_0f7a4_18 ?_
  refine lv_iand hx hb dJ6_bitCount_0f7a4_21 ?_
  refine lv_topi (fun x6 e_x6 => ?_)
  have e_x6 := ti_and e_x6 (show (858993459 : Int32).toInt = 858993459 by decide) (by decide)
  refine lv_iadd hx hb dJ6_bitCount_0f7a4_22 ?_
  refine lv_topi (fun x7 e_x7 => ?_)
  try have e_x7 := ti_add e_x7 rfl rfl (by omega)
  refine lv_istore_n (lv' := [(0, .int x7)]) hx hb dJ6_bitCount_0f7a4_23 rfl hl (by decide) rfl (fun ls hl => ?_)
  refine lv_iload_n hx hb dJ6_bitCount_0f7a4_24 rfl (lv_at hl 0 rfl) ?_
  refine lv_iload_n hx hb dJ6_bitCount_0f7a4_25 rfl (lv_at hl 0 rfl) ?_
  refine lv_iconst (v := 4) hx hb dJ6_bitCount_0f7a4_26 (by decide) ?_
  refine lv_iushr hx hb dJ6_bitCount_0f7a4_27 rfl ?_
  refine lv_topi (fun x8 e_x8 => ?_)
  refine lv_iadd hx hb dJ6_bitCount_0f7a4_28 ?_
  refine lv_topi (fun x9 e_x9 => ?_)
  try have e_x9 := ti_add e_x9 rfl rfl (by omega)
  refine lv_ldcw (v := 252645135) hx hb hown (hts (.constant RJ6 267 (252645135)) qw_344) dJ6_bitCount_0f7a4_29 ?_
  refine lv_iand hx hb dJ6_bitCount_0f7a4_32 ?_
  refine lv_topi (fun x10 e_x10 => ?_)
  have e_x10 := ti_and e_x10 (show (252645135 : Int32).toInt = 252645135 by decide) (by decide)
  refine lv_istore_n (lv' := [(0, .int x10)]) hx hb dJ6_bitCount_0f7a4_33 rfl hl (by decide) rfl (fun ls hl => ?_)
  refine lv_iload_n hx hb dJ6_bitCount_0f7a4_34 rfl (lv_at hl 0 rfl) ?_
  refine lv_iload_n hx hb dJ6_bitCount_0f7a4_35 rfl (lv_at hl 0 rfl) ?_
  refine lv_bipush (v := 8) hx hb dJ6_bitCount_0f7a4_36 (by decide) ?_
  refine lv_iushr hx hb dJ6_bitCount_0f7a4_38 rfl ?_
  refine lv_topi (fun x11 e_x11 => ?_)
  refine lv_iadd hx hb dJ6_bitCount_0f7a4_39 ?_
  refine lv_topi (fun x12 e_x12 => ?_)
  try have e_x12 := ti_add e_x12 rfl rfl (by omega)
  refine lv_istore_n (lv' := [(0, .int x12)]) hx hb dJ6_bitCount_0f7a4_40 rfl hl (by decide) rfl (fun ls hl => ?_)
  refine lv_iload_n hx hb dJ6_bitCount_0f7a4_41 rfl (lv_at hl 0 rfl) ?_
  refine lv_iload_n hx hb dJ6_bitCount_0f7a4_42 rfl (lv_at hl 0 rfl) ?_
  refine lv_bipush (v := 16) hx hb dJ6_bitCount_0f7a4_43 (by decide) ?_
  refine lv_iushr hx hb dJ6_bitCount_0f7a4_45 rfl ?_
  refine lv_topi (fun x13 e_x13 => ?_)
  refine lv_iadd hx hb dJ6_bitCount_0f7a4_46 ?_
  refine lv_topi (fun x14 e_x14 => ?_)
  try have e_x14 := ti_add e_x14 rfl rfl (by omega)
  refine lv_istore_n (lv' := [(0, .int x14)]) hx hb dJ6_bitCount_0f7a4_47 rfl hl (by decide) rfl (fun ls hl => ?_)
  refine lv_iload_n hx hb dJ6_bitCount_0f7a4_48 rfl (lv_at hl 0 rfl) ?_
  refine lv_bipush (v := 63) hx hb dJ6_bitCount_0f7a4_49 (by decide) ?_
  refine lv_iand hx hb dJ6_bitCount_0f7a4_51 ?_
  refine lv_topi (fun x15 e_x15 => ?_)
  have e_x15 := ti_and e_x15 (show (63 : Int32).toInt = 63 by decide) (by decide)
  exact W.iret (v := x15) hx hb hr (fun t ht hW => ⟨x15, rfl, trivial, ht⟩) (fun _ h => absurd h List.not_mem_nil) dJ6_bitCount_0f7a4_52
set_option maxHeartbeats 4000000 in
set_option maxRecDepth 100000 in
theorem k_X8_openWithout (l : Launch) (dC : Nat → ClassId) (dI : Nat → Nat → Nat) (g : Gv) (sz : Nat) (a0 : Nat) (a1 : Int32) (a2 : Int32) (a3 : Int32) (a0_0 : Nat) (a0_1 : Nat) (a0_2 : Nat) (a0_3 : Nat) (a0_4 : Nat) (a0_5 : Nat) (a0_6 : Nat) (a0_7 : Nat) (a0_8 : Nat) (a0_9 : Nat) (a0_10 : Int32) (a0_2_0 : Nat) (a0_2_1 : Nat) (a0_2_2 : Nat) (a0_2_3 : Nat) (a0_2_4 : Nat) (a0_2_5 : Nat) (a0_2_6 : Int32) (a0_2_7 : Int32) (a0_2_0_c : ClassId) (a0_2_0_f : Nat → Int32) (a0_2_1_c : ClassId) (a0_2_1_f : Nat → Int32) (a0_2_2_c : ClassId) (a0_2_2_f : Nat → Option Nat) (a0_2_3_c : ClassId) (a0_2_3_f : Nat → Option Nat) (a0_6_0 : Int32) (a0_6_1 : Nat) (a0_6_2 : Int32) (a0_6_3 : Nat) (a0_6_4 : Int32) (a0_6_5 : Nat) (a0_6_6 : Nat) (a0_6_7 : Nat) (a0_6_8 : Int32) (a0_6_9 : Nat) (a0_6_10 : Nat) (a0_6_11 : Nat) (a0_6_12 : Nat) (a0_6_13 : Nat) (a0_6_1_c : ClassId) (a0_6_1_f : Nat → Int32) (a0_6_3_c : ClassId) (a0_6_3_f : Nat → Int32) (a0_6_5_c : ClassId) (a0_6_5_f : Nat → Int32) (a0_6_6_c : ClassId) (a0_6_6_f : Nat → Int32) (a0_6_7_c : ClassId) (a0_6_7_f : Nat → Int32) (a0_6_9_c : ClassId) (a0_6_9_f : Nat → Int32) (a0_6_10_c : ClassId) (a0_6_10_f : Nat → Int32) (a0_6_11_c : ClassId) (a0_6_11_f : Nat → Int32) (a0_6_12_c : ClassId) (a0_6_12_f : Nat → Option Nat) (a0_6_13_c : ClassId) (a0_6_13_f : Nat → Int32) (a0_8_0 : Nat) (a0_8_1 : Nat) (a0_8_2 : Nat) (a0_8_3 : Nat) (a0_8_4 : Nat) (a0_8_5 : Nat) (a0_8_0_c : ClassId) (a0_8_0_f : Nat → Int32) (a0_8_1_c : ClassId) (a0_8_1_f : Nat → Int32) (a0_8_2_c : ClassId) (a0_8_2_f : Nat → Int32) (a0_8_3_c : ClassId) (a0_8_3_f : Nat → Int32) (a0_8_4_c : ClassId) (a0_8_4_f : Nat → Option Nat) (a0_8_5_c : ClassId) (a0_8_5_f : Nat → Option Nat) (rows : va_W) (h_a0_2_6 : 0 ≤ a0_2_6.toInt ∧ a0_2_6.toInt ≤ 24) (h_a0_2_7 : 0 ≤ a0_2_7.toInt ∧ a0_2_7.toInt ≤ 12) (h_a0_2_2_f : GR g.2.2.2.2.1 24 12 a0_2_2_f rows) (h_a0_2_3_f : GR g.2.2.2.2.1 24 12 a0_2_3_f rows) (h_a0_6_0 : 0 ≤ a0_6_0.toInt ∧ a0_6_0.toInt ≤ 8) (h_a0_6_2 : 0 ≤ a0_6_2.toInt ∧ a0_6_2.toInt ≤ 4) (h_a0_6_4 : 0 ≤ a0_6_4.toInt ∧ a0_6_4.toInt ≤ 24) (h_a0_6_8 : 0 ≤ a0_6_8.toInt ∧ a0_6_8.toInt ≤ 12) (h_a0_6_12_f : GR g.2.2.2.2.1 3 12 a0_6_12_f rows) (h_a0_8_3_f : vr 0 5 a0_8_3_f) (h_a0_8_4_f : GR g.2.2.2.2.1 5 12 a0_8_4_f rows) (h_a0_8_5_f : GR g.2.2.2.2.1 5 12 a0_8_5_f rows) (hho : HOk a0_6_9_f a0_6_10_f a0_6_8) : Met l yX8_openWithout (.code yX8_openWithout cX8_openWithout 5 (some .int) :: TBL) ({ frames := 7, cells := 0, slots := 0, locals := 168 }) (va_Pc [.ref a0, .int a1, .int a2, .int a3] (fun U => U.heap.size = sz ∧ va_P (dC, dI) vwCl (([(a0, .inr (7, [.ref a0_0, .ref a0_1, .ref a0_2, .ref a0_3, .ref a0_4, .ref a0_5, .ref a0_6, .ref a0_7, .ref a0_8, .ref a0_9, .int a0_10])), (a0_2, .inr (5, [.ref a0_2_0, .ref a0_2_1, .ref a0_2_2, .ref a0_2_3, .ref a0_2_4, .ref a0_2_5, .int a0_2_6, .int a0_2_7])), (a0_2_0, .inl (a0_2_0_c, 24, .inl a0_2_0_f)), (a0_2_1, .inl (a0_2_1_c, 24, .inl a0_2_1_f)), (a0_2_2, .inl (a0_2_2_c, 12, .inr (.inr (.inr (.inr a0_2_2_f))))), (a0_2_3, .inl (a0_2_3_c, 12, .inr (.inr (.inr (.inr a0_2_3_f))))), (a0_6, .inr (0, [.int a0_6_0, .ref a0_6_1, .int a0_6_2, .ref a0_6_3, .int a0_6_4, .ref a0_6_5, .ref a0_6_6, .ref a0_6_7, .int a0_6_8, .ref a0_6_9, .ref a0_6_10, .ref a0_6_11, .ref a0_6_12, .ref a0_6_13])), (a0_6_1, .inl (a0_6_1_c, 8, .inl a0_6_1_f)), (a0_6_3, .inl (a0_6_3_c, 4, .inl a0_6_3_f)), (a0_6_5, .inl (a0_6_5_c, 24, .inl a0_6_5_f)), (a0_6_6, .inl (a0_6_6_c, 24, .inl a0_6_6_f)), (a0_6_7, .inl (a0_6_7_c, 24, .inl a0_6_7_f)), (a0_6_9, .inl (a0_6_9_c, 12, .inl a0_6_9_f)), (a0_6_10, .inl (a0_6_10_c, 12, .inl a0_6_10_f)), (a0_6_11, .inl (a0_6_11_c, 12, .inl a0_6_11_f)), (a0_6_12, .inl (a0_6_12_c, 12, .inr (.inr (.inr (.inr a0_6_12_f))))), (a0_6_13, .inl (a0_6_13_c, 12, .inl a0_6_13_f)), (a0_8, .inr (2, [.ref a0_8_0, .ref a0_8_1, .ref a0_8_2, .ref a0_8_3, .ref a0_8_4, .ref a0_8_5])), (a0_8_0, .inl (a0_8_0_c, 24, .inl a0_8_0_f)), (a0_8_1, .inl (a0_8_1_c, 8, .inl a0_8_1_f)), (a0_8_2, .inl (a0_8_2_c, 12, .inl a0_8_2_f)), (a0_8_3, .inl (a0_8_3_c, 12, .inl a0_8_3_f)), (a0_8_4, .inl (a0_8_4_c, 12, .inr (.inr (.inr (.inr a0_8_4_f))))), (a0_8_5, .inl (a0_8_5_c, 12, .inr (.inr (.inr (.inr a0_8_5_f)))))] : va_W) ++ rows) U.heap ∧ va_K (dC, dI) vwCl [(a0_2_0_c, .int), (a0_2_1_c, .int), (a0_2_2_c, .array .int), (a0_2_3_c, .array .int), (a0_6_1_c, .int), (a0_6_3_c, .int), (a0_6_5_c, .int), (a0_6_6_c, .int), (a0_6_7_c, .int), (a0_6_9_c, .int), (a0_6_10_c, .int), (a0_6_11_c, .boolean), (a0_6_12_c, .array .int), (a0_6_13_c, .int), (a0_8_0_c, .int), (a0_8_1_c, .int), (a0_8_2_c, .int), (a0_8_3_c, .int), (a0_8_4_c, .array .int), (a0_8_5_c, .array .int)] U ∧ va_D (fun _ => True) (([(a0, .inr (7, [.ref a0_0, .ref a0_1, .ref a0_2, .ref a0_3, .ref a0_4, .ref a0_5, .ref a0_6, .ref a0_7, .ref a0_8, .ref a0_9, .int a0_10])), (a0_2, .inr (5, [.ref a0_2_0, .ref a0_2_1, .ref a0_2_2, .ref a0_2_3, .ref a0_2_4, .ref a0_2_5, .int a0_2_6, .int a0_2_7])), (a0_2_0, .inl (a0_2_0_c, 24, .inl a0_2_0_f)), (a0_2_1, .inl (a0_2_1_c, 24, .inl a0_2_1_f)), (a0_2_2, .inl (a0_2_2_c, 12, .inr (.inr (.inr (.inr a0_2_2_f))))), (a0_2_3, .inl (a0_2_3_c, 12, .inr (.inr (.inr (.inr a0_2_3_f))))), (a0_6, .inr (0, [.int a0_6_0, .ref a0_6_1, .int a0_6_2, .ref a0_6_3, .int a0_6_4, .ref a0_6_5, .ref a0_6_6, .ref a0_6_7, .int a0_6_8, .ref a0_6_9, .ref a0_6_10, .ref a0_6_11, .ref a0_6_12, .ref a0_6_13])), (a0_6_1, .inl (a0_6_1_c, 8, .inl a0_6_1_f)), (a0_6_3, .inl (a0_6_3_c, 4, .inl a0_6_3_f)), (a0_6_5, .inl (a0_6_5_c, 24, .inl a0_6_5_f)), (a0_6_6, .inl (a0_6_6_c, 24, .inl a0_6_6_f)), (a0_6_7, .inl (a0_6_7_c, 24, .inl a0_6_7_f)), (a0_6_9, .inl (a0_6_9_c, 12, .inl a0_6_9_f)), (a0_6_10, .inl (a0_6_10_c, 12, .inl a0_6_10_f)), (a0_6_11, .inl (a0_6_11_c, 12, .inl a0_6_11_f)), (a0_6_12, .inl (a0_6_12_c, 12, .inr (.inr (.inr (.inr a0_6_12_f))))), (a0_6_13, .inl (a0_6_13_c, 12, .inl a0_6_13_f)), (a0_8, .inr (2, [.ref a0_8_0, .ref a0_8_1, .ref a0_8_2, .ref a0_8_3, .ref a0_8_4, .ref a0_8_5])), (a0_8_0, .inl (a0_8_0_c, 24, .inl a0_8_0_f)), (a0_8_1, .inl (a0_8_1_c, 8, .inl a0_8_1_f)), (a0_8_2, .inl (a0_8_2_c, 12, .inl a0_8_2_f)), (a0_8_3, .inl (a0_8_3_c, 12, .inl a0_8_3_f)), (a0_8_4, .inl (a0_8_4_c, 12, .inr (.inr (.inr (.inr a0_8_4_f))))), (a0_8_5, .inl (a0_8_5_c, 12, .inr (.inr (.inr (.inr a0_8_5_f)))))] : va_W) ++ rows) ∧ Ev g (va_A (([(a0, .inr (7, [.ref a0_0, .ref a0_1, .ref a0_2, .ref a0_3, .ref a0_4, .ref a0_5, .ref a0_6, .ref a0_7, .ref a0_8, .ref a0_9, .int a0_10])), (a0_2, .inr (5, [.ref a0_2_0, .ref a0_2_1, .ref a0_2_2, .ref a0_2_3, .ref a0_2_4, .ref a0_2_5, .int a0_2_6, .int a0_2_7])), (a0_2_0, .inl (a0_2_0_c, 24, .inl a0_2_0_f)), (a0_2_1, .inl (a0_2_1_c, 24, .inl a0_2_1_f)), (a0_2_2, .inl (a0_2_2_c, 12, .inr (.inr (.inr (.inr a0_2_2_f))))), (a0_2_3, .inl (a0_2_3_c, 12, .inr (.inr (.inr (.inr a0_2_3_f))))), (a0_6, .inr (0, [.int a0_6_0, .ref a0_6_1, .int a0_6_2, .ref a0_6_3, .int a0_6_4, .ref a0_6_5, .ref a0_6_6, .ref a0_6_7, .int a0_6_8, .ref a0_6_9, .ref a0_6_10, .ref a0_6_11, .ref a0_6_12, .ref a0_6_13])), (a0_6_1, .inl (a0_6_1_c, 8, .inl a0_6_1_f)), (a0_6_3, .inl (a0_6_3_c, 4, .inl a0_6_3_f)), (a0_6_5, .inl (a0_6_5_c, 24, .inl a0_6_5_f)), (a0_6_6, .inl (a0_6_6_c, 24, .inl a0_6_6_f)), (a0_6_7, .inl (a0_6_7_c, 24, .inl a0_6_7_f)), (a0_6_9, .inl (a0_6_9_c, 12, .inl a0_6_9_f)), (a0_6_10, .inl (a0_6_10_c, 12, .inl a0_6_10_f)), (a0_6_11, .inl (a0_6_11_c, 12, .inl a0_6_11_f)), (a0_6_12, .inl (a0_6_12_c, 12, .inr (.inr (.inr (.inr a0_6_12_f))))), (a0_6_13, .inl (a0_6_13_c, 12, .inl a0_6_13_f)), (a0_8, .inr (2, [.ref a0_8_0, .ref a0_8_1, .ref a0_8_2, .ref a0_8_3, .ref a0_8_4, .ref a0_8_5])), (a0_8_0, .inl (a0_8_0_c, 24, .inl a0_8_0_f)), (a0_8_1, .inl (a0_8_1_c, 8, .inl a0_8_1_f)), (a0_8_2, .inl (a0_8_2_c, 12, .inl a0_8_2_f)), (a0_8_3, .inl (a0_8_3_c, 12, .inl a0_8_3_f)), (a0_8_4, .inl (a0_8_4_c, 12, .inr (.inr (.inr (.inr a0_8_4_f))))), (a0_8_5, .inl (a0_8_5_c, 12, .inr (.inr (.inr (.inr a0_8_5_f)))))] : va_W) ++ rows) sz) U)) (va_Qi (fun (r : Int32) (u : Int32) => u = r) (fun (u : Int32) (t : State) => ∃ (za0_10 : Int32) (za0_2_6 : Int32) (za0_2_7 : Int32) (za0_2_0_f : Nat → Int32) (za0_2_1_f : Nat → Int32) (zrows : va_W), (0 ≤ za0_2_6.toInt ∧ za0_2_6.toInt ≤ 24) ∧ (0 ≤ za0_2_7.toInt ∧ za0_2_7.toInt ≤ 12) ∧ RS g.2.2.2.2.1 rows zrows ∧ va_P (dC, dI) vwCl (([(a0, .inr (7, [.ref a0_0, .ref a0_1, .ref a0_2, .ref a0_3, .ref a0_4, .ref a0_5, .ref a0_6, .ref a0_7, .ref a0_8, .ref a0_9, .int za0_10])), (a0_2, .inr (5, [.ref a0_2_0, .ref a0_2_1, .ref a0_2_2, .ref a0_2_3, .ref a0_2_4, .ref a0_2_5, .int za0_2_6, .int za0_2_7])), (a0_2_0, .inl (a0_2_0_c, 24, .inl za0_2_0_f)), (a0_2_1, .inl (a0_2_1_c, 24, .inl za0_2_1_f)), (a0_2_2, .inl (a0_2_2_c, 12, .inr (.inr (.inr (.inr a0_2_2_f))))), (a0_2_3, .inl (a0_2_3_c, 12, .inr (.inr (.inr (.inr a0_2_3_f))))), (a0_6, .inr (0, [.int a0_6_0, .ref a0_6_1, .int a0_6_2, .ref a0_6_3, .int a0_6_4, .ref a0_6_5, .ref a0_6_6, .ref a0_6_7, .int a0_6_8, .ref a0_6_9, .ref a0_6_10, .ref a0_6_11, .ref a0_6_12, .ref a0_6_13])), (a0_6_1, .inl (a0_6_1_c, 8, .inl a0_6_1_f)), (a0_6_3, .inl (a0_6_3_c, 4, .inl a0_6_3_f)), (a0_6_5, .inl (a0_6_5_c, 24, .inl a0_6_5_f)), (a0_6_6, .inl (a0_6_6_c, 24, .inl a0_6_6_f)), (a0_6_7, .inl (a0_6_7_c, 24, .inl a0_6_7_f)), (a0_6_9, .inl (a0_6_9_c, 12, .inl a0_6_9_f)), (a0_6_10, .inl (a0_6_10_c, 12, .inl a0_6_10_f)), (a0_6_11, .inl (a0_6_11_c, 12, .inl a0_6_11_f)), (a0_6_12, .inl (a0_6_12_c, 12, .inr (.inr (.inr (.inr a0_6_12_f))))), (a0_6_13, .inl (a0_6_13_c, 12, .inl a0_6_13_f)), (a0_8, .inr (2, [.ref a0_8_0, .ref a0_8_1, .ref a0_8_2, .ref a0_8_3, .ref a0_8_4, .ref a0_8_5])), (a0_8_0, .inl (a0_8_0_c, 24, .inl a0_8_0_f)), (a0_8_1, .inl (a0_8_1_c, 8, .inl a0_8_1_f)), (a0_8_2, .inl (a0_8_2_c, 12, .inl a0_8_2_f)), (a0_8_3, .inl (a0_8_3_c, 12, .inl a0_8_3_f)), (a0_8_4, .inl (a0_8_4_c, 12, .inr (.inr (.inr (.inr a0_8_4_f))))), (a0_8_5, .inl (a0_8_5_c, 12, .inr (.inr (.inr (.inr a0_8_5_f)))))] : va_W) ++ zrows) t.heap ∧ va_K (dC, dI) vwCl [] t ∧ va_D (va_A (([(a0, .inr (7, [.ref a0_0, .ref a0_1, .ref a0_2, .ref a0_3, .ref a0_4, .ref a0_5, .ref a0_6, .ref a0_7, .ref a0_8, .ref a0_9, .int a0_10])), (a0_2, .inr (5, [.ref a0_2_0, .ref a0_2_1, .ref a0_2_2, .ref a0_2_3, .ref a0_2_4, .ref a0_2_5, .int a0_2_6, .int a0_2_7])), (a0_2_0, .inl (a0_2_0_c, 24, .inl a0_2_0_f)), (a0_2_1, .inl (a0_2_1_c, 24, .inl a0_2_1_f)), (a0_2_2, .inl (a0_2_2_c, 12, .inr (.inr (.inr (.inr a0_2_2_f))))), (a0_2_3, .inl (a0_2_3_c, 12, .inr (.inr (.inr (.inr a0_2_3_f))))), (a0_6, .inr (0, [.int a0_6_0, .ref a0_6_1, .int a0_6_2, .ref a0_6_3, .int a0_6_4, .ref a0_6_5, .ref a0_6_6, .ref a0_6_7, .int a0_6_8, .ref a0_6_9, .ref a0_6_10, .ref a0_6_11, .ref a0_6_12, .ref a0_6_13])), (a0_6_1, .inl (a0_6_1_c, 8, .inl a0_6_1_f)), (a0_6_3, .inl (a0_6_3_c, 4, .inl a0_6_3_f)), (a0_6_5, .inl (a0_6_5_c, 24, .inl a0_6_5_f)), (a0_6_6, .inl (a0_6_6_c, 24, .inl a0_6_6_f)), (a0_6_7, .inl (a0_6_7_c, 24, .inl a0_6_7_f)), (a0_6_9, .inl (a0_6_9_c, 12, .inl a0_6_9_f)), (a0_6_10, .inl (a0_6_10_c, 12, .inl a0_6_10_f)), (a0_6_11, .inl (a0_6_11_c, 12, .inl a0_6_11_f)), (a0_6_12, .inl (a0_6_12_c, 12, .inr (.inr (.inr (.inr a0_6_12_f))))), (a0_6_13, .inl (a0_6_13_c, 12, .inl a0_6_13_f)), (a0_8, .inr (2, [.ref a0_8_0, .ref a0_8_1, .ref a0_8_2, .ref a0_8_3, .ref a0_8_4, .ref a0_8_5])), (a0_8_0, .inl (a0_8_0_c, 24, .inl a0_8_0_f)), (a0_8_1, .inl (a0_8_1_c, 8, .inl a0_8_1_f)), (a0_8_2, .inl (a0_8_2_c, 12, .inl a0_8_2_f)), (a0_8_3, .inl (a0_8_3_c, 12, .inl a0_8_3_f)), (a0_8_4, .inl (a0_8_4_c, 12, .inr (.inr (.inr (.inr a0_8_4_f))))), (a0_8_5, .inl (a0_8_5_c, 12, .inr (.inr (.inr (.inr a0_8_5_f)))))] : va_W) ++ rows) sz) (([(a0, .inr (7, [.ref a0_0, .ref a0_1, .ref a0_2, .ref a0_3, .ref a0_4, .ref a0_5, .ref a0_6, .ref a0_7, .ref a0_8, .ref a0_9, .int za0_10])), (a0_2, .inr (5, [.ref a0_2_0, .ref a0_2_1, .ref a0_2_2, .ref a0_2_3, .ref a0_2_4, .ref a0_2_5, .int za0_2_6, .int za0_2_7])), (a0_2_0, .inl (a0_2_0_c, 24, .inl za0_2_0_f)), (a0_2_1, .inl (a0_2_1_c, 24, .inl za0_2_1_f)), (a0_2_2, .inl (a0_2_2_c, 12, .inr (.inr (.inr (.inr a0_2_2_f))))), (a0_2_3, .inl (a0_2_3_c, 12, .inr (.inr (.inr (.inr a0_2_3_f))))), (a0_6, .inr (0, [.int a0_6_0, .ref a0_6_1, .int a0_6_2, .ref a0_6_3, .int a0_6_4, .ref a0_6_5, .ref a0_6_6, .ref a0_6_7, .int a0_6_8, .ref a0_6_9, .ref a0_6_10, .ref a0_6_11, .ref a0_6_12, .ref a0_6_13])), (a0_6_1, .inl (a0_6_1_c, 8, .inl a0_6_1_f)), (a0_6_3, .inl (a0_6_3_c, 4, .inl a0_6_3_f)), (a0_6_5, .inl (a0_6_5_c, 24, .inl a0_6_5_f)), (a0_6_6, .inl (a0_6_6_c, 24, .inl a0_6_6_f)), (a0_6_7, .inl (a0_6_7_c, 24, .inl a0_6_7_f)), (a0_6_9, .inl (a0_6_9_c, 12, .inl a0_6_9_f)), (a0_6_10, .inl (a0_6_10_c, 12, .inl a0_6_10_f)), (a0_6_11, .inl (a0_6_11_c, 12, .inl a0_6_11_f)), (a0_6_12, .inl (a0_6_12_c, 12, .inr (.inr (.inr (.inr a0_6_12_f))))), (a0_6_13, .inl (a0_6_13_c, 12, .inl a0_6_13_f)), (a0_8, .inr (2, [.ref a0_8_0, .ref a0_8_1, .ref a0_8_2, .ref a0_8_3, .ref a0_8_4, .ref a0_8_5])), (a0_8_0, .inl (a0_8_0_c, 24, .inl a0_8_0_f)), (a0_8_1, .inl (a0_8_1_c, 8, .inl a0_8_1_f)), (a0_8_2, .inl (a0_8_2_c, 12, .inl a0_8_2_f)), (a0_8_3, .inl (a0_8_3_c, 12, .inl a0_8_3_f)), (a0_8_4, .inl (a0_8_4_c, 12, .inr (.inr (.inr (.inr a0_8_4_f))))), (a0_8_5, .inl (a0_8_5_c, 12, .inr (.inr (.inr (.inr a0_8_5_f)))))] : va_W) ++ zrows)) (va_A (([(a0, .inr (7, [.ref a0_0, .ref a0_1, .ref a0_2, .ref a0_3, .ref a0_4, .ref a0_5, .ref a0_6, .ref a0_7, .ref a0_8, .ref a0_9, .int a0_10])), (a0_2, .inr (5, [.ref a0_2_0, .ref a0_2_1, .ref a0_2_2, .ref a0_2_3, .ref a0_2_4, .ref a0_2_5, .int a0_2_6, .int a0_2_7])), (a0_2_0, .inl (a0_2_0_c, 24, .inl a0_2_0_f)), (a0_2_1, .inl (a0_2_1_c, 24, .inl a0_2_1_f)), (a0_2_2, .inl (a0_2_2_c, 12, .inr (.inr (.inr (.inr a0_2_2_f))))), (a0_2_3, .inl (a0_2_3_c, 12, .inr (.inr (.inr (.inr a0_2_3_f))))), (a0_6, .inr (0, [.int a0_6_0, .ref a0_6_1, .int a0_6_2, .ref a0_6_3, .int a0_6_4, .ref a0_6_5, .ref a0_6_6, .ref a0_6_7, .int a0_6_8, .ref a0_6_9, .ref a0_6_10, .ref a0_6_11, .ref a0_6_12, .ref a0_6_13])), (a0_6_1, .inl (a0_6_1_c, 8, .inl a0_6_1_f)), (a0_6_3, .inl (a0_6_3_c, 4, .inl a0_6_3_f)), (a0_6_5, .inl (a0_6_5_c, 24, .inl a0_6_5_f)), (a0_6_6, .inl (a0_6_6_c, 24, .inl a0_6_6_f)), (a0_6_7, .inl (a0_6_7_c, 24, .inl a0_6_7_f)), (a0_6_9, .inl (a0_6_9_c, 12, .inl a0_6_9_f)), (a0_6_10, .inl (a0_6_10_c, 12, .inl a0_6_10_f)), (a0_6_11, .inl (a0_6_11_c, 12, .inl a0_6_11_f)), (a0_6_12, .inl (a0_6_12_c, 12, .inr (.inr (.inr (.inr a0_6_12_f))))), (a0_6_13, .inl (a0_6_13_c, 12, .inl a0_6_13_f)), (a0_8, .inr (2, [.ref a0_8_0, .ref a0_8_1, .ref a0_8_2, .ref a0_8_3, .ref a0_8_4, .ref a0_8_5])), (a0_8_0, .inl (a0_8_0_c, 24, .inl a0_8_0_f)), (a0_8_1, .inl (a0_8_1_c, 8, .inl a0_8_1_f)), (a0_8_2, .inl (a0_8_2_c, 12, .inl a0_8_2_f)), (a0_8_3, .inl (a0_8_3_c, 12, .inl a0_8_3_f)), (a0_8_4, .inl (a0_8_4_c, 12, .inr (.inr (.inr (.inr a0_8_4_f))))), (a0_8_5, .inl (a0_8_5_c, 12, .inr (.inr (.inr (.inr a0_8_5_f)))))] : va_W) ++ rows) sz)) 0 0 (va_A (([(a0, .inr (7, [.ref a0_0, .ref a0_1, .ref a0_2, .ref a0_3, .ref a0_4, .ref a0_5, .ref a0_6, .ref a0_7, .ref a0_8, .ref a0_9, .int a0_10])), (a0_2, .inr (5, [.ref a0_2_0, .ref a0_2_1, .ref a0_2_2, .ref a0_2_3, .ref a0_2_4, .ref a0_2_5, .int a0_2_6, .int a0_2_7])), (a0_2_0, .inl (a0_2_0_c, 24, .inl a0_2_0_f)), (a0_2_1, .inl (a0_2_1_c, 24, .inl a0_2_1_f)), (a0_2_2, .inl (a0_2_2_c, 12, .inr (.inr (.inr (.inr a0_2_2_f))))), (a0_2_3, .inl (a0_2_3_c, 12, .inr (.inr (.inr (.inr a0_2_3_f))))), (a0_6, .inr (0, [.int a0_6_0, .ref a0_6_1, .int a0_6_2, .ref a0_6_3, .int a0_6_4, .ref a0_6_5, .ref a0_6_6, .ref a0_6_7, .int a0_6_8, .ref a0_6_9, .ref a0_6_10, .ref a0_6_11, .ref a0_6_12, .ref a0_6_13])), (a0_6_1, .inl (a0_6_1_c, 8, .inl a0_6_1_f)), (a0_6_3, .inl (a0_6_3_c, 4, .inl a0_6_3_f)), (a0_6_5, .inl (a0_6_5_c, 24, .inl a0_6_5_f)), (a0_6_6, .inl (a0_6_6_c, 24, .inl a0_6_6_f)), (a0_6_7, .inl (a0_6_7_c, 24, .inl a0_6_7_f)), (a0_6_9, .inl (a0_6_9_c, 12, .inl a0_6_9_f)), (a0_6_10, .inl (a0_6_10_c, 12, .inl a0_6_10_f)), (a0_6_11, .inl (a0_6_11_c, 12, .inl a0_6_11_f)), (a0_6_12, .inl (a0_6_12_c, 12, .inr (.inr (.inr (.inr a0_6_12_f))))), (a0_6_13, .inl (a0_6_13_c, 12, .inl a0_6_13_f)), (a0_8, .inr (2, [.ref a0_8_0, .ref a0_8_1, .ref a0_8_2, .ref a0_8_3, .ref a0_8_4, .ref a0_8_5])), (a0_8_0, .inl (a0_8_0_c, 24, .inl a0_8_0_f)), (a0_8_1, .inl (a0_8_1_c, 8, .inl a0_8_1_f)), (a0_8_2, .inl (a0_8_2_c, 12, .inl a0_8_2_f)), (a0_8_3, .inl (a0_8_3_c, 12, .inl a0_8_3_f)), (a0_8_4, .inl (a0_8_4_c, 12, .inr (.inr (.inr (.inr a0_8_4_f))))), (a0_8_5, .inl (a0_8_5_c, 12, .inr (.inr (.inr (.inr a0_8_5_f)))))] : va_W) ++ rows) sz) := by
  refine Met.ofW (cc := cX8_openWithout) (maxL := 5) (ret := (some .int)) (by decide) rfl ?_
  intro p e s m args below meth c s₁ B hml hv
  obtain ⟨rfl, hsz, hP, hK, hD0, hE⟩ := hv
  have hx := B.exec
  have hb := B.bytes
  have hr := B.returns
  have hts0 := atoms_spec (ws := (.code yX8_openWithout cX8_openWithout 5 (some .int) :: TBL)) B.pre
  have hts := fun (w : Cond) (h : w ∈ TBL) => hts0 w (List.mem_cons_of_mem _ h)
  have hown : s.vm.findClass RX8 = some m.cls := findClass_of_methodNamed B.named
  have hlocks := B.notSynchronized
  have hN := hE.1
  subst hsz
  have hD := hD0.self (sz := s.heap.size)
  generalize hAe : va_A (([(a0, .inr (7, [.ref a0_0, .ref a0_1, .ref a0_2, .ref a0_3, .ref a0_4, .ref a0_5, .ref a0_6, .ref a0_7, .ref a0_8, .ref a0_9, .int a0_10])), (a0_2, .inr (5, [.ref a0_2_0, .ref a0_2_1, .ref a0_2_2, .ref a0_2_3, .ref a0_2_4, .ref a0_2_5, .int a0_2_6, .int a0_2_7])), (a0_2_0, .inl (a0_2_0_c, 24, .inl a0_2_0_f)), (a0_2_1, .inl (a0_2_1_c, 24, .inl a0_2_1_f)), (a0_2_2, .inl (a0_2_2_c, 12, .inr (.inr (.inr (.inr a0_2_2_f))))), (a0_2_3, .inl (a0_2_3_c, 12, .inr (.inr (.inr (.inr a0_2_3_f))))), (a0_6, .inr (0, [.int a0_6_0, .ref a0_6_1, .int a0_6_2, .ref a0_6_3, .int a0_6_4, .ref a0_6_5, .ref a0_6_6, .ref a0_6_7, .int a0_6_8, .ref a0_6_9, .ref a0_6_10, .ref a0_6_11, .ref a0_6_12, .ref a0_6_13])), (a0_6_1, .inl (a0_6_1_c, 8, .inl a0_6_1_f)), (a0_6_3, .inl (a0_6_3_c, 4, .inl a0_6_3_f)), (a0_6_5, .inl (a0_6_5_c, 24, .inl a0_6_5_f)), (a0_6_6, .inl (a0_6_6_c, 24, .inl a0_6_6_f)), (a0_6_7, .inl (a0_6_7_c, 24, .inl a0_6_7_f)), (a0_6_9, .inl (a0_6_9_c, 12, .inl a0_6_9_f)), (a0_6_10, .inl (a0_6_10_c, 12, .inl a0_6_10_f)), (a0_6_11, .inl (a0_6_11_c, 12, .inl a0_6_11_f)), (a0_6_12, .inl (a0_6_12_c, 12, .inr (.inr (.inr (.inr a0_6_12_f))))), (a0_6_13, .inl (a0_6_13_c, 12, .inl a0_6_13_f)), (a0_8, .inr (2, [.ref a0_8_0, .ref a0_8_1, .ref a0_8_2, .ref a0_8_3, .ref a0_8_4, .ref a0_8_5])), (a0_8_0, .inl (a0_8_0_c, 24, .inl a0_8_0_f)), (a0_8_1, .inl (a0_8_1_c, 8, .inl a0_8_1_f)), (a0_8_2, .inl (a0_8_2_c, 12, .inl a0_8_2_f)), (a0_8_3, .inl (a0_8_3_c, 12, .inl a0_8_3_f)), (a0_8_4, .inl (a0_8_4_c, 12, .inr (.inr (.inr (.inr a0_8_4_f))))), (a0_8_5, .inl (a0_8_5_c, 12, .inr (.inr (.inr (.inr a0_8_5_f)))))] : va_W) ++ rows) s.heap.size = A at hD hE ⊢
  have hA : ∀ q : Nat, s.heap.size ≤ q → A q := fun q h => by rw [← hAe]; exact Or.inr h
  have hS : va_S A s.heap s.heap [] := va_S.rf
  replace hP : va_P (dC, dI) vwCl (([(a0, .inr (7, [.ref a0_0, .ref a0_1, .ref a0_2, .ref a0_3, .ref a0_4, .ref a0_5, .ref a0_6, .ref a0_7, .ref a0_8, .ref a0_9, .int a0_10])), (a0_2, .inr (5, [.ref a0_2_0, .ref a0_2_1, .ref a0_2_2, .ref a0_2_3, .ref a0_2_4, .ref a0_2_5, .int a0_2_6, .int a0_2_7])), (a0_2_0, .inl (a0_2_0_c, 24, .inl a0_2_0_f)), (a0_2_1, .inl (a0_2_1_c, 24, .inl a0_2_1_f)), (a0_2_2, .inl (a0_2_2_c, 12, .inr (.inr (.inr (.inr a0_2_2_f))))), (a0_2_3, .inl (a0_2_3_c, 12, .inr (.inr (.inr (.inr a0_2_3_f))))), (a0_6, .inr (0, [.int a0_6_0, .ref a0_6_1, .int a0_6_2, .ref a0_6_3, .int a0_6_4, .ref a0_6_5, .ref a0_6_6, .ref a0_6_7, .int a0_6_8, .ref a0_6_9, .ref a0_6_10, .ref a0_6_11, .ref a0_6_12, .ref a0_6_13])), (a0_6_1, .inl (a0_6_1_c, 8, .inl a0_6_1_f)), (a0_6_3, .inl (a0_6_3_c, 4, .inl a0_6_3_f)), (a0_6_5, .inl (a0_6_5_c, 24, .inl a0_6_5_f)), (a0_6_6, .inl (a0_6_6_c, 24, .inl a0_6_6_f)), (a0_6_7, .inl (a0_6_7_c, 24, .inl a0_6_7_f)), (a0_6_9, .inl (a0_6_9_c, 12, .inl a0_6_9_f)), (a0_6_10, .inl (a0_6_10_c, 12, .inl a0_6_10_f)), (a0_6_11, .inl (a0_6_11_c, 12, .inl a0_6_11_f)), (a0_6_12, .inl (a0_6_12_c, 12, .inr (.inr (.inr (.inr a0_6_12_f))))), (a0_6_13, .inl (a0_6_13_c, 12, .inl a0_6_13_f)), (a0_8, .inr (2, [.ref a0_8_0, .ref a0_8_1, .ref a0_8_2, .ref a0_8_3, .ref a0_8_4, .ref a0_8_5])), (a0_8_0, .inl (a0_8_0_c, 24, .inl a0_8_0_f)), (a0_8_1, .inl (a0_8_1_c, 8, .inl a0_8_1_f)), (a0_8_2, .inl (a0_8_2_c, 12, .inl a0_8_2_f)), (a0_8_3, .inl (a0_8_3_c, 12, .inl a0_8_3_f)), (a0_8_4, .inl (a0_8_4_c, 12, .inr (.inr (.inr (.inr a0_8_4_f))))), (a0_8_5, .inl (a0_8_5_c, 12, .inr (.inr (.inr (.inr a0_8_5_f)))))] : va_W) ++ rows) s.heap := hP
  have hl := lv_entry ([.ref a0, .int a1, .int a2, .int a3]) (n := 5) (Nat.le_of_ble_eq_true rfl)
  rw [lg_entry_eq]
  generalize (lg_sl ([.ref a0, .int a1, .int a2, .int a3]) ++ List.replicate (5 - (lg_sl ([.ref a0, .int a1, .int a2, .int a3])).length) Slot.unset).toArray = ls at hl ⊢
  have hl : lv_has ls 5 [(0, .ref a0), (1, .int a1), (2, .int a2), (3, .int a3)] := hl
  have hK := cyK hK (hts (.arrayClass .int) qw_54) hE.2.2.2.2.2.2.2.2.2.2.2.2.1
  replace hK : va_K (dC, dI) vwCl [(a0_2_0_c, .int), (a0_2_1_c, .int), (a0_2_2_c, .array .int), (a0_2_3_c, .array .int), (a0_6_1_c, .int), (a0_6_3_c, .int), (a0_6_5_c, .int), (a0_6_6_c, .int), (a0_6_7_c, .int), (a0_6_9_c, .int), (a0_6_10_c, .int), (a0_6_11_c, .boolean), (a0_6_12_c, .array .int), (a0_6_13_c, .int), (a0_8_0_c, .int), (a0_8_1_c, .int), (a0_8_2_c, .int), (a0_8_3_c, .int), (a0_8_4_c, .array .int), (a0_8_5_c, .array .int), (g.2.2.2.2.1, .int)] s := hK
  have b_a1 := i32b a1
  have b_a2 := i32b a2
  have b_a3 := i32b a3
  have b_a0_10 := i32b a0_10
  have hRS : RS g.2.2.2.2.1 rows rows := RS.rf
  refine lv_iload_n hx hb dX8_openWithout_0 rfl (lv_at hl 3 rfl) ?_
  refine lv_if_lt (tgt := 21) hx hb dX8_openWithout_1 (by decide) (fun c1_1 => ?_) (fun c1_1 => ?_)
  · have c1_1 : a3.toInt < 0 := (cv_lt rfl (by decide)).mp c1_1
    refine lv_iconst (v := 0) hx hb dX8_openWithout_21 (by decide) ?_
    refine lv_istore (lv' := [(4, .int 0), (0, .ref a0), (1, .int a1), (2, .int a2), (3, .int a3)]) hx hb dX8_openWithout_22 hl (by decide) rfl (fun ls hl => ?_)
    refine lv_iload hx hb dX8_openWithout_24 (lv_at hl 0 rfl) ?_
    refine lv_if_eq (tgt := 43) hx hb dX8_openWithout_26 (by decide) (fun c26_2 => ?_) (fun c26_2 => by exfalso; exact absurd c26_2 (by decide))
    refine lv_iconst (v := (-1)) hx hb dX8_openWithout_43 (by decide) ?_
    have qcm1 : ((-1) : Int32).toInt = (-1) := by decide
    refine W.widen (k := 0) (n := 0) (Nat.le_of_ble_eq_true rfl) (Nat.le_of_ble_eq_true rfl) ?_
    have hP9 := hP
    have hD9 := hD
    have hK9 := (rgK21_98db583 hK)
    have hf9_0 : (0 ≤ a0_2_6.toInt ∧ a0_2_6.toInt ≤ 24) := by omega
    have hf9_1 : (0 ≤ a0_2_7.toInt ∧ a0_2_7.toInt ≤ 12) := by omega
    have hf9_2 : RS g.2.2.2.2.1 rows rows := hRS
    exact W.iret (v := (-1)) hx hb hr (fun t ht hW => ⟨⟨(-1), (-1), rfl, rfl, a0_10, a0_2_6, a0_2_7, a0_2_0_f, a0_2_1_f, rows, hf9_0, hf9_1, hf9_2, atB ht hP9, va_K.moved hW.alike hK9, hD9⟩, hS.F ht⟩) hS.2.2 dX8_openWithout_44
  · have c1_1 : ¬ (a3.toInt < 0) := mt (cv_lt rfl (by decide)).mpr c1_1
    refine lv_iload_n hx hb dX8_openWithout_4 rfl (lv_at hl 3 rfl) ?_
    refine lv_iconst (v := 1) hx hb dX8_openWithout_5 (by decide) ?_
    refine lv_aload_n hx hb dX8_openWithout_6 rfl (lv_at hl 0 rfl) ?_
    refine va_get (D := (dC, dI)) (ci := 7) (v := .ref a0_6) (C := RX8) (T := TX8) (N := 11) hx hb hts inlX8 hown hK hP 0 rgL24_10cdad0 rfl 6 (by decide) (hts (.fieldLink RX8 51 "ClosedUntil" "told" "LClosedUntil$Holdings;") qw_262) (fun _ h9 => h9) rfl dX8_openWithout_7 ?_
    refine va_getN (D := (dC, dI)) (ci := 0) (v := .int a0_6_8) (C := RX1) (T := TX1) (N := 14) hx hb hts inlX1 hown hK hP 6 rgL24_1681731 rfl 8 (by decide) (va_Nw.use rfl (nf_47 hN)) (fun _ h9 => h9) rfl dX8_openWithout_10 ?_
    refine lv_ishl hx hb dX8_openWithout_13 ?_
    refine lv_topi (fun x3 e_x3 => ?_)
    refine lv_icmp_ge (tgt := 21) hx hb dX8_openWithout_14 (by decide) (fun c14_4 => ?_) (fun c14_4 => ?_)
    · have c14_4 : x3.toInt ≤ a3.toInt := (cv_le rfl rfl).mp c14_4
      refine lv_iconst (v := 0) hx hb dX8_openWithout_21 (by decide) ?_
      refine lv_istore (lv' := [(4, .int 0), (0, .ref a0), (1, .int a1), (2, .int a2), (3, .int a3)]) hx hb dX8_openWithout_22 hl (by decide) rfl (fun ls hl => ?_)
      refine lv_iload hx hb dX8_openWithout_24 (lv_at hl 0 rfl) ?_
      refine lv_if_eq (tgt := 43) hx hb dX8_openWithout_26 (by decide) (fun c26_5 => ?_) (fun c26_5 => by exfalso; exact absurd c26_5 (by decide))
      refine lv_iconst (v := (-1)) hx hb dX8_openWithout_43 (by decide) ?_
      have qcm1 : ((-1) : Int32).toInt = (-1) := by decide
      refine W.widen (k := 0) (n := 0) (Nat.le_of_ble_eq_true rfl) (Nat.le_of_ble_eq_true rfl) ?_
      have hP9 := hP
      have hD9 := hD
      have hK9 := (rgK21_98db583 hK)
      have hf9_0 : (0 ≤ a0_2_6.toInt ∧ a0_2_6.toInt ≤ 24) := by omega
      have hf9_1 : (0 ≤ a0_2_7.toInt ∧ a0_2_7.toInt ≤ 12) := by omega
      have hf9_2 : RS g.2.2.2.2.1 rows rows := hRS
      exact W.iret (v := (-1)) hx hb hr (fun t ht hW => ⟨⟨(-1), (-1), rfl, rfl, a0_10, a0_2_6, a0_2_7, a0_2_0_f, a0_2_1_f, rows, hf9_0, hf9_1, hf9_2, atB ht hP9, va_K.moved hW.alike hK9, hD9⟩, hS.F ht⟩) hS.2.2 dX8_openWithout_44
    · have c14_4 : ¬ (x3.toInt ≤ a3.toInt) := mt (cv_le rfl rfl).mpr c14_4
      refine lv_iconst (v := 1) hx hb dX8_openWithout_17 (by decide) ?_
      refine lv_goto (tgt := 22) hx hb dX8_openWithout_18 (by decide) ?_
      refine lv_istore (lv' := [(4, .int 1), (0, .ref a0), (1, .int a1), (2, .int a2), (3, .int a3)]) hx hb dX8_openWithout_22 hl (by decide) rfl (fun ls hl => ?_)
      refine lv_iload hx hb dX8_openWithout_24 (lv_at hl 0 rfl) ?_
      refine lv_if_eq (tgt := 43) hx hb dX8_openWithout_26 (by decide) (fun c26_6 => by exfalso; exact absurd c26_6 (by decide)) (fun c26_6 => ?_)
      refine lv_iload_n hx hb dX8_openWithout_29 rfl (lv_at hl 2 rfl) ?_
      have hPc := (rgP24_c46fd41 hP)
      have hKc := (rgK21_98db583 hK)
      refine vp_callSi ((va_runS (As := [.int a1]) (rest := []) ⟨hx, hb, hml, hown, hts⟩ (k_X8_isDayOrLate l dC dI g (a1) ) (va_cwS 1 hts (gwS qw_260 qw_261 qw_28 qw_259) rfl rfl rfl (by decide +kernel) ⟨Nat.le_of_ble_eq_true rfl, Nat.le_of_ble_eq_true rfl⟩) ⟨fun a U g9 mk q => ⟨q.1, q.2.1, va_K.moved (u := U) (U := U.calling g9 mk a) (Vm.Alike.refl U.vm) q.2.2.1, Ev.bl q.2.2.2⟩, fun U hU hW => ⟨rfl, atB hU hPc, va_K.moved hW.alike hKc, hE.go hS (fun _ h => h.elim) hU hW⟩⟩ rfl rfl hl.1 rfl (lv_room (Nat.le_of_ble_eq_true rfl)) dX8_openWithout_30 ⟨Nat.le_of_ble_eq_true rfl, Nat.le_of_ble_eq_true rfl⟩)).run (fun r7 h_r7 => ?_)
      have h_r7 : (r7 = 0 ∨ r7 = 1) := h_r7
      have b_r7 := z01 (show r7 = 0 ∨ r7 = 1 from h_r7)
      refine lv_if_eq (tgt := 43) hx hb dX8_openWithout_33 (by decide) (fun c33_8 => ?_) (fun c33_8 => ?_)
      · have c33_8 : r7.toInt = 0 := (cv_eq rfl (by decide)).mp c33_8
        refine lv_iconst (v := (-1)) hx hb dX8_openWithout_43 (by decide) ?_
        have qcm1 : ((-1) : Int32).toInt = (-1) := by decide
        refine W.widen (k := 0) (n := 0) (Nat.le_of_ble_eq_true rfl) (Nat.le_of_ble_eq_true rfl) ?_
        have hP9 := hP
        have hD9 := hD
        have hK9 := (rgK21_98db583 hK)
        have hf9_0 : (0 ≤ a0_2_6.toInt ∧ a0_2_6.toInt ≤ 24) := by omega
        have hf9_1 : (0 ≤ a0_2_7.toInt ∧ a0_2_7.toInt ≤ 12) := by omega
        have hf9_2 : RS g.2.2.2.2.1 rows rows := hRS
        exact W.iret (v := (-1)) hx hb hr (fun t ht hW => ⟨⟨(-1), (-1), rfl, rfl, a0_10, a0_2_6, a0_2_7, a0_2_0_f, a0_2_1_f, rows, hf9_0, hf9_1, hf9_2, atB ht hP9, va_K.moved hW.alike hK9, hD9⟩, hS.F ht⟩) hS.2.2 dX8_openWithout_44
      · have c33_8 : ¬ (r7.toInt = 0) := mt (cv_eq rfl (by decide)).mpr c33_8
        refine lv_iload_n hx hb dX8_openWithout_36 rfl (lv_at hl 3 rfl) ?_
        have hPc := (rgP24_c46fd41 hP)
        have hKc := (rgK21_98db583 hK)
        refine vp_callSi ((va_runS (As := [.int a2]) (rest := []) ⟨hx, hb, hml, hown, hts⟩ (k_X8_areReaders l dC dI g (a2) ) (va_cwS 1 hts (gwS qw_326 qw_327 qw_28 qw_325) rfl rfl rfl (by decide +kernel) ⟨Nat.le_of_ble_eq_true rfl, Nat.le_of_ble_eq_true rfl⟩) ⟨fun a U g9 mk q => ⟨q.1, q.2.1, va_K.moved (u := U) (U := U.calling g9 mk a) (Vm.Alike.refl U.vm) q.2.2.1, Ev.bl q.2.2.2⟩, fun U hU hW => ⟨rfl, atB hU hPc, va_K.moved hW.alike hKc, hE.go hS (fun _ h => h.elim) hU hW⟩⟩ rfl rfl hl.1 rfl (lv_room (Nat.le_of_ble_eq_true rfl)) dX8_openWithout_37 ⟨Nat.le_of_ble_eq_true rfl, Nat.le_of_ble_eq_true rfl⟩)).run (fun r9 h_r9 => ?_)
        have h_r9 : (r9 = 0 ∨ r9 = 1) := h_r9
        have b_r9 := z01 (show r9 = 0 ∨ r9 = 1 from h_r9)
        refine lv_if_ne (tgt := 45) hx hb dX8_openWithout_40 (by decide) (fun c40_10 => ?_) (fun c40_10 => ?_)
        · have c40_10 : ¬ (r9.toInt = 0) := mt (cv_eq rfl (by decide)).mpr c40_10
          refine lv_aload_n hx hb dX8_openWithout_45 rfl (lv_at hl 1 rfl) ?_
          have hPc := hP
          have hKc := (rgK21_94c7792 hK)
          have hDc := hD
          have hFc := freeW hDc hS hA
          refine va_callr (va_runV (As := []) (rest := []) ⟨hx, hb, hml, hown, hts⟩ (k_X8_upToDate l dC dI g s.heap.size (a0) (a0_0) (a0_1) (a0_2) (a0_3) (a0_4) (a0_5) (a0_6) (a0_7) (a0_8) (a0_9) (a0_10) (a0_2_0) (a0_2_1) (a0_2_2) (a0_2_3) (a0_2_4) (a0_2_5) (a0_2_6) (a0_2_7) (a0_2_0_c) (a0_2_0_f) (a0_2_1_c) (a0_2_1_f) (a0_2_2_c) (a0_2_2_f) (a0_2_3_c) (a0_2_3_f) (a0_6_0) (a0_6_1) (a0_6_2) (a0_6_3) (a0_6_4) (a0_6_5) (a0_6_6) (a0_6_7) (a0_6_8) (a0_6_9) (a0_6_10) (a0_6_11) (a0_6_12) (a0_6_13) (a0_6_1_c) (a0_6_1_f) (a0_6_3_c) (a0_6_3_f) (a0_6_5_c) (a0_6_5_f) (a0_6_6_c) (a0_6_6_f) (a0_6_7_c) (a0_6_7_f) (a0_6_9_c) (a0_6_9_f) (a0_6_10_c) (a0_6_10_f) (a0_6_11_c) (a0_6_11_f) (a0_6_12_c) (a0_6_12_f) (a0_6_13_c) (a0_6_13_f) (a0_8_0) (a0_8_1) (a0_8_2) (a0_8_3) (a0_8_4) (a0_8_5) (a0_8_0_c) (a0_8_0_f) (a0_8_1_c) (a0_8_1_f) (a0_8_2_c) (a0_8_2_f) (a0_8_3_c) (a0_8_3_f) (a0_8_4_c) (a0_8_4_f) (a0_8_5_c) (a0_8_5_f) (rows) (by omega) (by omega) (RS.gr hRS h_a0_2_2_f) (RS.gr hRS h_a0_2_3_f) (by omega) (by omega) (by omega) (by omega) (RS.gr hRS h_a0_6_12_f) h_a0_8_3_f (RS.gr hRS h_a0_8_4_f) (RS.gr hRS h_a0_8_5_f) (by assumption)) (cwV 0 hts (gwV qw_316 qw_317 qw_318 qw_28 qw_315) rfl rfl rfl (by decide +kernel) ⟨Nat.le_of_ble_eq_true rfl, Nat.le_of_ble_eq_true rfl⟩) ⟨fun a U g9 mk q => ⟨q.1, q.2.1, q.2.2.1, va_K.moved (u := U) (U := U.calling g9 mk a) (Vm.Alike.refl U.vm) q.2.2.2.1, q.2.2.2.2.1, Ev.bl q.2.2.2.2.2⟩, va_recv hK hP (ci := 7) (q0 := 0) rfl rgL24_10cdad0, fun U hU hW => ⟨rfl, by rw [hU], atB hU hPc, va_K.moved hW.alike hKc, hDc.weaken (fun _ _ _ _ => trivial), hE.go hS hFc hU hW⟩⟩ rfl rfl hl.1 rfl (lv_room (Nat.le_of_ble_eq_true rfl)) dX8_openWithout_46 ⟨Nat.le_of_ble_eq_true rfl, Nat.le_of_ble_eq_true rfl⟩) hS (fun q _ h => hFc q h) hFc (fun u11 r12 t H1 locs ht hvm h_u11 hB hz1 hk1 hS => ?_)
          obtain ⟨hrr, za0_10_13, za0_2_6_14, za0_2_7_15, za0_2_0_f_16, za0_2_1_f_17, zrows_18, hF19, hF20, hF21, hP1, hK1, hD1⟩ := hB
          have hK1 := va_K.moved hvm.symm hK1
          have hJ9 := rgJ24_e25e203 hP hD hk1 hFc (atH ht hP1) hD1
          clear hP hD hPc hKc hDc hFc hP1 hD1 hk1 hz1
          obtain ⟨hP, hD⟩ := hJ9
          clear hK1
          generalize H1 = H at hP hS ⊢
          refine W.widen (k := 0) (n := 0) (Nat.le_of_ble_eq_true rfl) (Nat.le_of_ble_eq_true rfl) ?_
          refine topv (w := .ref a0_2) (by rw [hrr]) ?_
          have hRS := RS.tr hRS hF21
          refine lv_iload_n hx hb dX8_openWithout_49 rfl (lv_at hl 2 rfl) ?_
          refine lv_aload_n hx hb dX8_openWithout_50 rfl (lv_at hl 1 rfl) ?_
          refine va_get (D := (dC, dI)) (ci := 7) (v := .ref a0_6) (C := RX8) (T := TX8) (N := 11) hx hb hts inlX8 hown hK hP 0 rgL24_10cdad0 rfl 6 (by decide) (hts (.fieldLink RX8 51 "ClosedUntil" "told" "LClosedUntil$Holdings;") qw_262) (fun _ h9 => h9) rfl dX8_openWithout_51 ?_
          refine lv_iload_n hx hb dX8_openWithout_54 rfl (lv_at hl 3 rfl) ?_
          have hPc := (rgP24_0696254 hP)
          have hKc := (rgK21_2220a6b hK)
          refine vp_callSi ((va_runVN (As := [.int a2]) (rest := [.int a1, .ref a0_2]) ⟨hx, hb, hml, hown, hts⟩ (k_X1_holdingFor l dC dI g (a0_6) (a2) (a0_6_0) (a0_6_1) (a0_6_2) (a0_6_3) (a0_6_4) (a0_6_5) (a0_6_6) (a0_6_7) (a0_6_8) (a0_6_9) (a0_6_10) (a0_6_11) (a0_6_12) (a0_6_13) (a0_6_9_c) (a0_6_9_f) (by omega) (by omega) (by omega) (by omega)) ⟨va_cnB 1 hts (gwC qw_328) rfl rfl rfl (nm_36 hN) (hts (.initialized RX1) qw_183) (by decide +kernel) ⟨Nat.le_of_ble_eq_true rfl, Nat.le_of_ble_eq_true rfl⟩, (hts (.instanceMethod yX1_holdingFor) qw_329), (hts (.selects RX1 yX1_holdingFor yX1_holdingFor) qw_330)⟩ ⟨fun a U g9 mk q => ⟨q.1, q.2.1, va_K.moved (u := U) (U := U.calling g9 mk a) (Vm.Alike.refl U.vm) q.2.2.1, Ev.bl q.2.2.2⟩, va_recv hK hP (ci := 0) (q0 := 6) rfl rgL24_1681731, fun U hU hW => ⟨rfl, atB hU hPc, va_K.moved hW.alike hKc, hE.go hS (fun _ h => h.elim) hU hW⟩⟩ rfl rfl hl.1 rfl (lv_room (Nat.le_of_ble_eq_true rfl)) dX8_openWithout_55 ⟨Nat.le_of_ble_eq_true rfl, Nat.le_of_ble_eq_true rfl⟩)).run (fun r22 h_r22 => ?_)
          have b_r22 := i32b r22
          refine lv_iload_n hx hb dX8_openWithout_58 rfl (lv_at hl 4 rfl) ?_
          refine lv_iconst (v := (-1)) hx hb dX8_openWithout_59 (by decide) ?_
          refine lv_ixor hx hb dX8_openWithout_60 ?_
          refine lv_topi (fun x23 e_x23 => ?_)
          refine lv_iand hx hb dX8_openWithout_61 ?_
          refine lv_topi (fun x24 e_x24 => ?_)
          have hPc := (rgP24_69b5983 hP)
          have hKc := (rgK21_ffbac61 hK)
          refine vp_callSi ((va_runVN (As := [.int a1, .int x24]) (rest := []) ⟨hx, hb, hml, hown, hts⟩ (k_X6_openOn l dC dI g (a0_2) (a1) (x24) (a0_2_0) (a0_2_1) (a0_2_2) (a0_2_3) (a0_2_4) (a0_2_5) (za0_2_6_14) (za0_2_7_15) (a0_2_3_c) (a0_2_3_f) (zrows_18) (by omega) (by omega) (RS.gr hRS h_a0_2_3_f)) ⟨va_cnB 2 hts (gwC qw_333) rfl rfl rfl (nm_40 hN) (hts (.initialized RX6) qw_133) (by decide +kernel) ⟨Nat.le_of_ble_eq_true rfl, Nat.le_of_ble_eq_true rfl⟩, (hts (.instanceMethod yX6_openOn) qw_334), (hts (.selects RX6 yX6_openOn yX6_openOn) qw_335)⟩ ⟨fun a U g9 mk q => ⟨q.1, q.2.1, va_K.moved (u := U) (U := U.calling g9 mk a) (Vm.Alike.refl U.vm) q.2.2.1, Ev.bl q.2.2.2⟩, va_recv hK hP (ci := 5) (q0 := 1) rfl rgL24_436a872, fun U hU hW => ⟨rfl, atB hU hPc, va_K.moved hW.alike hKc, hE.go hS (fun _ h => h.elim) hU hW⟩⟩ rfl rfl hl.1 rfl (lv_room (Nat.le_of_ble_eq_true rfl)) dX8_openWithout_62 ⟨Nat.le_of_ble_eq_true rfl, Nat.le_of_ble_eq_true rfl⟩)).run (fun r25 h_r25 => ?_)
          have b_r25 := i32b r25
          have hPc := (rgP24_c46fd41 hP)
          have hKc := (rgK21_98db583 hK)
          refine vp_callSi ((va_runS (As := [.int r25]) (rest := []) ⟨hx, hb, hml, hown, hts⟩ (k_J6_bitCount_0f7a4 l dC dI g (r25) ) (va_cwS 1 hts (gwS qw_346 qw_347 qw_157 qw_345) rfl rfl rfl (by decide +kernel) ⟨Nat.le_of_ble_eq_true rfl, Nat.le_of_ble_eq_true rfl⟩) ⟨fun a U g9 mk q => ⟨q.1, q.2.1, va_K.moved (u := U) (U := U.calling g9 mk a) (Vm.Alike.refl U.vm) q.2.2.1, Ev.bl q.2.2.2⟩, fun U hU hW => ⟨rfl, atB hU hPc, va_K.moved hW.alike hKc, hE.go hS (fun _ h => h.elim) hU hW⟩⟩ rfl rfl hl.1 rfl (lv_room (Nat.le_of_ble_eq_true rfl)) dX8_openWithout_65 ⟨Nat.le_of_ble_eq_true rfl, Nat.le_of_ble_eq_true rfl⟩)).run (fun r26 h_r26 => ?_)
          have b_r26 := i32b r26
          refine W.widen (k := 0) (n := 0) (Nat.le_of_ble_eq_true rfl) (Nat.le_of_ble_eq_true rfl) ?_
          have hP9 := hP
          have hD9 := hD
          have hK9 := (rgK21_98db583 hK)
          have hf9_0 : (0 ≤ za0_2_6_14.toInt ∧ za0_2_6_14.toInt ≤ 24) := by omega
          have hf9_1 : (0 ≤ za0_2_7_15.toInt ∧ za0_2_7_15.toInt ≤ 12) := by omega
          have hf9_2 : RS g.2.2.2.2.1 rows zrows_18 := hRS
          exact W.iret (v := r26) hx hb hr (fun t ht hW => ⟨⟨r26, r26, rfl, rfl, za0_10_13, za0_2_6_14, za0_2_7_15, za0_2_0_f_16, za0_2_1_f_17, zrows_18, hf9_0, hf9_1, hf9_2, atB ht hP9, va_K.moved hW.alike hK9, hD9⟩, hS.F ht⟩) hS.2.2 dX8_openWithout_68
        · have c40_10 : r9.toInt = 0 := (cv_eq rfl (by decide)).mp c40_10
          refine lv_iconst (v := (-1)) hx hb dX8_openWithout_43 (by decide) ?_
          have qcm1 : ((-1) : Int32).toInt = (-1) := by decide
          refine W.widen (k := 0) (n := 0) (Nat.le_of_ble_eq_true rfl) (Nat.le_of_ble_eq_true rfl) ?_
          have hP9 := hP
          have hD9 := hD
          have hK9 := (rgK21_98db583 hK)
          have hf9_0 : (0 ≤ a0_2_6.toInt ∧ a0_2_6.toInt ≤ 24) := by omega
          have hf9_1 : (0 ≤ a0_2_7.toInt ∧ a0_2_7.toInt ≤ 12) := by omega
          have hf9_2 : RS g.2.2.2.2.1 rows rows := hRS
          exact W.iret (v := (-1)) hx hb hr (fun t ht hW => ⟨⟨(-1), (-1), rfl, rfl, a0_10, a0_2_6, a0_2_7, a0_2_0_f, a0_2_1_f, rows, hf9_0, hf9_1, hf9_2, atB ht hP9, va_K.moved hW.alike hK9, hD9⟩, hS.F ht⟩) hS.2.2 dX8_openWithout_44
set_option maxHeartbeats 4000000 in
set_option maxRecDepth 100000 in
theorem k_X8_put (l : Launch) (dC : Nat → ClassId) (dI : Nat → Nat → Nat) (g : Gv) (sz : Nat) (a0 : Nat) (a1 : Int32) (a2 : Int32) (a0_0 : Nat) (a0_1 : Nat) (a0_2 : Nat) (a0_3 : Nat) (a0_4 : Nat) (a0_5 : Nat) (a0_6 : Nat) (a0_7 : Nat) (a0_8 : Nat) (a0_9 : Nat) (a0_10 : Int32) (a0_2_0 : Nat) (a0_2_1 : Nat) (a0_2_2 : Nat) (a0_2_3 : Nat) (a0_2_4 : Nat) (a0_2_5 : Nat) (a0_2_6 : Int32) (a0_2_7 : Int32) (a0_2_0_c : ClassId) (a0_2_0_f : Nat → Int32) (a0_2_1_c : ClassId) (a0_2_1_f : Nat → Int32) (a0_2_2_c : ClassId) (a0_2_2_f : Nat → Option Nat) (a0_2_3_c : ClassId) (a0_2_3_f : Nat → Option Nat) (a0_3_0 : Nat) (a0_3_1 : Nat) (a0_3_2 : Nat) (a0_3_3 : Int32) (a0_3_0_c : ClassId) (a0_3_0_f : Nat → Int32) (a0_3_1_c : ClassId) (a0_3_1_f : Nat → Int32) (a0_3_2_c : ClassId) (a0_3_2_f : Nat → Int32) (a0_6_0 : Int32) (a0_6_1 : Nat) (a0_6_2 : Int32) (a0_6_3 : Nat) (a0_6_4 : Int32) (a0_6_5 : Nat) (a0_6_6 : Nat) (a0_6_7 : Nat) (a0_6_8 : Int32) (a0_6_9 : Nat) (a0_6_10 : Nat) (a0_6_11 : Nat) (a0_6_12 : Nat) (a0_6_13 : Nat) (a0_6_1_c : ClassId) (a0_6_1_f : Nat → Int32) (a0_6_3_c : ClassId) (a0_6_3_f : Nat → Int32) (a0_6_5_c : ClassId) (a0_6_5_f : Nat → Int32) (a0_6_6_c : ClassId) (a0_6_6_f : Nat → Int32) (a0_6_7_c : ClassId) (a0_6_7_f : Nat → Int32) (a0_6_9_c : ClassId) (a0_6_9_f : Nat → Int32) (a0_6_10_c : ClassId) (a0_6_10_f : Nat → Int32) (a0_6_11_c : ClassId) (a0_6_11_f : Nat → Int32) (a0_6_12_c : ClassId) (a0_6_12_f : Nat → Option Nat) (a0_6_13_c : ClassId) (a0_6_13_f : Nat → Int32) (a0_8_0 : Nat) (a0_8_1 : Nat) (a0_8_2 : Nat) (a0_8_3 : Nat) (a0_8_4 : Nat) (a0_8_5 : Nat) (a0_8_0_c : ClassId) (a0_8_0_f : Nat → Int32) (a0_8_1_c : ClassId) (a0_8_1_f : Nat → Int32) (a0_8_2_c : ClassId) (a0_8_2_f : Nat → Int32) (a0_8_3_c : ClassId) (a0_8_3_f : Nat → Int32) (a0_8_4_c : ClassId) (a0_8_4_f : Nat → Option Nat) (a0_8_5_c : ClassId) (a0_8_5_f : Nat → Option Nat) (rows : va_W) (h_a0_2_6 : 0 ≤ a0_2_6.toInt ∧ a0_2_6.toInt ≤ 24) (h_a0_2_7 : 0 ≤ a0_2_7.toInt ∧ a0_2_7.toInt ≤ 12) (h_a0_2_2_f : GR g.2.2.2.2.1 24 12 a0_2_2_f rows) (h_a0_2_3_f : GR g.2.2.2.2.1 24 12 a0_2_3_f rows) (h_a0_3_3 : 0 ≤ a0_3_3.toInt ∧ a0_3_3.toInt ≤ 12) (h_a0_6_0 : 0 ≤ a0_6_0.toInt ∧ a0_6_0.toInt ≤ 8) (h_a0_6_2 : 0 ≤ a0_6_2.toInt ∧ a0_6_2.toInt ≤ 4) (h_a0_6_4 : 0 ≤ a0_6_4.toInt ∧ a0_6_4.toInt ≤ 24) (h_a0_6_8 : 0 ≤ a0_6_8.toInt ∧ a0_6_8.toInt ≤ 12) (h_a0_6_12_f : GR g.2.2.2.2.1 3 12 a0_6_12_f rows) (h_a0_8_3_f : vr 0 5 a0_8_3_f) (h_a0_8_4_f : GR g.2.2.2.2.1 5 12 a0_8_4_f rows) (h_a0_8_5_f : GR g.2.2.2.2.1 5 12 a0_8_5_f rows) (hho : HOk a0_6_9_f a0_6_10_f a0_6_8) (hja : JA a0_3_0_f a0_3_1_f a0_3_2_f a0_3_3) (hjc : JC a0_3_0_f a0_3_1_f a0_3_3 a0_8_3_f) : Met l yX8_put (.code yX8_put cX8_put 5 (some .int) :: TBL) ({ frames := 7, cells := 0, slots := 0, locals := 168 }) (va_Pc [.ref a0, .int a1, .int a2] (fun U => U.heap.size = sz ∧ va_P (dC, dI) vwCl (([(a0, .inr (7, [.ref a0_0, .ref a0_1, .ref a0_2, .ref a0_3, .ref a0_4, .ref a0_5, .ref a0_6, .ref a0_7, .ref a0_8, .ref a0_9, .int a0_10])), (a0_2, .inr (5, [.ref a0_2_0, .ref a0_2_1, .ref a0_2_2, .ref a0_2_3, .ref a0_2_4, .ref a0_2_5, .int a0_2_6, .int a0_2_7])), (a0_2_0, .inl (a0_2_0_c, 24, .inl a0_2_0_f)), (a0_2_1, .inl (a0_2_1_c, 24, .inl a0_2_1_f)), (a0_2_2, .inl (a0_2_2_c, 12, .inr (.inr (.inr (.inr a0_2_2_f))))), (a0_2_3, .inl (a0_2_3_c, 12, .inr (.inr (.inr (.inr a0_2_3_f))))), (a0_3, .inr (1, [.ref a0_3_0, .ref a0_3_1, .ref a0_3_2, .int a0_3_3])), (a0_3_0, .inl (a0_3_0_c, 12, .inl a0_3_0_f)), (a0_3_1, .inl (a0_3_1_c, 12, .inl a0_3_1_f)), (a0_3_2, .inl (a0_3_2_c, 12, .inl a0_3_2_f)), (a0_6, .inr (0, [.int a0_6_0, .ref a0_6_1, .int a0_6_2, .ref a0_6_3, .int a0_6_4, .ref a0_6_5, .ref a0_6_6, .ref a0_6_7, .int a0_6_8, .ref a0_6_9, .ref a0_6_10, .ref a0_6_11, .ref a0_6_12, .ref a0_6_13])), (a0_6_1, .inl (a0_6_1_c, 8, .inl a0_6_1_f)), (a0_6_3, .inl (a0_6_3_c, 4, .inl a0_6_3_f)), (a0_6_5, .inl (a0_6_5_c, 24, .inl a0_6_5_f)), (a0_6_6, .inl (a0_6_6_c, 24, .inl a0_6_6_f)), (a0_6_7, .inl (a0_6_7_c, 24, .inl a0_6_7_f)), (a0_6_9, .inl (a0_6_9_c, 12, .inl a0_6_9_f)), (a0_6_10, .inl (a0_6_10_c, 12, .inl a0_6_10_f)), (a0_6_11, .inl (a0_6_11_c, 12, .inl a0_6_11_f)), (a0_6_12, .inl (a0_6_12_c, 12, .inr (.inr (.inr (.inr a0_6_12_f))))), (a0_6_13, .inl (a0_6_13_c, 12, .inl a0_6_13_f)), (a0_8, .inr (2, [.ref a0_8_0, .ref a0_8_1, .ref a0_8_2, .ref a0_8_3, .ref a0_8_4, .ref a0_8_5])), (a0_8_0, .inl (a0_8_0_c, 24, .inl a0_8_0_f)), (a0_8_1, .inl (a0_8_1_c, 8, .inl a0_8_1_f)), (a0_8_2, .inl (a0_8_2_c, 12, .inl a0_8_2_f)), (a0_8_3, .inl (a0_8_3_c, 12, .inl a0_8_3_f)), (a0_8_4, .inl (a0_8_4_c, 12, .inr (.inr (.inr (.inr a0_8_4_f))))), (a0_8_5, .inl (a0_8_5_c, 12, .inr (.inr (.inr (.inr a0_8_5_f)))))] : va_W) ++ rows) U.heap ∧ va_K (dC, dI) vwCl [(a0_2_0_c, .int), (a0_2_1_c, .int), (a0_2_2_c, .array .int), (a0_2_3_c, .array .int), (a0_3_0_c, .int), (a0_3_1_c, .int), (a0_3_2_c, .int), (a0_6_1_c, .int), (a0_6_3_c, .int), (a0_6_5_c, .int), (a0_6_6_c, .int), (a0_6_7_c, .int), (a0_6_9_c, .int), (a0_6_10_c, .int), (a0_6_11_c, .boolean), (a0_6_12_c, .array .int), (a0_6_13_c, .int), (a0_8_0_c, .int), (a0_8_1_c, .int), (a0_8_2_c, .int), (a0_8_3_c, .int), (a0_8_4_c, .array .int), (a0_8_5_c, .array .int)] U ∧ va_D (fun _ => True) (([(a0, .inr (7, [.ref a0_0, .ref a0_1, .ref a0_2, .ref a0_3, .ref a0_4, .ref a0_5, .ref a0_6, .ref a0_7, .ref a0_8, .ref a0_9, .int a0_10])), (a0_2, .inr (5, [.ref a0_2_0, .ref a0_2_1, .ref a0_2_2, .ref a0_2_3, .ref a0_2_4, .ref a0_2_5, .int a0_2_6, .int a0_2_7])), (a0_2_0, .inl (a0_2_0_c, 24, .inl a0_2_0_f)), (a0_2_1, .inl (a0_2_1_c, 24, .inl a0_2_1_f)), (a0_2_2, .inl (a0_2_2_c, 12, .inr (.inr (.inr (.inr a0_2_2_f))))), (a0_2_3, .inl (a0_2_3_c, 12, .inr (.inr (.inr (.inr a0_2_3_f))))), (a0_3, .inr (1, [.ref a0_3_0, .ref a0_3_1, .ref a0_3_2, .int a0_3_3])), (a0_3_0, .inl (a0_3_0_c, 12, .inl a0_3_0_f)), (a0_3_1, .inl (a0_3_1_c, 12, .inl a0_3_1_f)), (a0_3_2, .inl (a0_3_2_c, 12, .inl a0_3_2_f)), (a0_6, .inr (0, [.int a0_6_0, .ref a0_6_1, .int a0_6_2, .ref a0_6_3, .int a0_6_4, .ref a0_6_5, .ref a0_6_6, .ref a0_6_7, .int a0_6_8, .ref a0_6_9, .ref a0_6_10, .ref a0_6_11, .ref a0_6_12, .ref a0_6_13])), (a0_6_1, .inl (a0_6_1_c, 8, .inl a0_6_1_f)), (a0_6_3, .inl (a0_6_3_c, 4, .inl a0_6_3_f)), (a0_6_5, .inl (a0_6_5_c, 24, .inl a0_6_5_f)), (a0_6_6, .inl (a0_6_6_c, 24, .inl a0_6_6_f)), (a0_6_7, .inl (a0_6_7_c, 24, .inl a0_6_7_f)), (a0_6_9, .inl (a0_6_9_c, 12, .inl a0_6_9_f)), (a0_6_10, .inl (a0_6_10_c, 12, .inl a0_6_10_f)), (a0_6_11, .inl (a0_6_11_c, 12, .inl a0_6_11_f)), (a0_6_12, .inl (a0_6_12_c, 12, .inr (.inr (.inr (.inr a0_6_12_f))))), (a0_6_13, .inl (a0_6_13_c, 12, .inl a0_6_13_f)), (a0_8, .inr (2, [.ref a0_8_0, .ref a0_8_1, .ref a0_8_2, .ref a0_8_3, .ref a0_8_4, .ref a0_8_5])), (a0_8_0, .inl (a0_8_0_c, 24, .inl a0_8_0_f)), (a0_8_1, .inl (a0_8_1_c, 8, .inl a0_8_1_f)), (a0_8_2, .inl (a0_8_2_c, 12, .inl a0_8_2_f)), (a0_8_3, .inl (a0_8_3_c, 12, .inl a0_8_3_f)), (a0_8_4, .inl (a0_8_4_c, 12, .inr (.inr (.inr (.inr a0_8_4_f))))), (a0_8_5, .inl (a0_8_5_c, 12, .inr (.inr (.inr (.inr a0_8_5_f)))))] : va_W) ++ rows) ∧ Ev g (va_A (([(a0, .inr (7, [.ref a0_0, .ref a0_1, .ref a0_2, .ref a0_3, .ref a0_4, .ref a0_5, .ref a0_6, .ref a0_7, .ref a0_8, .ref a0_9, .int a0_10])), (a0_2, .inr (5, [.ref a0_2_0, .ref a0_2_1, .ref a0_2_2, .ref a0_2_3, .ref a0_2_4, .ref a0_2_5, .int a0_2_6, .int a0_2_7])), (a0_2_0, .inl (a0_2_0_c, 24, .inl a0_2_0_f)), (a0_2_1, .inl (a0_2_1_c, 24, .inl a0_2_1_f)), (a0_2_2, .inl (a0_2_2_c, 12, .inr (.inr (.inr (.inr a0_2_2_f))))), (a0_2_3, .inl (a0_2_3_c, 12, .inr (.inr (.inr (.inr a0_2_3_f))))), (a0_3, .inr (1, [.ref a0_3_0, .ref a0_3_1, .ref a0_3_2, .int a0_3_3])), (a0_3_0, .inl (a0_3_0_c, 12, .inl a0_3_0_f)), (a0_3_1, .inl (a0_3_1_c, 12, .inl a0_3_1_f)), (a0_3_2, .inl (a0_3_2_c, 12, .inl a0_3_2_f)), (a0_6, .inr (0, [.int a0_6_0, .ref a0_6_1, .int a0_6_2, .ref a0_6_3, .int a0_6_4, .ref a0_6_5, .ref a0_6_6, .ref a0_6_7, .int a0_6_8, .ref a0_6_9, .ref a0_6_10, .ref a0_6_11, .ref a0_6_12, .ref a0_6_13])), (a0_6_1, .inl (a0_6_1_c, 8, .inl a0_6_1_f)), (a0_6_3, .inl (a0_6_3_c, 4, .inl a0_6_3_f)), (a0_6_5, .inl (a0_6_5_c, 24, .inl a0_6_5_f)), (a0_6_6, .inl (a0_6_6_c, 24, .inl a0_6_6_f)), (a0_6_7, .inl (a0_6_7_c, 24, .inl a0_6_7_f)), (a0_6_9, .inl (a0_6_9_c, 12, .inl a0_6_9_f)), (a0_6_10, .inl (a0_6_10_c, 12, .inl a0_6_10_f)), (a0_6_11, .inl (a0_6_11_c, 12, .inl a0_6_11_f)), (a0_6_12, .inl (a0_6_12_c, 12, .inr (.inr (.inr (.inr a0_6_12_f))))), (a0_6_13, .inl (a0_6_13_c, 12, .inl a0_6_13_f)), (a0_8, .inr (2, [.ref a0_8_0, .ref a0_8_1, .ref a0_8_2, .ref a0_8_3, .ref a0_8_4, .ref a0_8_5])), (a0_8_0, .inl (a0_8_0_c, 24, .inl a0_8_0_f)), (a0_8_1, .inl (a0_8_1_c, 8, .inl a0_8_1_f)), (a0_8_2, .inl (a0_8_2_c, 12, .inl a0_8_2_f)), (a0_8_3, .inl (a0_8_3_c, 12, .inl a0_8_3_f)), (a0_8_4, .inl (a0_8_4_c, 12, .inr (.inr (.inr (.inr a0_8_4_f))))), (a0_8_5, .inl (a0_8_5_c, 12, .inr (.inr (.inr (.inr a0_8_5_f)))))] : va_W) ++ rows) sz) U)) (va_Qi (fun (r : Int32) (u : Int32) => u = r) (fun (u : Int32) (t : State) => ∃ (za0_10 : Int32) (za0_2_6 : Int32) (za0_2_7 : Int32) (za0_2_0_f : Nat → Int32) (za0_2_1_f : Nat → Int32) (za0_3_3 : Int32) (za0_3_0_f : Nat → Int32) (za0_3_1_f : Nat → Int32) (za0_3_2_f : Nat → Int32) (za0_8_0_f : Nat → Int32) (zrows : va_W), (0 ≤ za0_2_6.toInt ∧ za0_2_6.toInt ≤ 24) ∧ (0 ≤ za0_2_7.toInt ∧ za0_2_7.toInt ≤ 12) ∧ (0 ≤ za0_3_3.toInt ∧ za0_3_3.toInt ≤ 12) ∧ RS g.2.2.2.2.1 rows zrows ∧ (JA za0_3_0_f za0_3_1_f za0_3_2_f za0_3_3) ∧ (JC za0_3_0_f za0_3_1_f za0_3_3 a0_8_3_f) ∧ va_P (dC, dI) vwCl (([(a0, .inr (7, [.ref a0_0, .ref a0_1, .ref a0_2, .ref a0_3, .ref a0_4, .ref a0_5, .ref a0_6, .ref a0_7, .ref a0_8, .ref a0_9, .int za0_10])), (a0_2, .inr (5, [.ref a0_2_0, .ref a0_2_1, .ref a0_2_2, .ref a0_2_3, .ref a0_2_4, .ref a0_2_5, .int za0_2_6, .int za0_2_7])), (a0_2_0, .inl (a0_2_0_c, 24, .inl za0_2_0_f)), (a0_2_1, .inl (a0_2_1_c, 24, .inl za0_2_1_f)), (a0_2_2, .inl (a0_2_2_c, 12, .inr (.inr (.inr (.inr a0_2_2_f))))), (a0_2_3, .inl (a0_2_3_c, 12, .inr (.inr (.inr (.inr a0_2_3_f))))), (a0_3, .inr (1, [.ref a0_3_0, .ref a0_3_1, .ref a0_3_2, .int za0_3_3])), (a0_3_0, .inl (a0_3_0_c, 12, .inl za0_3_0_f)), (a0_3_1, .inl (a0_3_1_c, 12, .inl za0_3_1_f)), (a0_3_2, .inl (a0_3_2_c, 12, .inl za0_3_2_f)), (a0_6, .inr (0, [.int a0_6_0, .ref a0_6_1, .int a0_6_2, .ref a0_6_3, .int a0_6_4, .ref a0_6_5, .ref a0_6_6, .ref a0_6_7, .int a0_6_8, .ref a0_6_9, .ref a0_6_10, .ref a0_6_11, .ref a0_6_12, .ref a0_6_13])), (a0_6_1, .inl (a0_6_1_c, 8, .inl a0_6_1_f)), (a0_6_3, .inl (a0_6_3_c, 4, .inl a0_6_3_f)), (a0_6_5, .inl (a0_6_5_c, 24, .inl a0_6_5_f)), (a0_6_6, .inl (a0_6_6_c, 24, .inl a0_6_6_f)), (a0_6_7, .inl (a0_6_7_c, 24, .inl a0_6_7_f)), (a0_6_9, .inl (a0_6_9_c, 12, .inl a0_6_9_f)), (a0_6_10, .inl (a0_6_10_c, 12, .inl a0_6_10_f)), (a0_6_11, .inl (a0_6_11_c, 12, .inl a0_6_11_f)), (a0_6_12, .inl (a0_6_12_c, 12, .inr (.inr (.inr (.inr a0_6_12_f))))), (a0_6_13, .inl (a0_6_13_c, 12, .inl a0_6_13_f)), (a0_8, .inr (2, [.ref a0_8_0, .ref a0_8_1, .ref a0_8_2, .ref a0_8_3, .ref a0_8_4, .ref a0_8_5])), (a0_8_0, .inl (a0_8_0_c, 24, .inl za0_8_0_f)), (a0_8_1, .inl (a0_8_1_c, 8, .inl a0_8_1_f)), (a0_8_2, .inl (a0_8_2_c, 12, .inl a0_8_2_f)), (a0_8_3, .inl (a0_8_3_c, 12, .inl a0_8_3_f)), (a0_8_4, .inl (a0_8_4_c, 12, .inr (.inr (.inr (.inr a0_8_4_f))))), (a0_8_5, .inl (a0_8_5_c, 12, .inr (.inr (.inr (.inr a0_8_5_f)))))] : va_W) ++ zrows) t.heap ∧ va_K (dC, dI) vwCl [] t ∧ va_D (va_A (([(a0, .inr (7, [.ref a0_0, .ref a0_1, .ref a0_2, .ref a0_3, .ref a0_4, .ref a0_5, .ref a0_6, .ref a0_7, .ref a0_8, .ref a0_9, .int a0_10])), (a0_2, .inr (5, [.ref a0_2_0, .ref a0_2_1, .ref a0_2_2, .ref a0_2_3, .ref a0_2_4, .ref a0_2_5, .int a0_2_6, .int a0_2_7])), (a0_2_0, .inl (a0_2_0_c, 24, .inl a0_2_0_f)), (a0_2_1, .inl (a0_2_1_c, 24, .inl a0_2_1_f)), (a0_2_2, .inl (a0_2_2_c, 12, .inr (.inr (.inr (.inr a0_2_2_f))))), (a0_2_3, .inl (a0_2_3_c, 12, .inr (.inr (.inr (.inr a0_2_3_f))))), (a0_3, .inr (1, [.ref a0_3_0, .ref a0_3_1, .ref a0_3_2, .int a0_3_3])), (a0_3_0, .inl (a0_3_0_c, 12, .inl a0_3_0_f)), (a0_3_1, .inl (a0_3_1_c, 12, .inl a0_3_1_f)), (a0_3_2, .inl (a0_3_2_c, 12, .inl a0_3_2_f)), (a0_6, .inr (0, [.int a0_6_0, .ref a0_6_1, .int a0_6_2, .ref a0_6_3, .int a0_6_4, .ref a0_6_5, .ref a0_6_6, .ref a0_6_7, .int a0_6_8, .ref a0_6_9, .ref a0_6_10, .ref a0_6_11, .ref a0_6_12, .ref a0_6_13])), (a0_6_1, .inl (a0_6_1_c, 8, .inl a0_6_1_f)), (a0_6_3, .inl (a0_6_3_c, 4, .inl a0_6_3_f)), (a0_6_5, .inl (a0_6_5_c, 24, .inl a0_6_5_f)), (a0_6_6, .inl (a0_6_6_c, 24, .inl a0_6_6_f)), (a0_6_7, .inl (a0_6_7_c, 24, .inl a0_6_7_f)), (a0_6_9, .inl (a0_6_9_c, 12, .inl a0_6_9_f)), (a0_6_10, .inl (a0_6_10_c, 12, .inl a0_6_10_f)), (a0_6_11, .inl (a0_6_11_c, 12, .inl a0_6_11_f)), (a0_6_12, .inl (a0_6_12_c, 12, .inr (.inr (.inr (.inr a0_6_12_f))))), (a0_6_13, .inl (a0_6_13_c, 12, .inl a0_6_13_f)), (a0_8, .inr (2, [.ref a0_8_0, .ref a0_8_1, .ref a0_8_2, .ref a0_8_3, .ref a0_8_4, .ref a0_8_5])), (a0_8_0, .inl (a0_8_0_c, 24, .inl a0_8_0_f)), (a0_8_1, .inl (a0_8_1_c, 8, .inl a0_8_1_f)), (a0_8_2, .inl (a0_8_2_c, 12, .inl a0_8_2_f)), (a0_8_3, .inl (a0_8_3_c, 12, .inl a0_8_3_f)), (a0_8_4, .inl (a0_8_4_c, 12, .inr (.inr (.inr (.inr a0_8_4_f))))), (a0_8_5, .inl (a0_8_5_c, 12, .inr (.inr (.inr (.inr a0_8_5_f)))))] : va_W) ++ rows) sz) (([(a0, .inr (7, [.ref a0_0, .ref a0_1, .ref a0_2, .ref a0_3, .ref a0_4, .ref a0_5, .ref a0_6, .ref a0_7, .ref a0_8, .ref a0_9, .int za0_10])), (a0_2, .inr (5, [.ref a0_2_0, .ref a0_2_1, .ref a0_2_2, .ref a0_2_3, .ref a0_2_4, .ref a0_2_5, .int za0_2_6, .int za0_2_7])), (a0_2_0, .inl (a0_2_0_c, 24, .inl za0_2_0_f)), (a0_2_1, .inl (a0_2_1_c, 24, .inl za0_2_1_f)), (a0_2_2, .inl (a0_2_2_c, 12, .inr (.inr (.inr (.inr a0_2_2_f))))), (a0_2_3, .inl (a0_2_3_c, 12, .inr (.inr (.inr (.inr a0_2_3_f))))), (a0_3, .inr (1, [.ref a0_3_0, .ref a0_3_1, .ref a0_3_2, .int za0_3_3])), (a0_3_0, .inl (a0_3_0_c, 12, .inl za0_3_0_f)), (a0_3_1, .inl (a0_3_1_c, 12, .inl za0_3_1_f)), (a0_3_2, .inl (a0_3_2_c, 12, .inl za0_3_2_f)), (a0_6, .inr (0, [.int a0_6_0, .ref a0_6_1, .int a0_6_2, .ref a0_6_3, .int a0_6_4, .ref a0_6_5, .ref a0_6_6, .ref a0_6_7, .int a0_6_8, .ref a0_6_9, .ref a0_6_10, .ref a0_6_11, .ref a0_6_12, .ref a0_6_13])), (a0_6_1, .inl (a0_6_1_c, 8, .inl a0_6_1_f)), (a0_6_3, .inl (a0_6_3_c, 4, .inl a0_6_3_f)), (a0_6_5, .inl (a0_6_5_c, 24, .inl a0_6_5_f)), (a0_6_6, .inl (a0_6_6_c, 24, .inl a0_6_6_f)), (a0_6_7, .inl (a0_6_7_c, 24, .inl a0_6_7_f)), (a0_6_9, .inl (a0_6_9_c, 12, .inl a0_6_9_f)), (a0_6_10, .inl (a0_6_10_c, 12, .inl a0_6_10_f)), (a0_6_11, .inl (a0_6_11_c, 12, .inl a0_6_11_f)), (a0_6_12, .inl (a0_6_12_c, 12, .inr (.inr (.inr (.inr a0_6_12_f))))), (a0_6_13, .inl (a0_6_13_c, 12, .inl a0_6_13_f)), (a0_8, .inr (2, [.ref a0_8_0, .ref a0_8_1, .ref a0_8_2, .ref a0_8_3, .ref a0_8_4, .ref a0_8_5])), (a0_8_0, .inl (a0_8_0_c, 24, .inl za0_8_0_f)), (a0_8_1, .inl (a0_8_1_c, 8, .inl a0_8_1_f)), (a0_8_2, .inl (a0_8_2_c, 12, .inl a0_8_2_f)), (a0_8_3, .inl (a0_8_3_c, 12, .inl a0_8_3_f)), (a0_8_4, .inl (a0_8_4_c, 12, .inr (.inr (.inr (.inr a0_8_4_f))))), (a0_8_5, .inl (a0_8_5_c, 12, .inr (.inr (.inr (.inr a0_8_5_f)))))] : va_W) ++ zrows)) (va_A (([(a0, .inr (7, [.ref a0_0, .ref a0_1, .ref a0_2, .ref a0_3, .ref a0_4, .ref a0_5, .ref a0_6, .ref a0_7, .ref a0_8, .ref a0_9, .int a0_10])), (a0_2, .inr (5, [.ref a0_2_0, .ref a0_2_1, .ref a0_2_2, .ref a0_2_3, .ref a0_2_4, .ref a0_2_5, .int a0_2_6, .int a0_2_7])), (a0_2_0, .inl (a0_2_0_c, 24, .inl a0_2_0_f)), (a0_2_1, .inl (a0_2_1_c, 24, .inl a0_2_1_f)), (a0_2_2, .inl (a0_2_2_c, 12, .inr (.inr (.inr (.inr a0_2_2_f))))), (a0_2_3, .inl (a0_2_3_c, 12, .inr (.inr (.inr (.inr a0_2_3_f))))), (a0_3, .inr (1, [.ref a0_3_0, .ref a0_3_1, .ref a0_3_2, .int a0_3_3])), (a0_3_0, .inl (a0_3_0_c, 12, .inl a0_3_0_f)), (a0_3_1, .inl (a0_3_1_c, 12, .inl a0_3_1_f)), (a0_3_2, .inl (a0_3_2_c, 12, .inl a0_3_2_f)), (a0_6, .inr (0, [.int a0_6_0, .ref a0_6_1, .int a0_6_2, .ref a0_6_3, .int a0_6_4, .ref a0_6_5, .ref a0_6_6, .ref a0_6_7, .int a0_6_8, .ref a0_6_9, .ref a0_6_10, .ref a0_6_11, .ref a0_6_12, .ref a0_6_13])), (a0_6_1, .inl (a0_6_1_c, 8, .inl a0_6_1_f)), (a0_6_3, .inl (a0_6_3_c, 4, .inl a0_6_3_f)), (a0_6_5, .inl (a0_6_5_c, 24, .inl a0_6_5_f)), (a0_6_6, .inl (a0_6_6_c, 24, .inl a0_6_6_f)), (a0_6_7, .inl (a0_6_7_c, 24, .inl a0_6_7_f)), (a0_6_9, .inl (a0_6_9_c, 12, .inl a0_6_9_f)), (a0_6_10, .inl (a0_6_10_c, 12, .inl a0_6_10_f)), (a0_6_11, .inl (a0_6_11_c, 12, .inl a0_6_11_f)), (a0_6_12, .inl (a0_6_12_c, 12, .inr (.inr (.inr (.inr a0_6_12_f))))), (a0_6_13, .inl (a0_6_13_c, 12, .inl a0_6_13_f)), (a0_8, .inr (2, [.ref a0_8_0, .ref a0_8_1, .ref a0_8_2, .ref a0_8_3, .ref a0_8_4, .ref a0_8_5])), (a0_8_0, .inl (a0_8_0_c, 24, .inl a0_8_0_f)), (a0_8_1, .inl (a0_8_1_c, 8, .inl a0_8_1_f)), (a0_8_2, .inl (a0_8_2_c, 12, .inl a0_8_2_f)), (a0_8_3, .inl (a0_8_3_c, 12, .inl a0_8_3_f)), (a0_8_4, .inl (a0_8_4_c, 12, .inr (.inr (.inr (.inr a0_8_4_f))))), (a0_8_5, .inl (a0_8_5_c, 12, .inr (.inr (.inr (.inr a0_8_5_f)))))] : va_W) ++ rows) sz)) 0 0 (va_A (([(a0, .inr (7, [.ref a0_0, .ref a0_1, .ref a0_2, .ref a0_3, .ref a0_4, .ref a0_5, .ref a0_6, .ref a0_7, .ref a0_8, .ref a0_9, .int a0_10])), (a0_2, .inr (5, [.ref a0_2_0, .ref a0_2_1, .ref a0_2_2, .ref a0_2_3, .ref a0_2_4, .ref a0_2_5, .int a0_2_6, .int a0_2_7])), (a0_2_0, .inl (a0_2_0_c, 24, .inl a0_2_0_f)), (a0_2_1, .inl (a0_2_1_c, 24, .inl a0_2_1_f)), (a0_2_2, .inl (a0_2_2_c, 12, .inr (.inr (.inr (.inr a0_2_2_f))))), (a0_2_3, .inl (a0_2_3_c, 12, .inr (.inr (.inr (.inr a0_2_3_f))))), (a0_3, .inr (1, [.ref a0_3_0, .ref a0_3_1, .ref a0_3_2, .int a0_3_3])), (a0_3_0, .inl (a0_3_0_c, 12, .inl a0_3_0_f)), (a0_3_1, .inl (a0_3_1_c, 12, .inl a0_3_1_f)), (a0_3_2, .inl (a0_3_2_c, 12, .inl a0_3_2_f)), (a0_6, .inr (0, [.int a0_6_0, .ref a0_6_1, .int a0_6_2, .ref a0_6_3, .int a0_6_4, .ref a0_6_5, .ref a0_6_6, .ref a0_6_7, .int a0_6_8, .ref a0_6_9, .ref a0_6_10, .ref a0_6_11, .ref a0_6_12, .ref a0_6_13])), (a0_6_1, .inl (a0_6_1_c, 8, .inl a0_6_1_f)), (a0_6_3, .inl (a0_6_3_c, 4, .inl a0_6_3_f)), (a0_6_5, .inl (a0_6_5_c, 24, .inl a0_6_5_f)), (a0_6_6, .inl (a0_6_6_c, 24, .inl a0_6_6_f)), (a0_6_7, .inl (a0_6_7_c, 24, .inl a0_6_7_f)), (a0_6_9, .inl (a0_6_9_c, 12, .inl a0_6_9_f)), (a0_6_10, .inl (a0_6_10_c, 12, .inl a0_6_10_f)), (a0_6_11, .inl (a0_6_11_c, 12, .inl a0_6_11_f)), (a0_6_12, .inl (a0_6_12_c, 12, .inr (.inr (.inr (.inr a0_6_12_f))))), (a0_6_13, .inl (a0_6_13_c, 12, .inl a0_6_13_f)), (a0_8, .inr (2, [.ref a0_8_0, .ref a0_8_1, .ref a0_8_2, .ref a0_8_3, .ref a0_8_4, .ref a0_8_5])), (a0_8_0, .inl (a0_8_0_c, 24, .inl a0_8_0_f)), (a0_8_1, .inl (a0_8_1_c, 8, .inl a0_8_1_f)), (a0_8_2, .inl (a0_8_2_c, 12, .inl a0_8_2_f)), (a0_8_3, .inl (a0_8_3_c, 12, .inl a0_8_3_f)), (a0_8_4, .inl (a0_8_4_c, 12, .inr (.inr (.inr (.inr a0_8_4_f))))), (a0_8_5, .inl (a0_8_5_c, 12, .inr (.inr (.inr (.inr a0_8_5_f)))))] : va_W) ++ rows) sz) := by
  refine Met.ofW (cc := cX8_put) (maxL := 5) (ret := (some .int)) (by decide) rfl ?_
  intro p e s m args below meth c s₁ B hml hv
  obtain ⟨rfl, hsz, hP, hK, hD0, hE⟩ := hv
  have hx := B.exec
  have hb := B.bytes
  have hr := B.returns
  have hts0 := atoms_spec (ws := (.code yX8_put cX8_put 5 (some .int) :: TBL)) B.pre
  have hts := fun (w : Cond) (h : w ∈ TBL) => hts0 w (List.mem_cons_of_mem _ h)
  have hown : s.vm.findClass RX8 = some m.cls := findClass_of_methodNamed B.named
  have hlocks := B.notSynchronized
  have hN := hE.1
  subst hsz
  have hD := hD0.self (sz := s.heap.size)
  generalize hAe : va_A (([(a0, .inr (7, [.ref a0_0, .ref a0_1, .ref a0_2, .ref a0_3, .ref a0_4, .ref a0_5, .ref a0_6, .ref a0_7, .ref a0_8, .ref a0_9, .int a0_10])), (a0_2, .inr (5, [.ref a0_2_0, .ref a0_2_1, .ref a0_2_2, .ref a0_2_3, .ref a0_2_4, .ref a0_2_5, .int a0_2_6, .int a0_2_7])), (a0_2_0, .inl (a0_2_0_c, 24, .inl a0_2_0_f)), (a0_2_1, .inl (a0_2_1_c, 24, .inl a0_2_1_f)), (a0_2_2, .inl (a0_2_2_c, 12, .inr (.inr (.inr (.inr a0_2_2_f))))), (a0_2_3, .inl (a0_2_3_c, 12, .inr (.inr (.inr (.inr a0_2_3_f))))), (a0_3, .inr (1, [.ref a0_3_0, .ref a0_3_1, .ref a0_3_2, .int a0_3_3])), (a0_3_0, .inl (a0_3_0_c, 12, .inl a0_3_0_f)), (a0_3_1, .inl (a0_3_1_c, 12, .inl a0_3_1_f)), (a0_3_2, .inl (a0_3_2_c, 12, .inl a0_3_2_f)), (a0_6, .inr (0, [.int a0_6_0, .ref a0_6_1, .int a0_6_2, .ref a0_6_3, .int a0_6_4, .ref a0_6_5, .ref a0_6_6, .ref a0_6_7, .int a0_6_8, .ref a0_6_9, .ref a0_6_10, .ref a0_6_11, .ref a0_6_12, .ref a0_6_13])), (a0_6_1, .inl (a0_6_1_c, 8, .inl a0_6_1_f)), (a0_6_3, .inl (a0_6_3_c, 4, .inl a0_6_3_f)), (a0_6_5, .inl (a0_6_5_c, 24, .inl a0_6_5_f)), (a0_6_6, .inl (a0_6_6_c, 24, .inl a0_6_6_f)), (a0_6_7, .inl (a0_6_7_c, 24, .inl a0_6_7_f)), (a0_6_9, .inl (a0_6_9_c, 12, .inl a0_6_9_f)), (a0_6_10, .inl (a0_6_10_c, 12, .inl a0_6_10_f)), (a0_6_11, .inl (a0_6_11_c, 12, .inl a0_6_11_f)), (a0_6_12, .inl (a0_6_12_c, 12, .inr (.inr (.inr (.inr a0_6_12_f))))), (a0_6_13, .inl (a0_6_13_c, 12, .inl a0_6_13_f)), (a0_8, .inr (2, [.ref a0_8_0, .ref a0_8_1, .ref a0_8_2, .ref a0_8_3, .ref a0_8_4, .ref a0_8_5])), (a0_8_0, .inl (a0_8_0_c, 24, .inl a0_8_0_f)), (a0_8_1, .inl (a0_8_1_c, 8, .inl a0_8_1_f)), (a0_8_2, .inl (a0_8_2_c, 12, .inl a0_8_2_f)), (a0_8_3, .inl (a0_8_3_c, 12, .inl a0_8_3_f)), (a0_8_4, .inl (a0_8_4_c, 12, .inr (.inr (.inr (.inr a0_8_4_f))))), (a0_8_5, .inl (a0_8_5_c, 12, .inr (.inr (.inr (.inr a0_8_5_f)))))] : va_W) ++ rows) s.heap.size = A at hD hE ⊢
  have hA : ∀ q : Nat, s.heap.size ≤ q → A q := fun q h => by rw [← hAe]; exact Or.inr h
  have hS : va_S A s.heap s.heap [] := va_S.rf
  replace hP : va_P (dC, dI) vwCl (([(a0, .inr (7, [.ref a0_0, .ref a0_1, .ref a0_2, .ref a0_3, .ref a0_4, .ref a0_5, .ref a0_6, .ref a0_7, .ref a0_8, .ref a0_9, .int a0_10])), (a0_2, .inr (5, [.ref a0_2_0, .ref a0_2_1, .ref a0_2_2, .ref a0_2_3, .ref a0_2_4, .ref a0_2_5, .int a0_2_6, .int a0_2_7])), (a0_2_0, .inl (a0_2_0_c, 24, .inl a0_2_0_f)), (a0_2_1, .inl (a0_2_1_c, 24, .inl a0_2_1_f)), (a0_2_2, .inl (a0_2_2_c, 12, .inr (.inr (.inr (.inr a0_2_2_f))))), (a0_2_3, .inl (a0_2_3_c, 12, .inr (.inr (.inr (.inr a0_2_3_f))))), (a0_3, .inr (1, [.ref a0_3_0, .ref a0_3_1, .ref a0_3_2, .int a0_3_3])), (a0_3_0, .inl (a0_3_0_c, 12, .inl a0_3_0_f)), (a0_3_1, .inl (a0_3_1_c, 12, .inl a0_3_1_f)), (a0_3_2, .inl (a0_3_2_c, 12, .inl a0_3_2_f)), (a0_6, .inr (0, [.int a0_6_0, .ref a0_6_1, .int a0_6_2, .ref a0_6_3, .int a0_6_4, .ref a0_6_5, .ref a0_6_6, .ref a0_6_7, .int a0_6_8, .ref a0_6_9, .ref a0_6_10, .ref a0_6_11, .ref a0_6_12, .ref a0_6_13])), (a0_6_1, .inl (a0_6_1_c, 8, .inl a0_6_1_f)), (a0_6_3, .inl (a0_6_3_c, 4, .inl a0_6_3_f)), (a0_6_5, .inl (a0_6_5_c, 24, .inl a0_6_5_f)), (a0_6_6, .inl (a0_6_6_c, 24, .inl a0_6_6_f)), (a0_6_7, .inl (a0_6_7_c, 24, .inl a0_6_7_f)), (a0_6_9, .inl (a0_6_9_c, 12, .inl a0_6_9_f)), (a0_6_10, .inl (a0_6_10_c, 12, .inl a0_6_10_f)), (a0_6_11, .inl (a0_6_11_c, 12, .inl a0_6_11_f)), (a0_6_12, .inl (a0_6_12_c, 12, .inr (.inr (.inr (.inr a0_6_12_f))))), (a0_6_13, .inl (a0_6_13_c, 12, .inl a0_6_13_f)), (a0_8, .inr (2, [.ref a0_8_0, .ref a0_8_1, .ref a0_8_2, .ref a0_8_3, .ref a0_8_4, .ref a0_8_5])), (a0_8_0, .inl (a0_8_0_c, 24, .inl a0_8_0_f)), (a0_8_1, .inl (a0_8_1_c, 8, .inl a0_8_1_f)), (a0_8_2, .inl (a0_8_2_c, 12, .inl a0_8_2_f)), (a0_8_3, .inl (a0_8_3_c, 12, .inl a0_8_3_f)), (a0_8_4, .inl (a0_8_4_c, 12, .inr (.inr (.inr (.inr a0_8_4_f))))), (a0_8_5, .inl (a0_8_5_c, 12, .inr (.inr (.inr (.inr a0_8_5_f)))))] : va_W) ++ rows) s.heap := hP
  have hl := lv_entry ([.ref a0, .int a1, .int a2]) (n := 5) (Nat.le_of_ble_eq_true rfl)
  rw [lg_entry_eq]
  generalize (lg_sl ([.ref a0, .int a1, .int a2]) ++ List.replicate (5 - (lg_sl ([.ref a0, .int a1, .int a2])).length) Slot.unset).toArray = ls at hl ⊢
  have hl : lv_has ls 5 [(0, .ref a0), (1, .int a1), (2, .int a2)] := hl
  have hK := cyK hK (hts (.arrayClass .int) qw_54) hE.2.2.2.2.2.2.2.2.2.2.2.2.1
  replace hK : va_K (dC, dI) vwCl [(a0_2_0_c, .int), (a0_2_1_c, .int), (a0_2_2_c, .array .int), (a0_2_3_c, .array .int), (a0_3_0_c, .int), (a0_3_1_c, .int), (a0_3_2_c, .int), (a0_6_1_c, .int), (a0_6_3_c, .int), (a0_6_5_c, .int), (a0_6_6_c, .int), (a0_6_7_c, .int), (a0_6_9_c, .int), (a0_6_10_c, .int), (a0_6_11_c, .boolean), (a0_6_12_c, .array .int), (a0_6_13_c, .int), (a0_8_0_c, .int), (a0_8_1_c, .int), (a0_8_2_c, .int), (a0_8_3_c, .int), (a0_8_4_c, .array .int), (a0_8_5_c, .array .int), (g.2.2.2.2.1, .int)] s := hK
  have b_a1 := i32b a1
  have b_a2 := i32b a2
  have b_a0_10 := i32b a0_10
  have hRS : RS g.2.2.2.2.1 rows rows := RS.rf
  refine lv_iload_n hx hb dX8_put_0 rfl (lv_at hl 2 rfl) ?_
  refine lv_iconst (v := (-1)) hx hb dX8_put_1 (by decide) ?_
  refine lv_icmp_eq (tgt := 16) hx hb dX8_put_2 (by decide) (fun c2_1 => ?_) (fun c2_1 => ?_)
  · have c2_1 : a2.toInt = (-1) := (cv_eq rfl (by decide)).mp c2_1
    refine lv_iconst (v := 1) hx hb dX8_put_16 (by decide) ?_
    refine lv_goto (tgt := 21) hx hb dX8_put_17 (by decide) ?_
    refine lv_istore_n (lv' := [(3, .int 1), (0, .ref a0), (1, .int a1), (2, .int a2)]) hx hb dX8_put_21 rfl hl (by decide) rfl (fun ls hl => ?_)
    refine lv_iload_n hx hb dX8_put_22 rfl (lv_at hl 0 rfl) ?_
    refine lv_if_eq (tgt := 37) hx hb dX8_put_23 (by decide) (fun c23_2 => by exfalso; exact absurd c23_2 (by decide)) (fun c23_2 => ?_)
    refine lv_aload_n hx hb dX8_put_26 rfl (lv_at hl 1 rfl) ?_
    refine va_get (D := (dC, dI)) (ci := 7) (v := .ref a0_6) (C := RX8) (T := TX8) (N := 11) hx hb hts inlX8 hown hK hP 0 rgL28_994ec6a rfl 6 (by decide) (hts (.fieldLink RX8 51 "ClosedUntil" "told" "LClosedUntil$Holdings;") qw_262) (fun _ h9 => h9) rfl dX8_put_27 ?_
    refine lv_iload_n hx hb dX8_put_30 rfl (lv_at hl 2 rfl) ?_
    have hPc := (rgP28_0b6182d hP)
    have hKc := (rgK24_38e9bb2 hK)
    refine vp_callSi ((va_runVN (As := [.int a1]) (rest := []) ⟨hx, hb, hml, hown, hts⟩ (k_X1_hasPiece l dC dI g (a0_6) (a1) (a0_6_0) (a0_6_1) (a0_6_2) (a0_6_3) (a0_6_4) (a0_6_5) (a0_6_6) (a0_6_7) (a0_6_8) (a0_6_9) (a0_6_10) (a0_6_11) (a0_6_12) (a0_6_13) (by omega) (by omega) (by omega) (by omega)) ⟨va_cnB 1 hts (gwC qw_312) rfl rfl rfl (nm_25 hN) (hts (.initialized RX1) qw_183) (by decide +kernel) ⟨Nat.le_of_ble_eq_true rfl, Nat.le_of_ble_eq_true rfl⟩, (hts (.instanceMethod yX1_hasPiece) qw_313), (hts (.selects RX1 yX1_hasPiece yX1_hasPiece) qw_314)⟩ ⟨fun a U g9 mk q => ⟨q.1, q.2.1, va_K.moved (u := U) (U := U.calling g9 mk a) (Vm.Alike.refl U.vm) q.2.2.1, Ev.bl q.2.2.2⟩, va_recv hK hP (ci := 0) (q0 := 10) rfl rgL28_1e838c7, fun U hU hW => ⟨rfl, atB hU hPc, va_K.moved hW.alike hKc, hE.go hS (fun _ h => h.elim) hU hW⟩⟩ rfl rfl hl.1 rfl (lv_room (Nat.le_of_ble_eq_true rfl)) dX8_put_31 ⟨Nat.le_of_ble_eq_true rfl, Nat.le_of_ble_eq_true rfl⟩)).run (fun r3 h_r3 => ?_)
    have h_r3 : (r3 = 0 ∨ r3 = 1) ∧ ((r3.toInt = 1 ∧ 0 ≤ a1.toInt ∧ a1.toInt < a0_6_4.toInt) ∨ r3.toInt = 0) := h_r3
    have b_r3 := z01 (show r3 = 0 ∨ r3 = 1 from h_r3.1)
    refine lv_if_ne (tgt := 40) hx hb dX8_put_34 (by decide) (fun c34_4 => ?_) (fun c34_4 => ?_)
    · have c34_4 : ¬ (r3.toInt = 0) := mt (cv_eq rfl (by decide)).mpr c34_4
      refine lv_iload_n hx hb dX8_put_40 rfl (lv_at hl 3 rfl) ?_
      refine lv_iconst (v := (-1)) hx hb dX8_put_41 (by decide) ?_
      refine lv_icmp_eq (tgt := 64) hx hb dX8_put_42 (by decide) (fun c42_5 => ?_) (fun c42_5 => ?_)
      · have c42_5 : a2.toInt = (-1) := (cv_eq rfl (by decide)).mp c42_5
        refine lv_aload_n hx hb dX8_put_64 rfl (lv_at hl 1 rfl) ?_
        refine va_get (D := (dC, dI)) (ci := 7) (v := .ref a0_8) (C := RX8) (T := TX8) (N := 11) hx hb hts inlX8 hown hK hP 0 rgL28_994ec6a rfl 8 (by decide) (hts (.fieldLink RX8 58 "ClosedUntil" "now" "LClosedUntil$State;") qw_266) (fun _ h9 => h9) rfl dX8_put_65 ?_
        refine va_getN (D := (dC, dI)) (ci := 2) (v := .ref a0_8_0) (C := RX3) (T := TX3) (N := 6) hx hb hts inlX3 hown hK hP 21 rgL28_453b3bf rfl 0 (by decide) (va_Nw.use rfl (nf_14 hN)) (fun _ h9 => h9) rfl dX8_put_68 ?_
        refine lv_iload_n hx hb dX8_put_71 rfl (lv_at hl 2 rfl) ?_
        refine va_iald hx hb hK hP 22 17 rgL28_8e7fe62 rgT24_623c6c3 (vinI (by omega) (by omega)) dX8_put_72 ?_
        refine lv_topi (fun x6 e_x6 => ?_)
        have b_x6 := i32b x6
        refine lv_istore (lv' := [(4, .int x6), (3, .int 1), (0, .ref a0), (1, .int a1), (2, .int a2)]) hx hb dX8_put_73 hl (by decide) rfl (fun ls hl => ?_)
        refine lv_aload_n hx hb dX8_put_75 rfl (lv_at hl 2 rfl) ?_
        refine va_get (D := (dC, dI)) (ci := 7) (v := .ref a0_8) (C := RX8) (T := TX8) (N := 11) hx hb hts inlX8 hown hK hP 0 rgL28_994ec6a rfl 8 (by decide) (hts (.fieldLink RX8 58 "ClosedUntil" "now" "LClosedUntil$State;") qw_266) (fun _ h9 => h9) rfl dX8_put_76 ?_
        refine va_getN (D := (dC, dI)) (ci := 2) (v := .ref a0_8_0) (C := RX3) (T := TX3) (N := 6) hx hb hts inlX3 hown hK hP 21 rgL28_453b3bf rfl 0 (by decide) (va_Nw.use rfl (nf_14 hN)) (fun _ h9 => h9) rfl dX8_put_79 ?_
        refine lv_iload_n hx hb dX8_put_82 rfl (lv_at hl 3 rfl) ?_
        refine lv_iload_n hx hb dX8_put_83 rfl (lv_at hl 4 rfl) ?_
        refine va_iast hx hb hK hP hD hS 22 17 rgL28_8e7fe62 rgT24_623c6c3 (vinI (by omega) (by omega)) dX8_put_84 (fun H locs hP9 hD9 hS9 => ?_)
        obtain ⟨y7, e_y7⟩ : ∃ y, (upd a0_8_0_f a1.toNatClampNeg a2) = y := ⟨_, rfl⟩
        clear hP hD hS
        obtain ⟨hP, hD⟩ := rgS28_ea8b686 (e := (a0_8_0, .inl (a0_8_0_c, 24, .inl y7))) hP9 hD9 (congrArg (fun z9 => (((a0_8_0, .inl (a0_8_0_c, 24, .inl z9)) : Nat × va_E))) e_y7)
        have hS := hS9; clear hP9 hD9 hS9
        refine lv_aload_n hx hb dX8_put_85 rfl (lv_at hl 2 rfl) ?_
        refine lv_iconst (v := 3) hx hb dX8_put_86 (by decide) ?_
        refine lv_iload_n hx hb dX8_put_87 rfl (lv_at hl 3 rfl) ?_
        refine lv_iload hx hb dX8_put_88 (lv_at hl 0 rfl) ?_
        have qc3 : (3 : Int32).toInt = 3 := by decide
        have hPc := (rgP28_429e2e3 hP)
        have hKc := (rgK24_4aa029b hK)
        have hDc := (rgD28_a0847e9 hD)
        have hFc := freeW hDc hS hA
        refine va_callv (va_runV (As := [.int 3, .int a1, .int x6]) (rest := []) ⟨hx, hb, hml, hown, hts⟩ (k_X8_remember l dC dI g H.size (a0) (3) (a1) (x6) (a0_0) (a0_1) (a0_2) (a0_3) (a0_4) (a0_5) (a0_6) (a0_7) (a0_8) (a0_9) (a0_10) (a0_3_0) (a0_3_1) (a0_3_2) (a0_3_3) (a0_3_0_c) (a0_3_0_f) (a0_3_1_c) (a0_3_1_f) (a0_3_2_c) (a0_3_2_f) (by omega) (by assumption) (by unfold JE; omega)) (cwV 3 hts (gwV qw_288 qw_289 qw_290 qw_28 qw_287) rfl rfl rfl (by decide +kernel) ⟨Nat.le_of_ble_eq_true rfl, Nat.le_of_ble_eq_true rfl⟩) ⟨fun a U g9 mk q => ⟨q.1, q.2.1, q.2.2.1, va_K.moved (u := U) (U := U.calling g9 mk a) (Vm.Alike.refl U.vm) q.2.2.2.1, q.2.2.2.2.1, Ev.bl q.2.2.2.2.2⟩, va_recv hK hP (ci := 7) (q0 := 0) rfl rgL28_994ec6a, fun U hU hW => ⟨rfl, by rw [hU], atB hU hPc, va_K.moved hW.alike hKc, hDc.weaken (fun _ _ _ _ => trivial), hE.go hS hFc hU hW⟩⟩ rfl rfl hl.1 rfl (lv_room (Nat.le_of_ble_eq_true rfl)) dX8_put_90 ⟨Nat.le_of_ble_eq_true rfl, Nat.le_of_ble_eq_true rfl⟩) hS (fun q _ h => hFc q h) hFc (fun u8 t H1 locs ht hvm h_u8 hB hz1 hk1 hS => ?_)
        obtain ⟨za0_10_10, za0_3_3_11, za0_3_0_f_12, za0_3_1_f_13, za0_3_2_f_14, hF15, hF16, hF17, hP1, hK1, hD1⟩ := hB
        have hK1 := va_K.moved hvm.symm hK1
        have hJ9 := rgJ28_7cfb90d hP hD hk1 hFc (atH ht hP1) hD1
        clear hP hD hPc hKc hDc hFc hP1 hD1 hk1 hz1
        obtain ⟨hP, hD⟩ := hJ9
        clear hK1
        generalize H1 = H at hP hS ⊢
        refine W.widen (k := 0) (n := 0) (Nat.le_of_ble_eq_true rfl) (Nat.le_of_ble_eq_true rfl) ?_
        refine lv_iload hx hb dX8_put_93 (lv_at hl 0 rfl) ?_
        refine W.widen (k := 0) (n := 0) (Nat.le_of_ble_eq_true rfl) (Nat.le_of_ble_eq_true rfl) ?_
        have hP9 := hP
        have hD9 := hD
        have hK9 := (rgK24_38e9bb2 hK)
        have hf9_0 : (0 ≤ a0_2_6.toInt ∧ a0_2_6.toInt ≤ 24) := by omega
        have hf9_1 : (0 ≤ a0_2_7.toInt ∧ a0_2_7.toInt ≤ 12) := by omega
        have hf9_2 : (0 ≤ za0_3_3_11.toInt ∧ za0_3_3_11.toInt ≤ 12) := by omega
        have hf9_3 : RS g.2.2.2.2.1 rows rows := hRS
        have hf9_4 : (JA za0_3_0_f_12 za0_3_1_f_13 za0_3_2_f_14 za0_3_3_11) := by assumption
        have hf9_5 : (JC za0_3_0_f_12 za0_3_1_f_13 za0_3_3_11 a0_8_3_f) := JC.act hjc (by assumption) (by omega)
        exact W.iret (v := x6) hx hb hr (fun t ht hW => ⟨⟨x6, x6, rfl, rfl, za0_10_10, a0_2_6, a0_2_7, a0_2_0_f, a0_2_1_f, za0_3_3_11, za0_3_0_f_12, za0_3_1_f_13, za0_3_2_f_14, y7, rows, hf9_0, hf9_1, hf9_2, hf9_3, hf9_4, hf9_5, atB ht hP9, va_K.moved hW.alike hK9, hD9⟩, hS.F ht⟩) hS.2.2 dX8_put_95
      · have c42_5 : ¬ (a2.toInt = (-1)) := mt (cv_eq rfl (by decide)).mpr c42_5
        refine lv_aload_n hx hb dX8_put_45 rfl (lv_at hl 1 rfl) ?_
        have hPc := (rgP28_1801ec9 hP)
        have hKc := (rgK24_ca496e8 hK)
        have hDc := (rgD28_76476a0 hD)
        have hFc := freeW hDc hS hA
        refine va_callr (va_runV (As := []) (rest := []) ⟨hx, hb, hml, hown, hts⟩ (k_X8_upToDate l dC dI g s.heap.size (a0) (a0_0) (a0_1) (a0_2) (a0_3) (a0_4) (a0_5) (a0_6) (a0_7) (a0_8) (a0_9) (a0_10) (a0_2_0) (a0_2_1) (a0_2_2) (a0_2_3) (a0_2_4) (a0_2_5) (a0_2_6) (a0_2_7) (a0_2_0_c) (a0_2_0_f) (a0_2_1_c) (a0_2_1_f) (a0_2_2_c) (a0_2_2_f) (a0_2_3_c) (a0_2_3_f) (a0_6_0) (a0_6_1) (a0_6_2) (a0_6_3) (a0_6_4) (a0_6_5) (a0_6_6) (a0_6_7) (a0_6_8) (a0_6_9) (a0_6_10) (a0_6_11) (a0_6_12) (a0_6_13) (a0_6_1_c) (a0_6_1_f) (a0_6_3_c) (a0_6_3_f) (a0_6_5_c) (a0_6_5_f) (a0_6_6_c) (a0_6_6_f) (a0_6_7_c) (a0_6_7_f) (a0_6_9_c) (a0_6_9_f) (a0_6_10_c) (a0_6_10_f) (a0_6_11_c) (a0_6_11_f) (a0_6_12_c) (a0_6_12_f) (a0_6_13_c) (a0_6_13_f) (a0_8_0) (a0_8_1) (a0_8_2) (a0_8_3) (a0_8_4) (a0_8_5) (a0_8_0_c) (a0_8_0_f) (a0_8_1_c) (a0_8_1_f) (a0_8_2_c) (a0_8_2_f) (a0_8_3_c) (a0_8_3_f) (a0_8_4_c) (a0_8_4_f) (a0_8_5_c) (a0_8_5_f) (rows) (by omega) (by omega) (RS.gr hRS h_a0_2_2_f) (RS.gr hRS h_a0_2_3_f) (by omega) (by omega) (by omega) (by omega) (RS.gr hRS h_a0_6_12_f) h_a0_8_3_f (RS.gr hRS h_a0_8_4_f) (RS.gr hRS h_a0_8_5_f) (by assumption)) (cwV 0 hts (gwV qw_316 qw_317 qw_318 qw_28 qw_315) rfl rfl rfl (by decide +kernel) ⟨Nat.le_of_ble_eq_true rfl, Nat.le_of_ble_eq_true rfl⟩) ⟨fun a U g9 mk q => ⟨q.1, q.2.1, q.2.2.1, va_K.moved (u := U) (U := U.calling g9 mk a) (Vm.Alike.refl U.vm) q.2.2.2.1, q.2.2.2.2.1, Ev.bl q.2.2.2.2.2⟩, va_recv hK hP (ci := 7) (q0 := 0) rfl rgL28_994ec6a, fun U hU hW => ⟨rfl, by rw [hU], atB hU hPc, va_K.moved hW.alike hKc, hDc.weaken (fun _ _ _ _ => trivial), hE.go hS hFc hU hW⟩⟩ rfl rfl hl.1 rfl (lv_room (Nat.le_of_ble_eq_true rfl)) dX8_put_46 ⟨Nat.le_of_ble_eq_true rfl, Nat.le_of_ble_eq_true rfl⟩) hS (fun q _ h => hFc q h) hFc (fun u18 r19 t H1 locs ht hvm h_u18 hB hz1 hk1 hS => ?_)
        obtain ⟨hrr, za0_10_20, za0_2_6_21, za0_2_7_22, za0_2_0_f_23, za0_2_1_f_24, zrows_25, hF26, hF27, hF28, hP1, hK1, hD1⟩ := hB
        have hK1 := va_K.moved hvm.symm hK1
        have hJ9 := rgJ28_c8427ca hP hD hk1 hFc (atH ht hP1) hD1
        clear hP hD hPc hKc hDc hFc hP1 hD1 hk1 hz1
        obtain ⟨hP, hD⟩ := hJ9
        clear hK1
        generalize H1 = H at hP hS ⊢
        refine W.widen (k := 0) (n := 0) (Nat.le_of_ble_eq_true rfl) (Nat.le_of_ble_eq_true rfl) ?_
        refine topv (w := .ref a0_2) (by rw [hrr]) ?_
        have hRS := RS.tr hRS hF28
        refine va_getN (D := (dC, dI)) (ci := 5) (v := .ref a0_2_0) (C := RX6) (T := TX6) (N := 8) hx hb hts inlX6 hown hK hP 1 rgL28_1b0b1d4 rfl 0 (by decide) (va_Nw.use rfl (nf_6 hN)) (fun _ h9 => h9) rfl dX8_put_49 ?_
        refine lv_iload_n hx hb dX8_put_52 rfl (lv_at hl 2 rfl) ?_
        refine va_iald hx hb hK hP 2 0 rgL28_d56af43 rgT24_7b8e3d5 (vinI (by omega) (by omega)) dX8_put_53 ?_
        refine lv_topi (fun x29 e_x29 => ?_)
        have b_x29 := i32b x29
        refine lv_iload_n hx hb dX8_put_54 rfl (lv_at hl 3 rfl) ?_
        have hPc := (rgP28_1b4bebf hP)
        have hKc := (rgK24_38e9bb2 hK)
        refine vp_callSi ((va_runS (As := [.int x29, .int a2]) (rest := []) ⟨hx, hb, hml, hown, hts⟩ (k_X8_hasBit l dC dI g (x29) (a2) ) (va_cwS 2 hts (gwS qw_331 qw_29 qw_28 qw_27) rfl rfl rfl (by decide +kernel) ⟨Nat.le_of_ble_eq_true rfl, Nat.le_of_ble_eq_true rfl⟩) ⟨fun a U g9 mk q => ⟨q.1, q.2.1, va_K.moved (u := U) (U := U.calling g9 mk a) (Vm.Alike.refl U.vm) q.2.2.1, Ev.bl q.2.2.2⟩, fun U hU hW => ⟨rfl, atB hU hPc, va_K.moved hW.alike hKc, hE.go hS (fun _ h => h.elim) hU hW⟩⟩ rfl rfl hl.1 rfl (lv_room (Nat.le_of_ble_eq_true rfl)) dX8_put_55 ⟨Nat.le_of_ble_eq_true rfl, Nat.le_of_ble_eq_true rfl⟩)).run (fun r30 h_r30 => ?_)
        have h_r30 : (r30 = 0 ∨ r30 = 1) := h_r30
        have b_r30 := z01 (show r30 = 0 ∨ r30 = 1 from h_r30)
        refine lv_if_eq (tgt := 64) hx hb dX8_put_58 (by decide) (fun c58_31 => ?_) (fun c58_31 => ?_)
        · have c58_31 : r30.toInt = 0 := (cv_eq rfl (by decide)).mp c58_31
          refine lv_aload_n hx hb dX8_put_64 rfl (lv_at hl 1 rfl) ?_
          refine va_get (D := (dC, dI)) (ci := 7) (v := .ref a0_8) (C := RX8) (T := TX8) (N := 11) hx hb hts inlX8 hown hK hP 0 rgL28_994ec6a rfl 8 (by decide) (hts (.fieldLink RX8 58 "ClosedUntil" "now" "LClosedUntil$State;") qw_266) (fun _ h9 => h9) rfl dX8_put_65 ?_
          refine va_getN (D := (dC, dI)) (ci := 2) (v := .ref a0_8_0) (C := RX3) (T := TX3) (N := 6) hx hb hts inlX3 hown hK hP 21 rgL28_453b3bf rfl 0 (by decide) (va_Nw.use rfl (nf_14 hN)) (fun _ h9 => h9) rfl dX8_put_68 ?_
          refine lv_iload_n hx hb dX8_put_71 rfl (lv_at hl 2 rfl) ?_
          refine va_iald hx hb hK hP 22 17 rgL28_8e7fe62 rgT24_623c6c3 (vinI (by omega) (by omega)) dX8_put_72 ?_
          refine lv_topi (fun x32 e_x32 => ?_)
          have b_x32 := i32b x32
          refine lv_istore (lv' := [(4, .int x32), (3, .int 1), (0, .ref a0), (1, .int a1), (2, .int a2)]) hx hb dX8_put_73 hl (by decide) rfl (fun ls hl => ?_)
          refine lv_aload_n hx hb dX8_put_75 rfl (lv_at hl 2 rfl) ?_
          refine va_get (D := (dC, dI)) (ci := 7) (v := .ref a0_8) (C := RX8) (T := TX8) (N := 11) hx hb hts inlX8 hown hK hP 0 rgL28_994ec6a rfl 8 (by decide) (hts (.fieldLink RX8 58 "ClosedUntil" "now" "LClosedUntil$State;") qw_266) (fun _ h9 => h9) rfl dX8_put_76 ?_
          refine va_getN (D := (dC, dI)) (ci := 2) (v := .ref a0_8_0) (C := RX3) (T := TX3) (N := 6) hx hb hts inlX3 hown hK hP 21 rgL28_453b3bf rfl 0 (by decide) (va_Nw.use rfl (nf_14 hN)) (fun _ h9 => h9) rfl dX8_put_79 ?_
          refine lv_iload_n hx hb dX8_put_82 rfl (lv_at hl 3 rfl) ?_
          refine lv_iload_n hx hb dX8_put_83 rfl (lv_at hl 4 rfl) ?_
          refine va_iast hx hb hK hP hD hS 22 17 rgL28_8e7fe62 rgT24_623c6c3 (vinI (by omega) (by omega)) dX8_put_84 (fun H locs hP9 hD9 hS9 => ?_)
          obtain ⟨y33, e_y33⟩ : ∃ y, (upd a0_8_0_f a1.toNatClampNeg a2) = y := ⟨_, rfl⟩
          clear hP hD hS
          obtain ⟨hP, hD⟩ := rgS28_ea8b686 (e := (a0_8_0, .inl (a0_8_0_c, 24, .inl y33))) hP9 hD9 (congrArg (fun z9 => (((a0_8_0, .inl (a0_8_0_c, 24, .inl z9)) : Nat × va_E))) e_y33)
          have hS := hS9; clear hP9 hD9 hS9
          refine lv_aload_n hx hb dX8_put_85 rfl (lv_at hl 2 rfl) ?_
          refine lv_iconst (v := 3) hx hb dX8_put_86 (by decide) ?_
          refine lv_iload_n hx hb dX8_put_87 rfl (lv_at hl 3 rfl) ?_
          refine lv_iload hx hb dX8_put_88 (lv_at hl 0 rfl) ?_
          have qc3 : (3 : Int32).toInt = 3 := by decide
          have hPc := (rgP28_429e2e3 hP)
          have hKc := (rgK24_4aa029b hK)
          have hDc := (rgD28_a0847e9 hD)
          have hFc := freeW hDc hS hA
          refine va_callv (va_runV (As := [.int 3, .int a1, .int x32]) (rest := []) ⟨hx, hb, hml, hown, hts⟩ (k_X8_remember l dC dI g H.size (a0) (3) (a1) (x32) (a0_0) (a0_1) (a0_2) (a0_3) (a0_4) (a0_5) (a0_6) (a0_7) (a0_8) (a0_9) (za0_10_20) (a0_3_0) (a0_3_1) (a0_3_2) (a0_3_3) (a0_3_0_c) (a0_3_0_f) (a0_3_1_c) (a0_3_1_f) (a0_3_2_c) (a0_3_2_f) (by omega) (by assumption) (by unfold JE; omega)) (cwV 3 hts (gwV qw_288 qw_289 qw_290 qw_28 qw_287) rfl rfl rfl (by decide +kernel) ⟨Nat.le_of_ble_eq_true rfl, Nat.le_of_ble_eq_true rfl⟩) ⟨fun a U g9 mk q => ⟨q.1, q.2.1, q.2.2.1, va_K.moved (u := U) (U := U.calling g9 mk a) (Vm.Alike.refl U.vm) q.2.2.2.1, q.2.2.2.2.1, Ev.bl q.2.2.2.2.2⟩, va_recv hK hP (ci := 7) (q0 := 0) rfl rgL28_994ec6a, fun U hU hW => ⟨rfl, by rw [hU], atB hU hPc, va_K.moved hW.alike hKc, hDc.weaken (fun _ _ _ _ => trivial), hE.go hS hFc hU hW⟩⟩ rfl rfl hl.1 rfl (lv_room (Nat.le_of_ble_eq_true rfl)) dX8_put_90 ⟨Nat.le_of_ble_eq_true rfl, Nat.le_of_ble_eq_true rfl⟩) hS (fun q _ h => hFc q h) hFc (fun u34 t H1 locs ht hvm h_u34 hB hz1 hk1 hS => ?_)
          obtain ⟨za0_10_36, za0_3_3_37, za0_3_0_f_38, za0_3_1_f_39, za0_3_2_f_40, hF41, hF42, hF43, hP1, hK1, hD1⟩ := hB
          have hK1 := va_K.moved hvm.symm hK1
          have hJ9 := rgJ28_7cfb90d hP hD hk1 hFc (atH ht hP1) hD1
          clear hP hD hPc hKc hDc hFc hP1 hD1 hk1 hz1
          obtain ⟨hP, hD⟩ := hJ9
          clear hK1
          generalize H1 = H at hP hS ⊢
          refine W.widen (k := 0) (n := 0) (Nat.le_of_ble_eq_true rfl) (Nat.le_of_ble_eq_true rfl) ?_
          refine lv_iload hx hb dX8_put_93 (lv_at hl 0 rfl) ?_
          refine W.widen (k := 0) (n := 0) (Nat.le_of_ble_eq_true rfl) (Nat.le_of_ble_eq_true rfl) ?_
          have hP9 := hP
          have hD9 := hD
          have hK9 := (rgK24_38e9bb2 hK)
          have hf9_0 : (0 ≤ za0_2_6_21.toInt ∧ za0_2_6_21.toInt ≤ 24) := by omega
          have hf9_1 : (0 ≤ za0_2_7_22.toInt ∧ za0_2_7_22.toInt ≤ 12) := by omega
          have hf9_2 : (0 ≤ za0_3_3_37.toInt ∧ za0_3_3_37.toInt ≤ 12) := by omega
          have hf9_3 : RS g.2.2.2.2.1 rows zrows_25 := hRS
          have hf9_4 : (JA za0_3_0_f_38 za0_3_1_f_39 za0_3_2_f_40 za0_3_3_37) := by assumption
          have hf9_5 : (JC za0_3_0_f_38 za0_3_1_f_39 za0_3_3_37 a0_8_3_f) := JC.act hjc (by assumption) (by omega)
          exact W.iret (v := x32) hx hb hr (fun t ht hW => ⟨⟨x32, x32, rfl, rfl, za0_10_36, za0_2_6_21, za0_2_7_22, za0_2_0_f_23, za0_2_1_f_24, za0_3_3_37, za0_3_0_f_38, za0_3_1_f_39, za0_3_2_f_40, y33, zrows_25, hf9_0, hf9_1, hf9_2, hf9_3, hf9_4, hf9_5, atB ht hP9, va_K.moved hW.alike hK9, hD9⟩, hS.F ht⟩) hS.2.2 dX8_put_95
        · have c58_31 : ¬ (r30.toInt = 0) := mt (cv_eq rfl (by decide)).mpr c58_31
          refine lv_bipush (v := (-2)) hx hb dX8_put_61 (by decide) ?_
          have qcm2 : ((-2) : Int32).toInt = (-2) := by decide
          refine W.widen (k := 0) (n := 0) (Nat.le_of_ble_eq_true rfl) (Nat.le_of_ble_eq_true rfl) ?_
          have hP9 := hP
          have hD9 := hD
          have hK9 := (rgK24_38e9bb2 hK)
          have hf9_0 : (0 ≤ za0_2_6_21.toInt ∧ za0_2_6_21.toInt ≤ 24) := by omega
          have hf9_1 : (0 ≤ za0_2_7_22.toInt ∧ za0_2_7_22.toInt ≤ 12) := by omega
          have hf9_2 : (0 ≤ a0_3_3.toInt ∧ a0_3_3.toInt ≤ 12) := by omega
          have hf9_3 : RS g.2.2.2.2.1 rows zrows_25 := hRS
          have hf9_4 : (JA a0_3_0_f a0_3_1_f a0_3_2_f a0_3_3) := by assumption
          have hf9_5 : (JC a0_3_0_f a0_3_1_f a0_3_3 a0_8_3_f) := hjc
          exact W.iret (v := (-2)) hx hb hr (fun t ht hW => ⟨⟨(-2), (-2), rfl, rfl, za0_10_20, za0_2_6_21, za0_2_7_22, za0_2_0_f_23, za0_2_1_f_24, a0_3_3, a0_3_0_f, a0_3_1_f, a0_3_2_f, a0_8_0_f, zrows_25, hf9_0, hf9_1, hf9_2, hf9_3, hf9_4, hf9_5, atB ht hP9, va_K.moved hW.alike hK9, hD9⟩, hS.F ht⟩) hS.2.2 dX8_put_63
    · have c34_4 : r3.toInt = 0 := (cv_eq rfl (by decide)).mp c34_4
      refine lv_bipush (v := (-2)) hx hb dX8_put_37 (by decide) ?_
      have qcm2 : ((-2) : Int32).toInt = (-2) := by decide
      refine W.widen (k := 0) (n := 0) (Nat.le_of_ble_eq_true rfl) (Nat.le_of_ble_eq_true rfl) ?_
      have hP9 := hP
      have hD9 := hD
      have hK9 := (rgK24_38e9bb2 hK)
      have hf9_0 : (0 ≤ a0_2_6.toInt ∧ a0_2_6.toInt ≤ 24) := by omega
      have hf9_1 : (0 ≤ a0_2_7.toInt ∧ a0_2_7.toInt ≤ 12) := by omega
      have hf9_2 : (0 ≤ a0_3_3.toInt ∧ a0_3_3.toInt ≤ 12) := by omega
      have hf9_3 : RS g.2.2.2.2.1 rows rows := hRS
      have hf9_4 : (JA a0_3_0_f a0_3_1_f a0_3_2_f a0_3_3) := by assumption
      have hf9_5 : (JC a0_3_0_f a0_3_1_f a0_3_3 a0_8_3_f) := hjc
      exact W.iret (v := (-2)) hx hb hr (fun t ht hW => ⟨⟨(-2), (-2), rfl, rfl, a0_10, a0_2_6, a0_2_7, a0_2_0_f, a0_2_1_f, a0_3_3, a0_3_0_f, a0_3_1_f, a0_3_2_f, a0_8_0_f, rows, hf9_0, hf9_1, hf9_2, hf9_3, hf9_4, hf9_5, atB ht hP9, va_K.moved hW.alike hK9, hD9⟩, hS.F ht⟩) hS.2.2 dX8_put_39
  · have c2_1 : ¬ (a2.toInt = (-1)) := mt (cv_eq rfl (by decide)).mpr c2_1
    refine lv_aload_n hx hb dX8_put_5 rfl (lv_at hl 0 rfl) ?_
    refine va_get (D := (dC, dI)) (ci := 7) (v := .ref a0_6) (C := RX8) (T := TX8) (N := 11) hx hb hts inlX8 hown hK hP 0 rgL28_994ec6a rfl 6 (by decide) (hts (.fieldLink RX8 51 "ClosedUntil" "told" "LClosedUntil$Holdings;") qw_262) (fun _ h9 => h9) rfl dX8_put_6 ?_
    refine lv_iload_n hx hb dX8_put_9 rfl (lv_at hl 2 rfl) ?_
    have hPc := (rgP28_0b6182d hP)
    have hKc := (rgK24_38e9bb2 hK)
    refine vp_callSi ((va_runVN (As := [.int a2]) (rest := []) ⟨hx, hb, hml, hown, hts⟩ (k_X1_hasPiece l dC dI g (a0_6) (a2) (a0_6_0) (a0_6_1) (a0_6_2) (a0_6_3) (a0_6_4) (a0_6_5) (a0_6_6) (a0_6_7) (a0_6_8) (a0_6_9) (a0_6_10) (a0_6_11) (a0_6_12) (a0_6_13) (by omega) (by omega) (by omega) (by omega)) ⟨va_cnB 1 hts (gwC qw_312) rfl rfl rfl (nm_25 hN) (hts (.initialized RX1) qw_183) (by decide +kernel) ⟨Nat.le_of_ble_eq_true rfl, Nat.le_of_ble_eq_true rfl⟩, (hts (.instanceMethod yX1_hasPiece) qw_313), (hts (.selects RX1 yX1_hasPiece yX1_hasPiece) qw_314)⟩ ⟨fun a U g9 mk q => ⟨q.1, q.2.1, va_K.moved (u := U) (U := U.calling g9 mk a) (Vm.Alike.refl U.vm) q.2.2.1, Ev.bl q.2.2.2⟩, va_recv hK hP (ci := 0) (q0 := 10) rfl rgL28_1e838c7, fun U hU hW => ⟨rfl, atB hU hPc, va_K.moved hW.alike hKc, hE.go hS (fun _ h => h.elim) hU hW⟩⟩ rfl rfl hl.1 rfl (lv_room (Nat.le_of_ble_eq_true rfl)) dX8_put_10 ⟨Nat.le_of_ble_eq_true rfl, Nat.le_of_ble_eq_true rfl⟩)).run (fun r44 h_r44 => ?_)
    have h_r44 : (r44 = 0 ∨ r44 = 1) ∧ ((r44.toInt = 1 ∧ 0 ≤ a2.toInt ∧ a2.toInt < a0_6_4.toInt) ∨ r44.toInt = 0) := h_r44
    have b_r44 := z01 (show r44 = 0 ∨ r44 = 1 from h_r44.1)
    refine lv_if_eq (tgt := 20) hx hb dX8_put_13 (by decide) (fun c13_45 => ?_) (fun c13_45 => ?_)
    · have c13_45 : r44.toInt = 0 := (cv_eq rfl (by decide)).mp c13_45
      refine lv_iconst (v := 0) hx hb dX8_put_20 (by decide) ?_
      refine lv_istore_n (lv' := [(3, .int 0), (0, .ref a0), (1, .int a1), (2, .int a2)]) hx hb dX8_put_21 rfl hl (by decide) rfl (fun ls hl => ?_)
      refine lv_iload_n hx hb dX8_put_22 rfl (lv_at hl 0 rfl) ?_
      refine lv_if_eq (tgt := 37) hx hb dX8_put_23 (by decide) (fun c23_46 => ?_) (fun c23_46 => by exfalso; exact absurd c23_46 (by decide))
      refine lv_bipush (v := (-2)) hx hb dX8_put_37 (by decide) ?_
      have qcm2 : ((-2) : Int32).toInt = (-2) := by decide
      refine W.widen (k := 0) (n := 0) (Nat.le_of_ble_eq_true rfl) (Nat.le_of_ble_eq_true rfl) ?_
      have hP9 := hP
      have hD9 := hD
      have hK9 := (rgK24_38e9bb2 hK)
      have hf9_0 : (0 ≤ a0_2_6.toInt ∧ a0_2_6.toInt ≤ 24) := by omega
      have hf9_1 : (0 ≤ a0_2_7.toInt ∧ a0_2_7.toInt ≤ 12) := by omega
      have hf9_2 : (0 ≤ a0_3_3.toInt ∧ a0_3_3.toInt ≤ 12) := by omega
      have hf9_3 : RS g.2.2.2.2.1 rows rows := hRS
      have hf9_4 : (JA a0_3_0_f a0_3_1_f a0_3_2_f a0_3_3) := by assumption
      have hf9_5 : (JC a0_3_0_f a0_3_1_f a0_3_3 a0_8_3_f) := hjc
      exact W.iret (v := (-2)) hx hb hr (fun t ht hW => ⟨⟨(-2), (-2), rfl, rfl, a0_10, a0_2_6, a0_2_7, a0_2_0_f, a0_2_1_f, a0_3_3, a0_3_0_f, a0_3_1_f, a0_3_2_f, a0_8_0_f, rows, hf9_0, hf9_1, hf9_2, hf9_3, hf9_4, hf9_5, atB ht hP9, va_K.moved hW.alike hK9, hD9⟩, hS.F ht⟩) hS.2.2 dX8_put_39
    · have c13_45 : ¬ (r44.toInt = 0) := mt (cv_eq rfl (by decide)).mpr c13_45
      refine lv_iconst (v := 1) hx hb dX8_put_16 (by decide) ?_
      refine lv_goto (tgt := 21) hx hb dX8_put_17 (by decide) ?_
      refine lv_istore_n (lv' := [(3, .int 1), (0, .ref a0), (1, .int a1), (2, .int a2)]) hx hb dX8_put_21 rfl hl (by decide) rfl (fun ls hl => ?_)
      refine lv_iload_n hx hb dX8_put_22 rfl (lv_at hl 0 rfl) ?_
      refine lv_if_eq (tgt := 37) hx hb dX8_put_23 (by decide) (fun c23_47 => by exfalso; exact absurd c23_47 (by decide)) (fun c23_47 => ?_)
      refine lv_aload_n hx hb dX8_put_26 rfl (lv_at hl 1 rfl) ?_
      refine va_get (D := (dC, dI)) (ci := 7) (v := .ref a0_6) (C := RX8) (T := TX8) (N := 11) hx hb hts inlX8 hown hK hP 0 rgL28_994ec6a rfl 6 (by decide) (hts (.fieldLink RX8 51 "ClosedUntil" "told" "LClosedUntil$Holdings;") qw_262) (fun _ h9 => h9) rfl dX8_put_27 ?_
      refine lv_iload_n hx hb dX8_put_30 rfl (lv_at hl 2 rfl) ?_
      have hPc := (rgP28_0b6182d hP)
      have hKc := (rgK24_38e9bb2 hK)
      refine vp_callSi ((va_runVN (As := [.int a1]) (rest := []) ⟨hx, hb, hml, hown, hts⟩ (k_X1_hasPiece l dC dI g (a0_6) (a1) (a0_6_0) (a0_6_1) (a0_6_2) (a0_6_3) (a0_6_4) (a0_6_5) (a0_6_6) (a0_6_7) (a0_6_8) (a0_6_9) (a0_6_10) (a0_6_11) (a0_6_12) (a0_6_13) (by omega) (by omega) (by omega) (by omega)) ⟨va_cnB 1 hts (gwC qw_312) rfl rfl rfl (nm_25 hN) (hts (.initialized RX1) qw_183) (by decide +kernel) ⟨Nat.le_of_ble_eq_true rfl, Nat.le_of_ble_eq_true rfl⟩, (hts (.instanceMethod yX1_hasPiece) qw_313), (hts (.selects RX1 yX1_hasPiece yX1_hasPiece) qw_314)⟩ ⟨fun a U g9 mk q => ⟨q.1, q.2.1, va_K.moved (u := U) (U := U.calling g9 mk a) (Vm.Alike.refl U.vm) q.2.2.1, Ev.bl q.2.2.2⟩, va_recv hK hP (ci := 0) (q0 := 10) rfl rgL28_1e838c7, fun U hU hW => ⟨rfl, atB hU hPc, va_K.moved hW.alike hKc, hE.go hS (fun _ h => h.elim) hU hW⟩⟩ rfl rfl hl.1 rfl (lv_room (Nat.le_of_ble_eq_true rfl)) dX8_put_31 ⟨Nat.le_of_ble_eq_true rfl, Nat.le_of_ble_eq_true rfl⟩)).run (fun r48 h_r48 => ?_)
      have h_r48 : (r48 = 0 ∨ r48 = 1) ∧ ((r48.toInt = 1 ∧ 0 ≤ a1.toInt ∧ a1.toInt < a0_6_4.toInt) ∨ r48.toInt = 0) := h_r48
      have b_r48 := z01 (show r48 = 0 ∨ r48 = 1 from h_r48.1)
      refine lv_if_ne (tgt := 40) hx hb dX8_put_34 (by decide) (fun c34_49 => ?_) (fun c34_49 => ?_)
      · have c34_49 : ¬ (r48.toInt = 0) := mt (cv_eq rfl (by decide)).mpr c34_49
        refine lv_iload_n hx hb dX8_put_40 rfl (lv_at hl 3 rfl) ?_
        refine lv_iconst (v := (-1)) hx hb dX8_put_41 (by decide) ?_
        refine lv_icmp_eq (tgt := 64) hx hb dX8_put_42 (by decide) (fun c42_50 => ?_) (fun c42_50 => ?_)
        · have c42_50 : a2.toInt = (-1) := (cv_eq rfl (by decide)).mp c42_50
          refine lv_aload_n hx hb dX8_put_64 rfl (lv_at hl 1 rfl) ?_
          refine va_get (D := (dC, dI)) (ci := 7) (v := .ref a0_8) (C := RX8) (T := TX8) (N := 11) hx hb hts inlX8 hown hK hP 0 rgL28_994ec6a rfl 8 (by decide) (hts (.fieldLink RX8 58 "ClosedUntil" "now" "LClosedUntil$State;") qw_266) (fun _ h9 => h9) rfl dX8_put_65 ?_
          refine va_getN (D := (dC, dI)) (ci := 2) (v := .ref a0_8_0) (C := RX3) (T := TX3) (N := 6) hx hb hts inlX3 hown hK hP 21 rgL28_453b3bf rfl 0 (by decide) (va_Nw.use rfl (nf_14 hN)) (fun _ h9 => h9) rfl dX8_put_68 ?_
          refine lv_iload_n hx hb dX8_put_71 rfl (lv_at hl 2 rfl) ?_
          refine va_iald hx hb hK hP 22 17 rgL28_8e7fe62 rgT24_623c6c3 (vinI (by omega) (by omega)) dX8_put_72 ?_
          refine lv_topi (fun x51 e_x51 => ?_)
          have b_x51 := i32b x51
          refine lv_istore (lv' := [(4, .int x51), (3, .int 1), (0, .ref a0), (1, .int a1), (2, .int a2)]) hx hb dX8_put_73 hl (by decide) rfl (fun ls hl => ?_)
          refine lv_aload_n hx hb dX8_put_75 rfl (lv_at hl 2 rfl) ?_
          refine va_get (D := (dC, dI)) (ci := 7) (v := .ref a0_8) (C := RX8) (T := TX8) (N := 11) hx hb hts inlX8 hown hK hP 0 rgL28_994ec6a rfl 8 (by decide) (hts (.fieldLink RX8 58 "ClosedUntil" "now" "LClosedUntil$State;") qw_266) (fun _ h9 => h9) rfl dX8_put_76 ?_
          refine va_getN (D := (dC, dI)) (ci := 2) (v := .ref a0_8_0) (C := RX3) (T := TX3) (N := 6) hx hb hts inlX3 hown hK hP 21 rgL28_453b3bf rfl 0 (by decide) (va_Nw.use rfl (nf_14 hN)) (fun _ h9 => h9) rfl dX8_put_79 ?_
          refine lv_iload_n hx hb dX8_put_82 rfl (lv_at hl 3 rfl) ?_
          refine lv_iload_n hx hb dX8_put_83 rfl (lv_at hl 4 rfl) ?_
          refine va_iast hx hb hK hP hD hS 22 17 rgL28_8e7fe62 rgT24_623c6c3 (vinI (by omega) (by omega)) dX8_put_84 (fun H locs hP9 hD9 hS9 => ?_)
          obtain ⟨y52, e_y52⟩ : ∃ y, (upd a0_8_0_f a1.toNatClampNeg a2) = y := ⟨_, rfl⟩
          clear hP hD hS
          obtain ⟨hP, hD⟩ := rgS28_ea8b686 (e := (a0_8_0, .inl (a0_8_0_c, 24, .inl y52))) hP9 hD9 (congrArg (fun z9 => (((a0_8_0, .inl (a0_8_0_c, 24, .inl z9)) : Nat × va_E))) e_y52)
          have hS := hS9; clear hP9 hD9 hS9
          refine lv_aload_n hx hb dX8_put_85 rfl (lv_at hl 2 rfl) ?_
          refine lv_iconst (v := 3) hx hb dX8_put_86 (by decide) ?_
          refine lv_iload_n hx hb dX8_put_87 rfl (lv_at hl 3 rfl) ?_
          refine lv_iload hx hb dX8_put_88 (lv_at hl 0 rfl) ?_
          have qc3 : (3 : Int32).toInt = 3 := by decide
          have hPc := (rgP28_429e2e3 hP)
          have hKc := (rgK24_4aa029b hK)
          have hDc := (rgD28_a0847e9 hD)
          have hFc := freeW hDc hS hA
          refine va_callv (va_runV (As := [.int 3, .int a1, .int x51]) (rest := []) ⟨hx, hb, hml, hown, hts⟩ (k_X8_remember l dC dI g H.size (a0) (3) (a1) (x51) (a0_0) (a0_1) (a0_2) (a0_3) (a0_4) (a0_5) (a0_6) (a0_7) (a0_8) (a0_9) (a0_10) (a0_3_0) (a0_3_1) (a0_3_2) (a0_3_3) (a0_3_0_c) (a0_3_0_f) (a0_3_1_c) (a0_3_1_f) (a0_3_2_c) (a0_3_2_f) (by omega) (by assumption) (by unfold JE; omega)) (cwV 3 hts (gwV qw_288 qw_289 qw_290 qw_28 qw_287) rfl rfl rfl (by decide +kernel) ⟨Nat.le_of_ble_eq_true rfl, Nat.le_of_ble_eq_true rfl⟩) ⟨fun a U g9 mk q => ⟨q.1, q.2.1, q.2.2.1, va_K.moved (u := U) (U := U.calling g9 mk a) (Vm.Alike.refl U.vm) q.2.2.2.1, q.2.2.2.2.1, Ev.bl q.2.2.2.2.2⟩, va_recv hK hP (ci := 7) (q0 := 0) rfl rgL28_994ec6a, fun U hU hW => ⟨rfl, by rw [hU], atB hU hPc, va_K.moved hW.alike hKc, hDc.weaken (fun _ _ _ _ => trivial), hE.go hS hFc hU hW⟩⟩ rfl rfl hl.1 rfl (lv_room (Nat.le_of_ble_eq_true rfl)) dX8_put_90 ⟨Nat.le_of_ble_eq_true rfl, Nat.le_of_ble_eq_true rfl⟩) hS (fun q _ h => hFc q h) hFc (fun u53 t H1 locs ht hvm h_u53 hB hz1 hk1 hS => ?_)
          obtain ⟨za0_10_55, za0_3_3_56, za0_3_0_f_57, za0_3_1_f_58, za0_3_2_f_59, hF60, hF61, hF62, hP1, hK1, hD1⟩ := hB
          have hK1 := va_K.moved hvm.symm hK1
          have hJ9 := rgJ28_7cfb90d hP hD hk1 hFc (atH ht hP1) hD1
          clear hP hD hPc hKc hDc hFc hP1 hD1 hk1 hz1
          obtain ⟨hP, hD⟩ := hJ9
          clear hK1
          generalize H1 = H at hP hS ⊢
          refine W.widen (k := 0) (n := 0) (Nat.le_of_ble_eq_true rfl) (Nat.le_of_ble_eq_true rfl) ?_
          refine lv_iload hx hb dX8_put_93 (lv_at hl 0 rfl) ?_
          refine W.widen (k := 0) (n := 0) (Nat.le_of_ble_eq_true rfl) (Nat.le_of_ble_eq_true rfl) ?_
          have hP9 := hP
          have hD9 := hD
          have hK9 := (rgK24_38e9bb2 hK)
          have hf9_0 : (0 ≤ a0_2_6.toInt ∧ a0_2_6.toInt ≤ 24) := by omega
          have hf9_1 : (0 ≤ a0_2_7.toInt ∧ a0_2_7.toInt ≤ 12) := by omega
          have hf9_2 : (0 ≤ za0_3_3_56.toInt ∧ za0_3_3_56.toInt ≤ 12) := by omega
          have hf9_3 : RS g.2.2.2.2.1 rows rows := hRS
          have hf9_4 : (JA za0_3_0_f_57 za0_3_1_f_58 za0_3_2_f_59 za0_3_3_56) := by assumption
          have hf9_5 : (JC za0_3_0_f_57 za0_3_1_f_58 za0_3_3_56 a0_8_3_f) := JC.act hjc (by assumption) (by omega)
          exact W.iret (v := x51) hx hb hr (fun t ht hW => ⟨⟨x51, x51, rfl, rfl, za0_10_55, a0_2_6, a0_2_7, a0_2_0_f, a0_2_1_f, za0_3_3_56, za0_3_0_f_57, za0_3_1_f_58, za0_3_2_f_59, y52, rows, hf9_0, hf9_1, hf9_2, hf9_3, hf9_4, hf9_5, atB ht hP9, va_K.moved hW.alike hK9, hD9⟩, hS.F ht⟩) hS.2.2 dX8_put_95
        · have c42_50 : ¬ (a2.toInt = (-1)) := mt (cv_eq rfl (by decide)).mpr c42_50
          refine lv_aload_n hx hb dX8_put_45 rfl (lv_at hl 1 rfl) ?_
          have hPc := (rgP28_1801ec9 hP)
          have hKc := (rgK24_ca496e8 hK)
          have hDc := (rgD28_76476a0 hD)
          have hFc := freeW hDc hS hA
          refine va_callr (va_runV (As := []) (rest := []) ⟨hx, hb, hml, hown, hts⟩ (k_X8_upToDate l dC dI g s.heap.size (a0) (a0_0) (a0_1) (a0_2) (a0_3) (a0_4) (a0_5) (a0_6) (a0_7) (a0_8) (a0_9) (a0_10) (a0_2_0) (a0_2_1) (a0_2_2) (a0_2_3) (a0_2_4) (a0_2_5) (a0_2_6) (a0_2_7) (a0_2_0_c) (a0_2_0_f) (a0_2_1_c) (a0_2_1_f) (a0_2_2_c) (a0_2_2_f) (a0_2_3_c) (a0_2_3_f) (a0_6_0) (a0_6_1) (a0_6_2) (a0_6_3) (a0_6_4) (a0_6_5) (a0_6_6) (a0_6_7) (a0_6_8) (a0_6_9) (a0_6_10) (a0_6_11) (a0_6_12) (a0_6_13) (a0_6_1_c) (a0_6_1_f) (a0_6_3_c) (a0_6_3_f) (a0_6_5_c) (a0_6_5_f) (a0_6_6_c) (a0_6_6_f) (a0_6_7_c) (a0_6_7_f) (a0_6_9_c) (a0_6_9_f) (a0_6_10_c) (a0_6_10_f) (a0_6_11_c) (a0_6_11_f) (a0_6_12_c) (a0_6_12_f) (a0_6_13_c) (a0_6_13_f) (a0_8_0) (a0_8_1) (a0_8_2) (a0_8_3) (a0_8_4) (a0_8_5) (a0_8_0_c) (a0_8_0_f) (a0_8_1_c) (a0_8_1_f) (a0_8_2_c) (a0_8_2_f) (a0_8_3_c) (a0_8_3_f) (a0_8_4_c) (a0_8_4_f) (a0_8_5_c) (a0_8_5_f) (rows) (by omega) (by omega) (RS.gr hRS h_a0_2_2_f) (RS.gr hRS h_a0_2_3_f) (by omega) (by omega) (by omega) (by omega) (RS.gr hRS h_a0_6_12_f) h_a0_8_3_f (RS.gr hRS h_a0_8_4_f) (RS.gr hRS h_a0_8_5_f) (by assumption)) (cwV 0 hts (gwV qw_316 qw_317 qw_318 qw_28 qw_315) rfl rfl rfl (by decide +kernel) ⟨Nat.le_of_ble_eq_true rfl, Nat.le_of_ble_eq_true rfl⟩) ⟨fun a U g9 mk q => ⟨q.1, q.2.1, q.2.2.1, va_K.moved (u := U) (U := U.calling g9 mk a) (Vm.Alike.refl U.vm) q.2.2.2.1, q.2.2.2.2.1, Ev.bl q.2.2.2.2.2⟩, va_recv hK hP (ci := 7) (q0 := 0) rfl rgL28_994ec6a, fun U hU hW => ⟨rfl, by rw [hU], atB hU hPc, va_K.moved hW.alike hKc, hDc.weaken (fun _ _ _ _ => trivial), hE.go hS hFc hU hW⟩⟩ rfl rfl hl.1 rfl (lv_room (Nat.le_of_ble_eq_true rfl)) dX8_put_46 ⟨Nat.le_of_ble_eq_true rfl, Nat.le_of_ble_eq_true rfl⟩) hS (fun q _ h => hFc q h) hFc (fun u63 r64 t H1 locs ht hvm h_u63 hB hz1 hk1 hS => ?_)
          obtain ⟨hrr, za0_10_65, za0_2_6_66, za0_2_7_67, za0_2_0_f_68, za0_2_1_f_69, zrows_70, hF71, hF72, hF73, hP1, hK1, hD1⟩ := hB
          have hK1 := va_K.moved hvm.symm hK1
          have hJ9 := rgJ28_c8427ca hP hD hk1 hFc (atH ht hP1) hD1
          clear hP hD hPc hKc hDc hFc hP1 hD1 hk1 hz1
          obtain ⟨hP, hD⟩ := hJ9
          clear hK1
          generalize H1 = H at hP hS ⊢
          refine W.widen (k := 0) (n := 0) (Nat.le_of_ble_eq_true rfl) (Nat.le_of_ble_eq_true rfl) ?_
          refine topv (w := .ref a0_2) (by rw [hrr]) ?_
          have hRS := RS.tr hRS hF73
          refine va_getN (D := (dC, dI)) (ci := 5) (v := .ref a0_2_0) (C := RX6) (T := TX6) (N := 8) hx hb hts inlX6 hown hK hP 1 rgL28_1b0b1d4 rfl 0 (by decide) (va_Nw.use rfl (nf_6 hN)) (fun _ h9 => h9) rfl dX8_put_49 ?_
          refine lv_iload_n hx hb dX8_put_52 rfl (lv_at hl 2 rfl) ?_
          refine va_iald hx hb hK hP 2 0 rgL28_d56af43 rgT24_7b8e3d5 (vinI (by omega) (by omega)) dX8_put_53 ?_
          refine lv_topi (fun x74 e_x74 => ?_)
          have b_x74 := i32b x74
          refine lv_iload_n hx hb dX8_put_54 rfl (lv_at hl 3 rfl) ?_
          have hPc := (rgP28_1b4bebf hP)
          have hKc := (rgK24_38e9bb2 hK)
          refine vp_callSi ((va_runS (As := [.int x74, .int a2]) (rest := []) ⟨hx, hb, hml, hown, hts⟩ (k_X8_hasBit l dC dI g (x74) (a2) ) (va_cwS 2 hts (gwS qw_331 qw_29 qw_28 qw_27) rfl rfl rfl (by decide +kernel) ⟨Nat.le_of_ble_eq_true rfl, Nat.le_of_ble_eq_true rfl⟩) ⟨fun a U g9 mk q => ⟨q.1, q.2.1, va_K.moved (u := U) (U := U.calling g9 mk a) (Vm.Alike.refl U.vm) q.2.2.1, Ev.bl q.2.2.2⟩, fun U hU hW => ⟨rfl, atB hU hPc, va_K.moved hW.alike hKc, hE.go hS (fun _ h => h.elim) hU hW⟩⟩ rfl rfl hl.1 rfl (lv_room (Nat.le_of_ble_eq_true rfl)) dX8_put_55 ⟨Nat.le_of_ble_eq_true rfl, Nat.le_of_ble_eq_true rfl⟩)).run (fun r75 h_r75 => ?_)
          have h_r75 : (r75 = 0 ∨ r75 = 1) := h_r75
          have b_r75 := z01 (show r75 = 0 ∨ r75 = 1 from h_r75)
          refine lv_if_eq (tgt := 64) hx hb dX8_put_58 (by decide) (fun c58_76 => ?_) (fun c58_76 => ?_)
          · have c58_76 : r75.toInt = 0 := (cv_eq rfl (by decide)).mp c58_76
            refine lv_aload_n hx hb dX8_put_64 rfl (lv_at hl 1 rfl) ?_
            refine va_get (D := (dC, dI)) (ci := 7) (v := .ref a0_8) (C := RX8) (T := TX8) (N := 11) hx hb hts inlX8 hown hK hP 0 rgL28_994ec6a rfl 8 (by decide) (hts (.fieldLink RX8 58 "ClosedUntil" "now" "LClosedUntil$State;") qw_266) (fun _ h9 => h9) rfl dX8_put_65 ?_
            refine va_getN (D := (dC, dI)) (ci := 2) (v := .ref a0_8_0) (C := RX3) (T := TX3) (N := 6) hx hb hts inlX3 hown hK hP 21 rgL28_453b3bf rfl 0 (by decide) (va_Nw.use rfl (nf_14 hN)) (fun _ h9 => h9) rfl dX8_put_68 ?_
            refine lv_iload_n hx hb dX8_put_71 rfl (lv_at hl 2 rfl) ?_
            refine va_iald hx hb hK hP 22 17 rgL28_8e7fe62 rgT24_623c6c3 (vinI (by omega) (by omega)) dX8_put_72 ?_
            refine lv_topi (fun x77 e_x77 => ?_)
            have b_x77 := i32b x77
            refine lv_istore (lv' := [(4, .int x77), (3, .int 1), (0, .ref a0), (1, .int a1), (2, .int a2)]) hx hb dX8_put_73 hl (by decide) rfl (fun ls hl => ?_)
            refine lv_aload_n hx hb dX8_put_75 rfl (lv_at hl 2 rfl) ?_
            refine va_get (D := (dC, dI)) (ci := 7) (v := .ref a0_8) (C := RX8) (T := TX8) (N := 11) hx hb hts inlX8 hown hK hP 0 rgL28_994ec6a rfl 8 (by decide) (hts (.fieldLink RX8 58 "ClosedUntil" "now" "LClosedUntil$State;") qw_266) (fun _ h9 => h9) rfl dX8_put_76 ?_
            refine va_getN (D := (dC, dI)) (ci := 2) (v := .ref a0_8_0) (C := RX3) (T := TX3) (N := 6) hx hb hts inlX3 hown hK hP 21 rgL28_453b3bf rfl 0 (by decide) (va_Nw.use rfl (nf_14 hN)) (fun _ h9 => h9) rfl dX8_put_79 ?_
            refine lv_iload_n hx hb dX8_put_82 rfl (lv_at hl 3 rfl) ?_
            refine lv_iload_n hx hb dX8_put_83 rfl (lv_at hl 4 rfl) ?_
            refine va_iast hx hb hK hP hD hS 22 17 rgL28_8e7fe62 rgT24_623c6c3 (vinI (by omega) (by omega)) dX8_put_84 (fun H locs hP9 hD9 hS9 => ?_)
            obtain ⟨y78, e_y78⟩ : ∃ y, (upd a0_8_0_f a1.toNatClampNeg a2) = y := ⟨_, rfl⟩
            clear hP hD hS
            obtain ⟨hP, hD⟩ := rgS28_ea8b686 (e := (a0_8_0, .inl (a0_8_0_c, 24, .inl y78))) hP9 hD9 (congrArg (fun z9 => (((a0_8_0, .inl (a0_8_0_c, 24, .inl z9)) : Nat × va_E))) e_y78)
            have hS := hS9; clear hP9 hD9 hS9
            refine lv_aload_n hx hb dX8_put_85 rfl (lv_at hl 2 rfl) ?_
            refine lv_iconst (v := 3) hx hb dX8_put_86 (by decide) ?_
            refine lv_iload_n hx hb dX8_put_87 rfl (lv_at hl 3 rfl) ?_
            refine lv_iload hx hb dX8_put_88 (lv_at hl 0 rfl) ?_
            have qc3 : (3 : Int32).toInt = 3 := by decide
            have hPc := (rgP28_429e2e3 hP)
            have hKc := (rgK24_4aa029b hK)
            have hDc := (rgD28_a0847e9 hD)
            have hFc := freeW hDc hS hA
            refine va_callv (va_runV (As := [.int 3, .int a1, .int x77]) (rest := []) ⟨hx, hb, hml, hown, hts⟩ (k_X8_remember l dC dI g H.size (a0) (3) (a1) (x77) (a0_0) (a0_1) (a0_2) (a0_3) (a0_4) (a0_5) (a0_6) (a0_7) (a0_8) (a0_9) (za0_10_65) (a0_3_0) (a0_3_1) (a0_3_2) (a0_3_3) (a0_3_0_c) (a0_3_0_f) (a0_3_1_c) (a0_3_1_f) (a0_3_2_c) (a0_3_2_f) (by omega) (by assumption) (by unfold JE; omega)) (cwV 3 hts (gwV qw_288 qw_289 qw_290 qw_28 qw_287) rfl rfl rfl (by decide +kernel) ⟨Nat.le_of_ble_eq_true rfl, Nat.le_of_ble_eq_true rfl⟩) ⟨fun a U g9 mk q => ⟨q.1, q.2.1, q.2.2.1, va_K.moved (u := U) (U := U.calling g9 mk a) (Vm.Alike.refl U.vm) q.2.2.2.1, q.2.2.2.2.1, Ev.bl q.2.2.2.2.2⟩, va_recv hK hP (ci := 7) (q0 := 0) rfl rgL28_994ec6a, fun U hU hW => ⟨rfl, by rw [hU], atB hU hPc, va_K.moved hW.alike hKc, hDc.weaken (fun _ _ _ _ => trivial), hE.go hS hFc hU hW⟩⟩ rfl rfl hl.1 rfl (lv_room (Nat.le_of_ble_eq_true rfl)) dX8_put_90 ⟨Nat.le_of_ble_eq_true rfl, Nat.le_of_ble_eq_true rfl⟩) hS (fun q _ h => hFc q h) hFc (fun u79 t H1 locs ht hvm h_u79 hB hz1 hk1 hS => ?_)
            obtain ⟨za0_10_81, za0_3_3_82, za0_3_0_f_83, za0_3_1_f_84, za0_3_2_f_85, hF86, hF87, hF88, hP1, hK1, hD1⟩ := hB
            have hK1 := va_K.moved hvm.symm hK1
            have hJ9 := rgJ28_7cfb90d hP hD hk1 hFc (atH ht hP1) hD1
            clear hP hD hPc hKc hDc hFc hP1 hD1 hk1 hz1
            obtain ⟨hP, hD⟩ := hJ9
            clear hK1
            generalize H1 = H at hP hS ⊢
            refine W.widen (k := 0) (n := 0) (Nat.le_of_ble_eq_true rfl) (Nat.le_of_ble_eq_true rfl) ?_
            refine lv_iload hx hb dX8_put_93 (lv_at hl 0 rfl) ?_
            refine W.widen (k := 0) (n := 0) (Nat.le_of_ble_eq_true rfl) (Nat.le_of_ble_eq_true rfl) ?_
            have hP9 := hP
            have hD9 := hD
            have hK9 := (rgK24_38e9bb2 hK)
            have hf9_0 : (0 ≤ za0_2_6_66.toInt ∧ za0_2_6_66.toInt ≤ 24) := by omega
            have hf9_1 : (0 ≤ za0_2_7_67.toInt ∧ za0_2_7_67.toInt ≤ 12) := by omega
            have hf9_2 : (0 ≤ za0_3_3_82.toInt ∧ za0_3_3_82.toInt ≤ 12) := by omega
            have hf9_3 : RS g.2.2.2.2.1 rows zrows_70 := hRS
            have hf9_4 : (JA za0_3_0_f_83 za0_3_1_f_84 za0_3_2_f_85 za0_3_3_82) := by assumption
            have hf9_5 : (JC za0_3_0_f_83 za0_3_1_f_84 za0_3_3_82 a0_8_3_f) := JC.act hjc (by assumption) (by omega)
            exact W.iret (v := x77) hx hb hr (fun t ht hW => ⟨⟨x77, x77, rfl, rfl, za0_10_81, za0_2_6_66, za0_2_7_67, za0_2_0_f_68, za0_2_1_f_69, za0_3_3_82, za0_3_0_f_83, za0_3_1_f_84, za0_3_2_f_85, y78, zrows_70, hf9_0, hf9_1, hf9_2, hf9_3, hf9_4, hf9_5, atB ht hP9, va_K.moved hW.alike hK9, hD9⟩, hS.F ht⟩) hS.2.2 dX8_put_95
          · have c58_76 : ¬ (r75.toInt = 0) := mt (cv_eq rfl (by decide)).mpr c58_76
            refine lv_bipush (v := (-2)) hx hb dX8_put_61 (by decide) ?_
            have qcm2 : ((-2) : Int32).toInt = (-2) := by decide
            refine W.widen (k := 0) (n := 0) (Nat.le_of_ble_eq_true rfl) (Nat.le_of_ble_eq_true rfl) ?_
            have hP9 := hP
            have hD9 := hD
            have hK9 := (rgK24_38e9bb2 hK)
            have hf9_0 : (0 ≤ za0_2_6_66.toInt ∧ za0_2_6_66.toInt ≤ 24) := by omega
            have hf9_1 : (0 ≤ za0_2_7_67.toInt ∧ za0_2_7_67.toInt ≤ 12) := by omega
            have hf9_2 : (0 ≤ a0_3_3.toInt ∧ a0_3_3.toInt ≤ 12) := by omega
            have hf9_3 : RS g.2.2.2.2.1 rows zrows_70 := hRS
            have hf9_4 : (JA a0_3_0_f a0_3_1_f a0_3_2_f a0_3_3) := by assumption
            have hf9_5 : (JC a0_3_0_f a0_3_1_f a0_3_3 a0_8_3_f) := hjc
            exact W.iret (v := (-2)) hx hb hr (fun t ht hW => ⟨⟨(-2), (-2), rfl, rfl, za0_10_65, za0_2_6_66, za0_2_7_67, za0_2_0_f_68, za0_2_1_f_69, a0_3_3, a0_3_0_f, a0_3_1_f, a0_3_2_f, a0_8_0_f, zrows_70, hf9_0, hf9_1, hf9_2, hf9_3, hf9_4, hf9_5, atB ht hP9, va_K.moved hW.alike hK9, hD9⟩, hS.F ht⟩) hS.2.2 dX8_put_63
      · have c34_49 : r48.toInt = 0 := (cv_eq rfl (by decide)).mp c34_49
        refine lv_bipush (v := (-2)) hx hb dX8_put_37 (by decide) ?_
        have qcm2 : ((-2) : Int32).toInt = (-2) := by decide
        refine W.widen (k := 0) (n := 0) (Nat.le_of_ble_eq_true rfl) (Nat.le_of_ble_eq_true rfl) ?_
        have hP9 := hP
        have hD9 := hD
        have hK9 := (rgK24_38e9bb2 hK)
        have hf9_0 : (0 ≤ a0_2_6.toInt ∧ a0_2_6.toInt ≤ 24) := by omega
        have hf9_1 : (0 ≤ a0_2_7.toInt ∧ a0_2_7.toInt ≤ 12) := by omega
        have hf9_2 : (0 ≤ a0_3_3.toInt ∧ a0_3_3.toInt ≤ 12) := by omega
        have hf9_3 : RS g.2.2.2.2.1 rows rows := hRS
        have hf9_4 : (JA a0_3_0_f a0_3_1_f a0_3_2_f a0_3_3) := by assumption
        have hf9_5 : (JC a0_3_0_f a0_3_1_f a0_3_3 a0_8_3_f) := hjc
        exact W.iret (v := (-2)) hx hb hr (fun t ht hW => ⟨⟨(-2), (-2), rfl, rfl, a0_10, a0_2_6, a0_2_7, a0_2_0_f, a0_2_1_f, a0_3_3, a0_3_0_f, a0_3_1_f, a0_3_2_f, a0_8_0_f, rows, hf9_0, hf9_1, hf9_2, hf9_3, hf9_4, hf9_5, atB ht hP9, va_K.moved hW.alike hK9, hD9⟩, hS.F ht⟩) hS.2.2 dX8_put_39
