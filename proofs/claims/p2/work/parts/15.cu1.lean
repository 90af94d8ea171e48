theorem dX8_feed_0 : decode cX8_feed 0 = .ok (.aload_n 0, 1) := by decide +kernel
theorem dX8_feed_1 : decode cX8_feed 1 = .ok (.getfield 10, 3) := by decide +kernel
theorem dX8_feed_4 : decode cX8_feed 4 = .ok (.invokevirtual 69, 3) := by decide +kernel
theorem dX8_feed_7 : decode cX8_feed 7 = .ok (.ifCond .ne 5, 3) := by decide +kernel
theorem dX8_feed_10 : decode cX8_feed 10 = .ok (.iconst (-1), 1) := by decide +kernel
theorem dX8_feed_11 : decode cX8_feed 11 = .ok (.ireturn, 1) := by decide +kernel
theorem dX8_feed_12 : decode cX8_feed 12 = .ok (.aload_n 0, 1) := by decide +kernel
theorem dX8_feed_13 : decode cX8_feed 13 = .ok (.getfield 10, 3) := by decide +kernel
theorem dX8_feed_16 : decode cX8_feed 16 = .ok (.iload_n 1, 1) := by decide +kernel
theorem dX8_feed_17 : decode cX8_feed 17 = .ok (.invokevirtual 73, 3) := by decide +kernel
theorem dX8_feed_20 : decode cX8_feed 20 = .ok (.aload_n 0, 1) := by decide +kernel
theorem dX8_feed_21 : decode cX8_feed 21 = .ok (.getfield 10, 3) := by decide +kernel
theorem dX8_feed_24 : decode cX8_feed 24 = .ok (.iload_n 2, 1) := by decide +kernel
theorem dX8_feed_25 : decode cX8_feed 25 = .ok (.invokevirtual 73, 3) := by decide +kernel
theorem dX8_feed_28 : decode cX8_feed 28 = .ok (.aload_n 0, 1) := by decide +kernel
theorem dX8_feed_29 : decode cX8_feed 29 = .ok (.getfield 10, 3) := by decide +kernel
theorem dX8_feed_32 : decode cX8_feed 32 = .ok (.iload_n 3, 1) := by decide +kernel
theorem dX8_feed_33 : decode cX8_feed 33 = .ok (.invokevirtual 73, 3) := by decide +kernel
theorem dX8_feed_36 : decode cX8_feed 36 = .ok (.aload_n 0, 1) := by decide +kernel
theorem dX8_feed_37 : decode cX8_feed 37 = .ok (.getfield 10, 3) := by decide +kernel
theorem dX8_feed_40 : decode cX8_feed 40 = .ok (.iload 4, 2) := by decide +kernel
theorem dX8_feed_42 : decode cX8_feed 42 = .ok (.invokevirtual 73, 3) := by decide +kernel
theorem dX8_feed_45 : decode cX8_feed 45 = .ok (.aload_n 0, 1) := by decide +kernel
theorem dX8_feed_46 : decode cX8_feed 46 = .ok (.getfield 10, 3) := by decide +kernel
theorem dX8_feed_49 : decode cX8_feed 49 = .ok (.iload 5, 2) := by decide +kernel
theorem dX8_feed_51 : decode cX8_feed 51 = .ok (.invokevirtual 73, 3) := by decide +kernel
theorem dX8_feed_54 : decode cX8_feed 54 = .ok (.aload_n 0, 1) := by decide +kernel
theorem dX8_feed_55 : decode cX8_feed 55 = .ok (.getfield 10, 3) := by decide +kernel
theorem dX8_feed_58 : decode cX8_feed 58 = .ok (.getfield 77, 3) := by decide +kernel
theorem dX8_feed_61 : decode cX8_feed 61 = .ok (.ireturn, 1) := by decide +kernel
theorem dX8_day_0 : decode cX8_day 0 = .ok (.iload_n 1, 1) := by decide +kernel
theorem dX8_day_1 : decode cX8_day 1 = .ok (.iload_n 2, 1) := by decide +kernel
theorem dX8_day_2 : decode cX8_day 2 = .ok (.iload_n 3, 1) := by decide +kernel
theorem dX8_day_3 : decode cX8_day 3 = .ok (.invokestatic 95, 3) := by decide +kernel
theorem dX8_day_6 : decode cX8_day 6 = .ok (.ireturn, 1) := by decide +kernel
theorem dX8_date_0 : decode cX8_date 0 = .ok (.iload_n 1, 1) := by decide +kernel
theorem dX8_date_1 : decode cX8_date 1 = .ok (.invokestatic 101, 3) := by decide +kernel
theorem dX8_date_4 : decode cX8_date 4 = .ok (.ifCond .ne 5, 3) := by decide +kernel
theorem dX8_date_7 : decode cX8_date 7 = .ok (.iconst (-1), 1) := by decide +kernel
theorem dX8_date_8 : decode cX8_date 8 = .ok (.ireturn, 1) := by decide +kernel
theorem dX8_date_9 : decode cX8_date 9 = .ok (.iload_n 2, 1) := by decide +kernel
theorem dX8_date_10 : decode cX8_date 10 = .ok (.tableswitch 50 0 3 #[30, 35, 40, 45], 30) := by decide +kernel
theorem dX8_date_40 : decode cX8_date 40 = .ok (.iload_n 1, 1) := by decide +kernel
theorem dX8_date_41 : decode cX8_date 41 = .ok (.invokestatic 105, 3) := by decide +kernel
theorem dX8_date_44 : decode cX8_date 44 = .ok (.ireturn, 1) := by decide +kernel
theorem dX8_date_45 : decode cX8_date 45 = .ok (.iload_n 1, 1) := by decide +kernel
theorem dX8_date_46 : decode cX8_date 46 = .ok (.invokestatic 109, 3) := by decide +kernel
theorem dX8_date_49 : decode cX8_date 49 = .ok (.ireturn, 1) := by decide +kernel
theorem dX8_date_50 : decode cX8_date 50 = .ok (.iload_n 1, 1) := by decide +kernel
theorem dX8_date_51 : decode cX8_date 51 = .ok (.invokestatic 112, 3) := by decide +kernel
theorem dX8_date_54 : decode cX8_date 54 = .ok (.ireturn, 1) := by decide +kernel
theorem dX8_date_55 : decode cX8_date 55 = .ok (.iload_n 1, 1) := by decide +kernel
theorem dX8_date_56 : decode cX8_date 56 = .ok (.invokestatic 115, 3) := by decide +kernel
theorem dX8_date_59 : decode cX8_date 59 = .ok (.ireturn, 1) := by decide +kernel
theorem dX8_date_60 : decode cX8_date 60 = .ok (.iconst (-1), 1) := by decide +kernel
theorem dX8_date_61 : decode cX8_date 61 = .ok (.ireturn, 1) := by decide +kernel
theorem dX8_plus_0 : decode cX8_plus 0 = .ok (.iload_n 1, 1) := by decide +kernel
theorem dX8_plus_1 : decode cX8_plus 1 = .ok (.invokestatic 118, 3) := by decide +kernel
theorem dX8_plus_4 : decode cX8_plus 4 = .ok (.ifCond .eq 17, 3) := by decide +kernel
theorem dX8_plus_7 : decode cX8_plus 7 = .ok (.iload_n 2, 1) := by decide +kernel
theorem dX8_plus_8 : decode cX8_plus 8 = .ok (.sipush (-600), 3) := by decide +kernel
theorem dX8_plus_11 : decode cX8_plus 11 = .ok (.if_icmp .lt 10, 3) := by decide +kernel
theorem dX8_plus_14 : decode cX8_plus 14 = .ok (.iload_n 2, 1) := by decide +kernel
theorem dX8_plus_15 : decode cX8_plus 15 = .ok (.sipush 600, 3) := by decide +kernel
theorem dX8_plus_18 : decode cX8_plus 18 = .ok (.if_icmp .le 5, 3) := by decide +kernel
theorem dX8_plus_21 : decode cX8_plus 21 = .ok (.iconst (-1), 1) := by decide +kernel
theorem dX8_plus_22 : decode cX8_plus 22 = .ok (.ireturn, 1) := by decide +kernel
theorem dX8_plus_23 : decode cX8_plus 23 = .ok (.iload_n 1, 1) := by decide +kernel
theorem dX8_plus_24 : decode cX8_plus 24 = .ok (.iload_n 2, 1) := by decide +kernel
theorem dX8_plus_25 : decode cX8_plus 25 = .ok (.invokestatic 121, 3) := by decide +kernel
theorem dX8_plus_28 : decode cX8_plus 28 = .ok (.ireturn, 1) := by decide +kernel
theorem dX8_person_0 : decode cX8_person 0 = .ok (.aload_n 0, 1) := by decide +kernel
theorem dX8_person_1 : decode cX8_person 1 = .ok (.getfield 51, 3) := by decide +kernel
theorem dX8_person_4 : decode cX8_person 4 = .ok (.iload_n 1, 1) := by decide +kernel
theorem dX8_person_5 : decode cX8_person 5 = .ok (.invokevirtual 151, 3) := by decide +kernel
theorem dX8_person_8 : decode cX8_person 8 = .ok (.ifCond .ne 6, 3) := by decide +kernel
theorem dX8_person_11 : decode cX8_person 11 = .ok (.bipush (-2), 2) := by decide +kernel
theorem dX8_person_13 : decode cX8_person 13 = .ok (.ireturn, 1) := by decide +kernel
theorem dX8_person_14 : decode cX8_person 14 = .ok (.iload_n 2, 1) := by decide +kernel
theorem dX8_person_15 : decode cX8_person 15 = .ok (.tableswitch 54 0 2 #[25, 35, 45], 25) := by decide +kernel
theorem dX8_person_40 : decode cX8_person 40 = .ok (.aload_n 0, 1) := by decide +kernel
theorem dX8_person_41 : decode cX8_person 41 = .ok (.getfield 51, 3) := by decide +kernel
theorem dX8_person_44 : decode cX8_person 44 = .ok (.getfield 154, 3) := by decide +kernel
theorem dX8_person_47 : decode cX8_person 47 = .ok (.iload_n 1, 1) := by decide +kernel
theorem dX8_person_48 : decode cX8_person 48 = .ok (.iaload, 1) := by decide +kernel
theorem dX8_person_49 : decode cX8_person 49 = .ok (.ireturn, 1) := by decide +kernel
theorem dX8_person_50 : decode cX8_person 50 = .ok (.aload_n 0, 1) := by decide +kernel
theorem dX8_person_51 : decode cX8_person 51 = .ok (.getfield 58, 3) := by decide +kernel
theorem dX8_person_54 : decode cX8_person 54 = .ok (.getfield 157, 3) := by decide +kernel
theorem dX8_person_57 : decode cX8_person 57 = .ok (.iload_n 1, 1) := by decide +kernel
theorem dX8_person_58 : decode cX8_person 58 = .ok (.iaload, 1) := by decide +kernel
theorem dX8_person_59 : decode cX8_person 59 = .ok (.ireturn, 1) := by decide +kernel
theorem dX8_person_60 : decode cX8_person 60 = .ok (.aload_n 0, 1) := by decide +kernel
theorem dX8_person_61 : decode cX8_person 61 = .ok (.getfield 51, 3) := by decide +kernel
theorem dX8_person_64 : decode cX8_person 64 = .ok (.iload_n 1, 1) := by decide +kernel
theorem dX8_person_65 : decode cX8_person 65 = .ok (.invokevirtual 160, 3) := by decide +kernel
theorem dX8_person_68 : decode cX8_person 68 = .ok (.ireturn, 1) := by decide +kernel
theorem dX8_person_69 : decode cX8_person 69 = .ok (.bipush (-2), 2) := by decide +kernel
theorem dX8_person_71 : decode cX8_person 71 = .ok (.ireturn, 1) := by decide +kernel
theorem dX8_review_0 : decode cX8_review 0 = .ok (.aload_n 0, 1) := by decide +kernel
theorem dX8_review_1 : decode cX8_review 1 = .ok (.getfield 51, 3) := by decide +kernel
theorem dX8_review_4 : decode cX8_review 4 = .ok (.iload_n 1, 1) := by decide +kernel
theorem dX8_review_5 : decode cX8_review 5 = .ok (.invokevirtual 163, 3) := by decide +kernel
theorem dX8_review_8 : decode cX8_review 8 = .ok (.ifCond .eq 22, 3) := by decide +kernel
theorem dX8_review_11 : decode cX8_review 11 = .ok (.iload_n 2, 1) := by decide +kernel
theorem dX8_review_12 : decode cX8_review 12 = .ok (.invokestatic 101, 3) := by decide +kernel
theorem dX8_review_15 : decode cX8_review 15 = .ok (.ifCond .eq 15, 3) := by decide +kernel
theorem dX8_review_18 : decode cX8_review 18 = .ok (.iload_n 3, 1) := by decide +kernel
theorem dX8_review_19 : decode cX8_review 19 = .ok (.bipush (-50), 2) := by decide +kernel
theorem dX8_review_21 : decode cX8_review 21 = .ok (.if_icmp .lt 9, 3) := by decide +kernel
theorem dX8_review_24 : decode cX8_review 24 = .ok (.iload_n 3, 1) := by decide +kernel
theorem dX8_review_25 : decode cX8_review 25 = .ok (.bipush 50, 2) := by decide +kernel
theorem dX8_review_27 : decode cX8_review 27 = .ok (.if_icmp .le 5, 3) := by decide +kernel
theorem dX8_review_30 : decode cX8_review 30 = .ok (.iconst (-1), 1) := by decide +kernel
theorem dX8_review_31 : decode cX8_review 31 = .ok (.ireturn, 1) := by decide +kernel
theorem dX8_review_32 : decode cX8_review 32 = .ok (.aload_n 0, 1) := by decide +kernel
theorem dX8_review_33 : decode cX8_review 33 = .ok (.getfield 58, 3) := by decide +kernel
theorem dX8_review_36 : decode cX8_review 36 = .ok (.getfield 175, 3) := by decide +kernel
theorem dX8_review_39 : decode cX8_review 39 = .ok (.iload_n 1, 1) := by decide +kernel
theorem dX8_review_40 : decode cX8_review 40 = .ok (.iaload, 1) := by decide +kernel
theorem dX8_review_41 : decode cX8_review 41 = .ok (.iconst 5, 1) := by decide +kernel
theorem dX8_review_42 : decode cX8_review 42 = .ok (.if_icmp .lt 5, 3) := by decide +kernel
theorem dX8_review_45 : decode cX8_review 45 = .ok (.iconst (-1), 1) := by decide +kernel
theorem dX8_review_46 : decode cX8_review 46 = .ok (.ireturn, 1) := by decide +kernel
theorem dX8_review_47 : decode cX8_review 47 = .ok (.aload_n 0, 1) := by decide +kernel
theorem dX8_review_48 : decode cX8_review 48 = .ok (.getfield 58, 3) := by decide +kernel
theorem dX8_review_51 : decode cX8_review 51 = .ok (.iload_n 1, 1) := by decide +kernel
theorem dX8_review_52 : decode cX8_review 52 = .ok (.iload_n 2, 1) := by decide +kernel
theorem dX8_review_53 : decode cX8_review 53 = .ok (.iload_n 3, 1) := by decide +kernel
theorem dX8_review_54 : decode cX8_review 54 = .ok (.invokevirtual 242, 3) := by decide +kernel
theorem dX8_review_57 : decode cX8_review 57 = .ok (.istore 4, 2) := by decide +kernel
theorem dX8_review_59 : decode cX8_review 59 = .ok (.aload_n 0, 1) := by decide +kernel
theorem dX8_review_60 : decode cX8_review 60 = .ok (.iconst 0, 1) := by decide +kernel
theorem dX8_review_61 : decode cX8_review 61 = .ok (.iload_n 1, 1) := by decide +kernel
theorem dX8_review_62 : decode cX8_review 62 = .ok (.iload 4, 2) := by decide +kernel
theorem dX8_review_64 : decode cX8_review 64 = .ok (.invokevirtual 245, 3) := by decide +kernel
theorem dX8_review_67 : decode cX8_review 67 = .ok (.aload_n 0, 1) := by decide +kernel
theorem dX8_review_68 : decode cX8_review 68 = .ok (.getfield 58, 3) := by decide +kernel
theorem dX8_review_71 : decode cX8_review 71 = .ok (.getfield 175, 3) := by decide +kernel
theorem dX8_review_74 : decode cX8_review 74 = .ok (.iload_n 1, 1) := by decide +kernel
theorem dX8_review_75 : decode cX8_review 75 = .ok (.iaload, 1) := by decide +kernel
theorem dX8_review_76 : decode cX8_review 76 = .ok (.ireturn, 1) := by decide +kernel
theorem dX8_lift_0 : decode cX8_lift 0 = .ok (.iload_n 2, 1) := by decide +kernel
theorem dX8_lift_1 : decode cX8_lift 1 = .ok (.iconst (-1), 1) := by decide +kernel
theorem dX8_lift_2 : decode cX8_lift 2 = .ok (.if_icmp .eq 10, 3) := by decide +kernel
theorem dX8_lift_5 : decode cX8_lift 5 = .ok (.iload_n 2, 1) := by decide +kernel
theorem dX8_lift_6 : decode cX8_lift 6 = .ok (.invokestatic 101, 3) := by decide +kernel
theorem dX8_lift_9 : decode cX8_lift 9 = .ok (.ifCond .eq 7, 3) := by decide +kernel
theorem dX8_lift_12 : decode cX8_lift 12 = .ok (.iconst 1, 1) := by decide +kernel
theorem dX8_lift_13 : decode cX8_lift 13 = .ok (.goto 4, 3) := by decide +kernel
theorem dX8_lift_16 : decode cX8_lift 16 = .ok (.iconst 0, 1) := by decide +kernel
theorem dX8_lift_17 : decode cX8_lift 17 = .ok (.istore_n 3, 1) := by decide +kernel
theorem dX8_lift_18 : decode cX8_lift 18 = .ok (.iload_n 3, 1) := by decide +kernel
theorem dX8_lift_19 : decode cX8_lift 19 = .ok (.ifCond .eq 14, 3) := by decide +kernel
theorem dX8_lift_22 : decode cX8_lift 22 = .ok (.aload_n 0, 1) := by decide +kernel
theorem dX8_lift_23 : decode cX8_lift 23 = .ok (.getfield 51, 3) := by decide +kernel
theorem dX8_lift_26 : decode cX8_lift 26 = .ok (.iload_n 1, 1) := by decide +kernel
theorem dX8_lift_27 : decode cX8_lift 27 = .ok (.invokevirtual 163, 3) := by decide +kernel
theorem dX8_lift_30 : decode cX8_lift 30 = .ok (.ifCond .ne 6, 3) := by decide +kernel
theorem dX8_lift_33 : decode cX8_lift 33 = .ok (.bipush (-2), 2) := by decide +kernel
theorem dX8_lift_35 : decode cX8_lift 35 = .ok (.ireturn, 1) := by decide +kernel
theorem dX8_lift_36 : decode cX8_lift 36 = .ok (.aload_n 0, 1) := by decide +kernel
theorem dX8_lift_37 : decode cX8_lift 37 = .ok (.getfield 58, 3) := by decide +kernel
theorem dX8_lift_40 : decode cX8_lift 40 = .ok (.getfield 178, 3) := by decide +kernel
theorem dX8_lift_43 : decode cX8_lift 43 = .ok (.iload_n 1, 1) := by decide +kernel
theorem dX8_lift_44 : decode cX8_lift 44 = .ok (.iaload, 1) := by decide +kernel
theorem dX8_lift_45 : decode cX8_lift 45 = .ok (.istore 4, 2) := by decide +kernel
theorem dX8_lift_47 : decode cX8_lift 47 = .ok (.aload_n 0, 1) := by decide +kernel
theorem dX8_lift_48 : decode cX8_lift 48 = .ok (.getfield 58, 3) := by decide +kernel
theorem dX8_lift_51 : decode cX8_lift 51 = .ok (.getfield 178, 3) := by decide +kernel
theorem dX8_lift_54 : decode cX8_lift 54 = .ok (.iload_n 1, 1) := by decide +kernel
theorem dX8_lift_55 : decode cX8_lift 55 = .ok (.iload_n 2, 1) := by decide +kernel
theorem dX8_lift_56 : decode cX8_lift 56 = .ok (.iastore, 1) := by decide +kernel
theorem dX8_lift_57 : decode cX8_lift 57 = .ok (.aload_n 0, 1) := by decide +kernel
theorem dX8_lift_58 : decode cX8_lift 58 = .ok (.iconst 1, 1) := by decide +kernel
theorem dX8_lift_59 : decode cX8_lift 59 = .ok (.iload_n 1, 1) := by decide +kernel
theorem dX8_lift_60 : decode cX8_lift 60 = .ok (.iload 4, 2) := by decide +kernel
theorem dX8_lift_62 : decode cX8_lift 62 = .ok (.invokevirtual 245, 3) := by decide +kernel
theorem dX8_lift_65 : decode cX8_lift 65 = .ok (.iload 4, 2) := by decide +kernel
theorem dX8_lift_67 : decode cX8_lift 67 = .ok (.ireturn, 1) := by decide +kernel
theorem dX8_died_0 : decode cX8_died 0 = .ok (.iload_n 2, 1) := by decide +kernel
theorem dX8_died_1 : decode cX8_died 1 = .ok (.iconst (-1), 1) := by decide +kernel
theorem dX8_died_2 : decode cX8_died 2 = .ok (.if_icmp .eq 10, 3) := by decide +kernel
theorem dX8_died_5 : decode cX8_died 5 = .ok (.iload_n 2, 1) := by decide +kernel
theorem dX8_died_6 : decode cX8_died 6 = .ok (.invokestatic 101, 3) := by decide +kernel
theorem dX8_died_9 : decode cX8_died 9 = .ok (.ifCond .eq 7, 3) := by decide +kernel
theorem dX8_died_12 : decode cX8_died 12 = .ok (.iconst 1, 1) := by decide +kernel
theorem dX8_died_13 : decode cX8_died 13 = .ok (.goto 4, 3) := by decide +kernel
theorem dX8_died_16 : decode cX8_died 16 = .ok (.iconst 0, 1) := by decide +kernel
theorem dX8_died_17 : decode cX8_died 17 = .ok (.istore_n 3, 1) := by decide +kernel
theorem dX8_died_18 : decode cX8_died 18 = .ok (.iload_n 3, 1) := by decide +kernel
theorem dX8_died_19 : decode cX8_died 19 = .ok (.ifCond .eq 14, 3) := by decide +kernel
theorem dX8_died_22 : decode cX8_died 22 = .ok (.aload_n 0, 1) := by decide +kernel
theorem dX8_died_23 : decode cX8_died 23 = .ok (.getfield 51, 3) := by decide +kernel
theorem dX8_died_26 : decode cX8_died 26 = .ok (.iload_n 1, 1) := by decide +kernel
theorem dX8_died_27 : decode cX8_died 27 = .ok (.invokevirtual 151, 3) := by decide +kernel
theorem dX8_died_30 : decode cX8_died 30 = .ok (.ifCond .ne 6, 3) := by decide +kernel
theorem dX8_died_33 : decode cX8_died 33 = .ok (.bipush (-2), 2) := by decide +kernel
theorem dX8_died_35 : decode cX8_died 35 = .ok (.ireturn, 1) := by decide +kernel
theorem dX8_died_36 : decode cX8_died 36 = .ok (.iload_n 2, 1) := by decide +kernel
theorem dX8_died_37 : decode cX8_died 37 = .ok (.iconst (-1), 1) := by decide +kernel
theorem dX8_died_38 : decode cX8_died 38 = .ok (.if_icmp .eq 19, 3) := by decide +kernel
theorem dX8_died_41 : decode cX8_died 41 = .ok (.iload_n 2, 1) := by decide +kernel
theorem dX8_died_42 : decode cX8_died 42 = .ok (.aload_n 0, 1) := by decide +kernel
theorem dX8_died_43 : decode cX8_died 43 = .ok (.getfield 51, 3) := by decide +kernel
theorem dX8_died_46 : decode cX8_died 46 = .ok (.getfield 154, 3) := by decide +kernel
theorem dX8_died_49 : decode cX8_died 49 = .ok (.iload_n 1, 1) := by decide +kernel
theorem dX8_died_50 : decode cX8_died 50 = .ok (.iaload, 1) := by decide +kernel
theorem dX8_died_51 : decode cX8_died 51 = .ok (.if_icmp .ge 6, 3) := by decide +kernel
theorem dX8_died_54 : decode cX8_died 54 = .ok (.bipush (-2), 2) := by decide +kernel
theorem dX8_died_56 : decode cX8_died 56 = .ok (.ireturn, 1) := by decide +kernel
theorem dX8_died_57 : decode cX8_died 57 = .ok (.aload_n 0, 1) := by decide +kernel
theorem dX8_died_58 : decode cX8_died 58 = .ok (.getfield 58, 3) := by decide +kernel
theorem dX8_died_61 : decode cX8_died 61 = .ok (.getfield 157, 3) := by decide +kernel
theorem dX8_died_64 : decode cX8_died 64 = .ok (.iload_n 1, 1) := by decide +kernel
theorem dX8_died_65 : decode cX8_died 65 = .ok (.iaload, 1) := by decide +kernel
theorem dX8_died_66 : decode cX8_died 66 = .ok (.istore 4, 2) := by decide +kernel
theorem dX8_died_68 : decode cX8_died 68 = .ok (.aload_n 0, 1) := by decide +kernel
theorem dX8_died_69 : decode cX8_died 69 = .ok (.getfield 58, 3) := by decide +kernel
theorem dX8_died_72 : decode cX8_died 72 = .ok (.getfield 157, 3) := by decide +kernel
theorem dX8_died_75 : decode cX8_died 75 = .ok (.iload_n 1, 1) := by decide +kernel
theorem dX8_died_76 : decode cX8_died 76 = .ok (.iload_n 2, 1) := by decide +kernel
theorem dX8_died_77 : decode cX8_died 77 = .ok (.iastore, 1) := by decide +kernel
theorem dX8_died_78 : decode cX8_died 78 = .ok (.aload_n 0, 1) := by decide +kernel
theorem dX8_died_79 : decode cX8_died 79 = .ok (.iconst 2, 1) := by decide +kernel
theorem dX8_died_80 : decode cX8_died 80 = .ok (.iload_n 1, 1) := by decide +kernel
theorem dX8_died_81 : decode cX8_died 81 = .ok (.iload 4, 2) := by decide +kernel
theorem dX8_died_83 : decode cX8_died 83 = .ok (.invokevirtual 245, 3) := by decide +kernel
theorem dX8_died_86 : decode cX8_died 86 = .ok (.iload 4, 2) := by decide +kernel
theorem dX8_died_88 : decode cX8_died 88 = .ok (.ireturn, 1) := by decide +kernel
theorem dX8_undo_0 : decode cX8_undo 0 = .ok (.aload_n 0, 1) := by decide +kernel
theorem dX8_undo_1 : decode cX8_undo 1 = .ok (.getfield 33, 3) := by decide +kernel
theorem dX8_undo_4 : decode cX8_undo 4 = .ok (.getfield 249, 3) := by decide +kernel
theorem dX8_undo_7 : decode cX8_undo 7 = .ok (.ifCond .ne 5, 3) := by decide +kernel
theorem dX8_undo_10 : decode cX8_undo 10 = .ok (.iconst (-1), 1) := by decide +kernel
theorem dX8_undo_11 : decode cX8_undo 11 = .ok (.ireturn, 1) := by decide +kernel
theorem dX8_undo_12 : decode cX8_undo 12 = .ok (.aload_n 0, 1) := by decide +kernel
theorem dX8_undo_13 : decode cX8_undo 13 = .ok (.getfield 33, 3) := by decide +kernel
theorem dX8_undo_16 : decode cX8_undo 16 = .ok (.aload_n 0, 1) := by decide +kernel
theorem dX8_undo_17 : decode cX8_undo 17 = .ok (.getfield 58, 3) := by decide +kernel
theorem dX8_undo_20 : decode cX8_undo 20 = .ok (.invokevirtual 252, 3) := by decide +kernel
theorem dX8_undo_23 : decode cX8_undo 23 = .ok (.aload_n 0, 1) := by decide +kernel
theorem dX8_undo_24 : decode cX8_undo 24 = .ok (.iconst 1, 1) := by decide +kernel
theorem dX8_undo_25 : decode cX8_undo 25 = .ok (.putfield 65, 3) := by decide +kernel
theorem dX8_undo_28 : decode cX8_undo 28 = .ok (.aload_n 0, 1) := by decide +kernel
theorem dX8_undo_29 : decode cX8_undo 29 = .ok (.getfield 33, 3) := by decide +kernel
theorem dX8_undo_32 : decode cX8_undo 32 = .ok (.getfield 249, 3) := by decide +kernel
theorem dX8_undo_35 : decode cX8_undo 35 = .ok (.ireturn, 1) := by decide +kernel
theorem dX8_count_0 : decode cX8_count 0 = .ok (.iload_n 1, 1) := by decide +kernel
theorem dX8_count_1 : decode cX8_count 1 = .ok (.tableswitch 111 0 7 #[47, 55, 63, 71, 79, 87, 95, 103], 47) := by decide +kernel
theorem dX8_count_48 : decode cX8_count 48 = .ok (.aload_n 0, 1) := by decide +kernel
theorem dX8_count_49 : decode cX8_count 49 = .ok (.getfield 51, 3) := by decide +kernel
theorem dX8_count_52 : decode cX8_count 52 = .ok (.getfield 203, 3) := by decide +kernel
theorem dX8_count_55 : decode cX8_count 55 = .ok (.ireturn, 1) := by decide +kernel
theorem dX8_count_56 : decode cX8_count 56 = .ok (.aload_n 0, 1) := by decide +kernel
theorem dX8_count_57 : decode cX8_count 57 = .ok (.getfield 51, 3) := by decide +kernel
theorem dX8_count_60 : decode cX8_count 60 = .ok (.getfield 259, 3) := by decide +kernel
theorem dX8_count_63 : decode cX8_count 63 = .ok (.ireturn, 1) := by decide +kernel
theorem dX8_count_64 : decode cX8_count 64 = .ok (.aload_n 0, 1) := by decide +kernel
theorem dX8_count_65 : decode cX8_count 65 = .ok (.getfield 51, 3) := by decide +kernel
theorem dX8_count_68 : decode cX8_count 68 = .ok (.getfield 262, 3) := by decide +kernel
theorem dX8_count_71 : decode cX8_count 71 = .ok (.ireturn, 1) := by decide +kernel
theorem dX8_count_72 : decode cX8_count 72 = .ok (.aload_n 0, 1) := by decide +kernel
theorem dX8_count_73 : decode cX8_count 73 = .ok (.getfield 51, 3) := by decide +kernel
theorem dX8_count_76 : decode cX8_count 76 = .ok (.getfield 215, 3) := by decide +kernel
theorem dX8_count_79 : decode cX8_count 79 = .ok (.ireturn, 1) := by decide +kernel
theorem dX8_count_80 : decode cX8_count 80 = .ok (.aload_n 0, 1) := by decide +kernel
theorem dX8_count_81 : decode cX8_count 81 = .ok (.getfield 58, 3) := by decide +kernel
theorem dX8_count_84 : decode cX8_count 84 = .ok (.invokevirtual 265, 3) := by decide +kernel
theorem dX8_count_87 : decode cX8_count 87 = .ok (.ireturn, 1) := by decide +kernel
theorem dX8_count_88 : decode cX8_count 88 = .ok (.aload_n 0, 1) := by decide +kernel
theorem dX8_count_89 : decode cX8_count 89 = .ok (.getfield 58, 3) := by decide +kernel
theorem dX8_count_92 : decode cX8_count 92 = .ok (.invokevirtual 269, 3) := by decide +kernel
theorem dX8_count_95 : decode cX8_count 95 = .ok (.ireturn, 1) := by decide +kernel
theorem dX8_count_96 : decode cX8_count 96 = .ok (.aload_n 0, 1) := by decide +kernel
theorem dX8_count_97 : decode cX8_count 97 = .ok (.getfield 33, 3) := by decide +kernel
theorem dX8_count_100 : decode cX8_count 100 = .ok (.getfield 249, 3) := by decide +kernel
theorem dX8_count_103 : decode cX8_count 103 = .ok (.ireturn, 1) := by decide +kernel
theorem dX8_count_104 : decode cX8_count 104 = .ok (.aload_n 0, 1) := by decide +kernel
theorem dX8_count_105 : decode cX8_count 105 = .ok (.getfield 10, 3) := by decide +kernel
theorem dX8_count_108 : decode cX8_count 108 = .ok (.getfield 77, 3) := by decide +kernel
theorem dX8_count_111 : decode cX8_count 111 = .ok (.ireturn, 1) := by decide +kernel
theorem dX8_count_112 : decode cX8_count 112 = .ok (.iconst (-1), 1) := by decide +kernel
theorem dX8_count_113 : decode cX8_count 113 = .ok (.ireturn, 1) := by decide +kernel
theorem dX8_remember_0 : decode cX8_remember 0 = .ok (.aload_n 0, 1) := by decide +kernel
theorem dX8_remember_1 : decode cX8_remember 1 = .ok (.getfield 33, 3) := by decide +kernel
theorem dX8_remember_4 : decode cX8_remember 4 = .ok (.iload_n 1, 1) := by decide +kernel
theorem dX8_remember_5 : decode cX8_remember 5 = .ok (.iload_n 2, 1) := by decide +kernel
theorem dX8_remember_6 : decode cX8_remember 6 = .ok (.iload_n 3, 1) := by decide +kernel
theorem dX8_remember_7 : decode cX8_remember 7 = .ok (.invokevirtual 272, 3) := by decide +kernel
theorem dX8_remember_10 : decode cX8_remember 10 = .ok (.aload_n 0, 1) := by decide +kernel
theorem dX8_remember_11 : decode cX8_remember 11 = .ok (.iconst 1, 1) := by decide +kernel
theorem dX8_remember_12 : decode cX8_remember 12 = .ok (.putfield 65, 3) := by decide +kernel
theorem dX8_remember_15 : decode cX8_remember 15 = .ok (.return_, 1) := by decide +kernel
theorem dX8_isDayOrLate_0 : decode cX8_isDayOrLate 0 = .ok (.iload_n 0, 1) := by decide +kernel
theorem dX8_isDayOrLate_1 : decode cX8_isDayOrLate 1 = .ok (.ifCond .lt 14, 3) := by decide +kernel
theorem dX8_isDayOrLate_4 : decode cX8_isDayOrLate 4 = .ok (.iload_n 0, 1) := by decide +kernel
theorem dX8_isDayOrLate_5 : decode cX8_isDayOrLate 5 = .ok (.ldc_w 279, 3) := by decide +kernel
theorem dX8_isDayOrLate_8 : decode cX8_isDayOrLate 8 = .ok (.if_icmp .gt 7, 3) := by decide +kernel
theorem dX8_isDayOrLate_11 : decode cX8_isDayOrLate 11 = .ok (.iconst 1, 1) := by decide +kernel
theorem dX8_isDayOrLate_12 : decode cX8_isDayOrLate 12 = .ok (.goto 4, 3) := by decide +kernel
theorem dX8_isDayOrLate_15 : decode cX8_isDayOrLate 15 = .ok (.iconst 0, 1) := by decide +kernel
theorem dX8_isDayOrLate_16 : decode cX8_isDayOrLate 16 = .ok (.ireturn, 1) := by decide +kernel
theorem dX8_areReaders_0 : decode cX8_areReaders 0 = .ok (.iload_n 0, 1) := by decide +kernel
theorem dX8_areReaders_1 : decode cX8_areReaders 1 = .ok (.ifCond .lt 13, 3) := by decide +kernel
theorem dX8_areReaders_4 : decode cX8_areReaders 4 = .ok (.iload_n 0, 1) := by decide +kernel
theorem dX8_areReaders_5 : decode cX8_areReaders 5 = .ok (.bipush 15, 2) := by decide +kernel
theorem dX8_areReaders_7 : decode cX8_areReaders 7 = .ok (.if_icmp .gt 7, 3) := by decide +kernel
theorem dX8_areReaders_10 : decode cX8_areReaders 10 = .ok (.iconst 1, 1) := by decide +kernel
theorem dX8_areReaders_11 : decode cX8_areReaders 11 = .ok (.goto 4, 3) := by decide +kernel
theorem dX8_areReaders_14 : decode cX8_areReaders 14 = .ok (.iconst 0, 1) := by decide +kernel
theorem dX8_areReaders_15 : decode cX8_areReaders 15 = .ok (.ireturn, 1) := by decide +kernel
theorem qw_242 : (Cond.constant RX8 279 (219145) : Cond) ∈ TBL := List.mem_of_getElem? (i := 529) (by decide +kernel)
theorem qw_243 : (Cond.fieldLink RX8 10 "ClosedUntil" "tape" "LClosedUntil$Tape;" : Cond) ∈ TBL := List.mem_of_getElem? (i := 16) (by decide +kernel)
theorem qw_244 : (Cond.code yX4_hasRoom cX4_hasRoom 1 (some .boolean) : Cond) ∈ TBL := List.mem_of_getElem? (i := 196) (by decide +kernel)
theorem qw_245 : (Cond.initialized RX4 : Cond) ∈ TBL := List.mem_of_getElem? (i := 15) (by decide +kernel)
theorem qw_246 : (Cond.instanceMethod yX4_hasRoom : Cond) ∈ TBL := List.mem_of_getElem? (i := 194) (by decide +kernel)
theorem qw_247 : (Cond.selects RX4 yX4_hasRoom yX4_hasRoom : Cond) ∈ TBL := List.mem_of_getElem? (i := 195) (by decide +kernel)
theorem qw_248 : (Cond.code yX4_append cX4_append 3 none : Cond) ∈ TBL := List.mem_of_getElem? (i := 200) (by decide +kernel)
theorem qw_249 : (Cond.instanceMethod yX4_append : Cond) ∈ TBL := List.mem_of_getElem? (i := 198) (by decide +kernel)
theorem qw_250 : (Cond.selects RX4 yX4_append yX4_append : Cond) ∈ TBL := List.mem_of_getElem? (i := 199) (by decide +kernel)
theorem qw_251 : (Cond.code yX0_has cX0_has 1 (some .boolean) : Cond) ∈ TBL := List.mem_of_getElem? (i := 495) (by decide +kernel)
theorem qw_252 : (Cond.static yX0_has : Cond) ∈ TBL := List.mem_of_getElem? (i := 494) (by decide +kernel)
theorem qw_253 : (Cond.code yX0_monthOf cX0_monthOf 1 (some .int) : Cond) ∈ TBL := List.mem_of_getElem? (i := 500) (by decide +kernel)
theorem qw_254 : (Cond.static yX0_monthOf : Cond) ∈ TBL := List.mem_of_getElem? (i := 499) (by decide +kernel)
theorem qw_255 : (Cond.code yX0_dayOfMonth cX0_dayOfMonth 1 (some .int) : Cond) ∈ TBL := List.mem_of_getElem? (i := 506) (by decide +kernel)
theorem qw_256 : (Cond.static yX0_dayOfMonth : Cond) ∈ TBL := List.mem_of_getElem? (i := 505) (by decide +kernel)
theorem qw_257 : (Cond.code yX0_dayOfWeek cX0_dayOfWeek 1 (some .int) : Cond) ∈ TBL := List.mem_of_getElem? (i := 508) (by decide +kernel)
theorem qw_258 : (Cond.static yX0_dayOfWeek : Cond) ∈ TBL := List.mem_of_getElem? (i := 507) (by decide +kernel)
theorem qw_259 : (Cond.code yX8_isDayOrLate cX8_isDayOrLate 1 (some .boolean) : Cond) ∈ TBL := List.mem_of_getElem? (i := 528) (by decide +kernel)
theorem qw_260 : (Cond.methodLink RX8 118 yX8_isDayOrLate : Cond) ∈ TBL := List.mem_of_getElem? (i := 526) (by decide +kernel)
theorem qw_261 : (Cond.static yX8_isDayOrLate : Cond) ∈ TBL := List.mem_of_getElem? (i := 527) (by decide +kernel)
theorem qw_262 : (Cond.fieldLink RX8 51 "ClosedUntil" "told" "LClosedUntil$Holdings;" : Cond) ∈ TBL := List.mem_of_getElem? (i := 38) (by decide +kernel)
theorem qw_263 : (Cond.code yX1_hasPerson cX1_hasPerson 2 (some .boolean) : Cond) ∈ TBL := List.mem_of_getElem? (i := 613) (by decide +kernel)
theorem qw_264 : (Cond.instanceMethod yX1_hasPerson : Cond) ∈ TBL := List.mem_of_getElem? (i := 611) (by decide +kernel)
theorem qw_265 : (Cond.selects RX1 yX1_hasPerson yX1_hasPerson : Cond) ∈ TBL := List.mem_of_getElem? (i := 612) (by decide +kernel)
theorem qw_266 : (Cond.fieldLink RX8 58 "ClosedUntil" "now" "LClosedUntil$State;" : Cond) ∈ TBL := List.mem_of_getElem? (i := 40) (by decide +kernel)
theorem qw_267 : (Cond.code yX1_piecesOf cX1_piecesOf 4 (some .int) : Cond) ∈ TBL := List.mem_of_getElem? (i := 616) (by decide +kernel)
theorem qw_268 : (Cond.instanceMethod yX1_piecesOf : Cond) ∈ TBL := List.mem_of_getElem? (i := 614) (by decide +kernel)
theorem qw_269 : (Cond.selects RX1 yX1_piecesOf yX1_piecesOf : Cond) ∈ TBL := List.mem_of_getElem? (i := 615) (by decide +kernel)
theorem qw_270 : (Cond.code yX3_allReviews cX3_allReviews 3 (some .int) : Cond) ∈ TBL := List.mem_of_getElem? (i := 959) (by decide +kernel)
theorem qw_271 : (Cond.instanceMethod yX3_allReviews : Cond) ∈ TBL := List.mem_of_getElem? (i := 957) (by decide +kernel)
theorem qw_272 : (Cond.selects RX3 yX3_allReviews yX3_allReviews : Cond) ∈ TBL := List.mem_of_getElem? (i := 958) (by decide +kernel)
theorem qw_273 : (Cond.code yX3_allLifted cX3_allLifted 3 (some .int) : Cond) ∈ TBL := List.mem_of_getElem? (i := 962) (by decide +kernel)
theorem qw_274 : (Cond.instanceMethod yX3_allLifted : Cond) ∈ TBL := List.mem_of_getElem? (i := 960) (by decide +kernel)
theorem qw_275 : (Cond.selects RX3 yX3_allLifted yX3_allLifted : Cond) ∈ TBL := List.mem_of_getElem? (i := 961) (by decide +kernel)
theorem qw_276 : (Cond.fieldLink RX8 33 "ClosedUntil" "journal" "LClosedUntil$Journal;" : Cond) ∈ TBL := List.mem_of_getElem? (i := 28) (by decide +kernel)
theorem qw_277 : (Cond.code yX2_add cX2_add 4 none : Cond) ∈ TBL := List.mem_of_getElem? (i := 884) (by decide +kernel)
theorem qw_278 : (Cond.instanceMethod yX2_add : Cond) ∈ TBL := List.mem_of_getElem? (i := 882) (by decide +kernel)
theorem qw_279 : (Cond.selects RX2 yX2_add yX2_add : Cond) ∈ TBL := List.mem_of_getElem? (i := 883) (by decide +kernel)
theorem qw_280 : (Cond.fieldLink RX8 65 "ClosedUntil" "stale" "Z" : Cond) ∈ TBL := List.mem_of_getElem? (i := 42) (by decide +kernel)
theorem qw_281 : (Cond.code yX1_hasClosure cX1_hasClosure 2 (some .boolean) : Cond) ∈ TBL := List.mem_of_getElem? (i := 635) (by decide +kernel)
theorem qw_282 : (Cond.instanceMethod yX1_hasClosure : Cond) ∈ TBL := List.mem_of_getElem? (i := 633) (by decide +kernel)
theorem qw_283 : (Cond.selects RX1 yX1_hasClosure yX1_hasClosure : Cond) ∈ TBL := List.mem_of_getElem? (i := 634) (by decide +kernel)
theorem qw_284 : (Cond.code yX3_addReview cX3_addReview 7 (some .int) : Cond) ∈ TBL := List.mem_of_getElem? (i := 877) (by decide +kernel)
theorem qw_285 : (Cond.instanceMethod yX3_addReview : Cond) ∈ TBL := List.mem_of_getElem? (i := 875) (by decide +kernel)
theorem qw_286 : (Cond.selects RX3 yX3_addReview yX3_addReview : Cond) ∈ TBL := List.mem_of_getElem? (i := 876) (by decide +kernel)
theorem qw_287 : (Cond.code yX8_remember cX8_remember 4 none : Cond) ∈ TBL := List.mem_of_getElem? (i := 881) (by decide +kernel)
theorem qw_288 : (Cond.methodLink RX8 245 yX8_remember : Cond) ∈ TBL := List.mem_of_getElem? (i := 878) (by decide +kernel)
theorem qw_289 : (Cond.instanceMethod yX8_remember : Cond) ∈ TBL := List.mem_of_getElem? (i := 879) (by decide +kernel)
theorem qw_290 : (Cond.selects RX8 yX8_remember yX8_remember : Cond) ∈ TBL := List.mem_of_getElem? (i := 880) (by decide +kernel)
theorem qw_291 : (Cond.code yX2_takeBackLatest cX2_takeBackLatest 4 none : Cond) ∈ TBL := List.mem_of_getElem? (i := 933) (by decide +kernel)
theorem qw_292 : (Cond.instanceMethod yX2_takeBackLatest : Cond) ∈ TBL := List.mem_of_getElem? (i := 931) (by decide +kernel)
theorem qw_293 : (Cond.selects RX2 yX2_takeBackLatest yX2_takeBackLatest : Cond) ∈ TBL := List.mem_of_getElem? (i := 932) (by decide +kernel)
theorem rgP3_1c795e4 {D : va_G} {cl : List vw_C} {H : Heap} {c0 c1 c2 : Nat × va_E} (h : va_P D cl ([c0, c1, c2]) H) : va_P D cl ([c1, c2]) H := h.sub (ws' := [c1, c2]) [1, 2] rfl
theorem rgD3_48984d5 {A : Nat → Prop} {c0 c1 c2 : Nat × va_E} (h : va_D A ([c0, c1, c2])) : va_D A ([c1, c2]) := h.sub (ws' := [c1, c2]) [1, 2] (by decide +kernel) rfl
theorem rgJ3_fb28b63 {A0 : Nat → Prop} {D : va_G} {cl : List vw_C} {H H1 : Heap} {c0 c1 c2 : Nat × va_E} {d0 d1 : Nat × va_E} (hP : va_P D cl ([c0, c1, c2]) H) (hD : va_D A0 ([c0, c1, c2])) (hk : ∀ q : Nat, q < H.size → ¬ va_A ([c1, c2]) H.size q → H1[q]? = H[q]?) (hF : ∀ q, va_A ([c1, c2]) H.size q → A0 q) (hP1 : va_P D cl ([d0, d1]) H1) (hD1 : va_D (va_A ([c1, c2]) H.size) ([d0, d1])) : va_P D cl ([c0, d0, d1]) H1 ∧ va_D A0 ([c0, d0, d1]) := by
  obtain ⟨h1, h2⟩ := va_join (ws := [c0, c1, c2]) (wc := [c1, c2]) (wr := [c0]) (w1 := [d0, d1]) hP hD [1, 2] [0] rfl rfl (by decide +kernel) (by decide +kernel) hk hF hP1 hD1
  exact ⟨va_P.sub (ws := [c0, d0, d1]) (ws' := [c0, d0, d1]) h1 [0, 1, 2] rfl, va_D.sub (ws := [c0, d0, d1]) (ws' := [c0, d0, d1]) h2 [0, 1, 2] (by decide +kernel) rfl⟩
theorem rgL6_3f800dd {c0 c1 c2 c3 c4 c5 : Nat × va_E} : (([c0, c1, c2, c3, c4, c5] : va_W))[0]? = some c0 := rfl
theorem rgP6_d2a108c {D : va_G} {cl : List vw_C} {H : Heap} {c0 c1 c2 c3 c4 c5 : Nat × va_E} (h : va_P D cl ([c0, c1, c2, c3, c4, c5]) H) : va_P D cl ([c1]) H := h.sub (ws' := [c1]) [1] rfl
theorem rgL6_a93a3d5 {c0 c1 c2 c3 c4 c5 : Nat × va_E} : (([c0, c1, c2, c3, c4, c5] : va_W))[1]? = some c1 := rfl
theorem rgL6_5db1281 {c0 c1 c2 c3 c4 c5 : Nat × va_E} : (([c0, c1, c2, c3, c4, c5] : va_W))[2]? = some c2 := rfl
theorem rgL6_fb60be2 {c0 c1 c2 c3 c4 c5 : Nat × va_E} : (([c0, c1, c2, c3, c4, c5] : va_W))[4]? = some c4 := rfl
theorem rgL6_bd8047c {c0 c1 c2 c3 c4 c5 : Nat × va_E} : (([c0, c1, c2, c3, c4, c5] : va_W))[5]? = some c5 := rfl
theorem rgP6_4803b3d {D : va_G} {cl : List vw_C} {H : Heap} {c0 c1 c2 c3 c4 c5 : Nat × va_E} (h : va_P D cl ([c0, c1, c2, c3, c4, c5]) H) : va_P D cl ([c1, c3]) H := h.sub (ws' := [c1, c3]) [1, 3] rfl
theorem rgL7_83d031a {c0 c1 c2 c3 c4 c5 c6 : Nat × va_E} : (([c0, c1, c2, c3, c4, c5, c6] : va_W))[3]? = some c3 := rfl
theorem rgP7_2567996 {D : va_G} {cl : List vw_C} {H : Heap} {c0 c1 c2 c3 c4 c5 c6 : Nat × va_E} (h : va_P D cl ([c0, c1, c2, c3, c4, c5, c6]) H) : va_P D cl ([c4, c6]) H := h.sub (ws' := [c4, c6]) [4, 6] rfl
theorem rgL7_1774eef {c0 c1 c2 c3 c4 c5 c6 : Nat × va_E} : (([c0, c1, c2, c3, c4, c5, c6] : va_W))[4]? = some c4 := rfl
theorem rgP7_2029366 {D : va_G} {cl : List vw_C} {H : Heap} {c0 c1 c2 c3 c4 c5 c6 : Nat × va_E} (h : va_P D cl ([c0, c1, c2, c3, c4, c5, c6]) H) : va_P D cl ([c4, c5]) H := h.sub (ws' := [c4, c5]) [4, 5] rfl
theorem rgL7_e12ca01 {c0 c1 c2 c3 c4 c5 c6 : Nat × va_E} : (([c0, c1, c2, c3, c4, c5, c6] : va_W))[2]? = some c2 := rfl
theorem rgP5_0e718bd {D : va_G} {cl : List vw_C} {H : Heap} {c0 c1 c2 c3 c4 : Nat × va_E} (h : va_P D cl ([c0, c1, c2, c3, c4]) H) : va_P D cl ([c1, c2, c3, c4]) H := h.sub (ws' := [c1, c2, c3, c4]) [1, 2, 3, 4] rfl
theorem rgD5_aebab85 {A : Nat → Prop} {c0 c1 c2 c3 c4 : Nat × va_E} (h : va_D A ([c0, c1, c2, c3, c4])) : va_D A ([c1, c2, c3, c4]) := h.sub (ws' := [c1, c2, c3, c4]) [1, 2, 3, 4] (by decide +kernel) rfl
theorem rgJ5_c227d9c {A0 : Nat → Prop} {D : va_G} {cl : List vw_C} {H H1 : Heap} {c0 c1 c2 c3 c4 : Nat × va_E} {d0 d1 d2 d3 : Nat × va_E} (hP : va_P D cl ([c0, c1, c2, c3, c4]) H) (hD : va_D A0 ([c0, c1, c2, c3, c4])) (hk : ∀ q : Nat, q < H.size → ¬ va_A ([c1, c2, c3, c4]) H.size q → H1[q]? = H[q]?) (hF : ∀ q, va_A ([c1, c2, c3, c4]) H.size q → A0 q) (hP1 : va_P D cl ([d0, d1, d2, d3]) H1) (hD1 : va_D (va_A ([c1, c2, c3, c4]) H.size) ([d0, d1, d2, d3])) : va_P D cl ([c0, d0, d1, d2, d3]) H1 ∧ va_D A0 ([c0, d0, d1, d2, d3]) := by
  obtain ⟨h1, h2⟩ := va_join (ws := [c0, c1, c2, c3, c4]) (wc := [c1, c2, c3, c4]) (wr := [c0]) (w1 := [d0, d1, d2, d3]) hP hD [1, 2, 3, 4] [0] rfl rfl (by decide +kernel) (by decide +kernel) hk hF hP1 hD1
  exact ⟨va_P.sub (ws := [c0, d0, d1, d2, d3]) (ws' := [c0, d0, d1, d2, d3]) h1 [0, 1, 2, 3, 4] rfl, va_D.sub (ws := [c0, d0, d1, d2, d3]) (ws' := [c0, d0, d1, d2, d3]) h2 [0, 1, 2, 3, 4] (by decide +kernel) rfl⟩
theorem rgS5_283d4d4 {A : Nat → Prop} {D : va_G} {cl : List vw_C} {H : Heap} {c0 c1 c2 c3 c4 : Nat × va_E} {d e : Nat × va_E} (hP : va_P D cl (([c0, c1, c2, c3, c4]).set 0 d) H) (hD : va_D A (([c0, c1, c2, c3, c4]).set 0 d)) (h : d = e) : va_P D cl ([e, c1, c2, c3, c4]) H ∧ va_D A ([e, c1, c2, c3, c4]) := by subst h; exact ⟨hP, hD⟩
theorem rgP10_f1a6605 {D : va_G} {cl : List vw_C} {H : Heap} {c0 c1 c2 c3 c4 c5 c6 c7 c8 c9 : Nat × va_E} {R : va_W} (h : va_P D cl ([c0, c1, c2, c3, c4, c5, c6, c7, c8, c9] ++ R) H) : va_P D cl ([c5]) H := h.sub (ws' := [c5]) [5] rfl
theorem rgT7_31013df {t0 t1 t2 t3 t4 t5 t6 : ClassId × FieldType} : (([t0, t1, t2, t3, t4, t5, t6] : List (ClassId × FieldType)))[3]? = some t3 := rfl
theorem rgP10_bf90e08 {D : va_G} {cl : List vw_C} {H : Heap} {c0 c1 c2 c3 c4 c5 c6 c7 c8 c9 : Nat × va_E} {R : va_W} (h : va_P D cl ([c0, c1, c2, c3, c4, c5, c6, c7, c8, c9] ++ R) H) : va_P D cl ([c6, c7, c8, c9] ++ R) H := h.part (X := [c0, c1, c2, c3, c4, c5, c6, c7, c8, c9]) (cx := [c6, c7, c8, c9]) [6, 7, 8, 9] rfl
theorem rgK7_71979b9 {D : va_G} {cl : List vw_C} {U : State} {t0 t1 t2 t3 t4 t5 t6 : ClassId × FieldType} (h : va_K D cl [t0, t1, t2, t3, t4, t5, t6] U) : va_K D cl [t3, t4, t5] U := h.sub (tys' := [t3, t4, t5]) [3, 4, 5] rfl
theorem rgD10_24f7209 {A : Nat → Prop} {c0 c1 c2 c3 c4 c5 c6 c7 c8 c9 : Nat × va_E} {R : va_W} (h : va_D A ([c0, c1, c2, c3, c4, c5, c6, c7, c8, c9] ++ R)) : va_D A ([c6, c7, c8, c9] ++ R) := h.part (X := [c0, c1, c2, c3, c4, c5, c6, c7, c8, c9]) (cx := [c6, c7, c8, c9]) [6, 7, 8, 9] (by decide +kernel) rfl
theorem rgJ10_91ff9b1 {A0 : Nat → Prop} {D : va_G} {cl : List vw_C} {H H1 : Heap} {c0 c1 c2 c3 c4 c5 c6 c7 c8 c9 : Nat × va_E} {d0 d1 d2 d3 : Nat × va_E} {R R1 : va_W} (hP : va_P D cl ([c0, c1, c2, c3, c4, c5, c6, c7, c8, c9] ++ R) H) (hD : va_D A0 ([c0, c1, c2, c3, c4, c5, c6, c7, c8, c9] ++ R)) (hk : ∀ q : Nat, q < H.size → ¬ va_A ([c6, c7, c8, c9] ++ R) H.size q → H1[q]? = H[q]?) (hF : ∀ q, va_A ([c6, c7, c8, c9] ++ R) H.size q → A0 q) (hP1 : va_P D cl ([d0, d1, d2, d3] ++ R1) H1) (hD1 : va_D (va_A ([c6, c7, c8, c9] ++ R) H.size) ([d0, d1, d2, d3] ++ R1)) : va_P D cl ([c0, c1, c2, c3, c4, c5, d0, d1, d2, d3] ++ R1) H1 ∧ va_D A0 ([c0, c1, c2, c3, c4, c5, d0, d1, d2, d3] ++ R1) := by
  obtain ⟨h1, h2⟩ := va_joinP (X := [c0, c1, c2, c3, c4, c5, c6, c7, c8, c9]) (cx := [c6, c7, c8, c9]) (wr := [c0, c1, c2, c3, c4, c5]) (rx := [d0, d1, d2, d3]) hP hD [6, 7, 8, 9] [0, 1, 2, 3, 4, 5] rfl rfl (by decide +kernel) (by decide +kernel) hk hF hP1 hD1
  exact ⟨va_P.part (X := [c0, c1, c2, c3, c4, c5, d0, d1, d2, d3]) (cx := [c0, c1, c2, c3, c4, c5, d0, d1, d2, d3]) h1 [0, 1, 2, 3, 4, 5, 6, 7, 8, 9] rfl, va_D.part (X := [c0, c1, c2, c3, c4, c5, d0, d1, d2, d3]) (cx := [c0, c1, c2, c3, c4, c5, d0, d1, d2, d3]) h2 [0, 1, 2, 3, 4, 5, 6, 7, 8, 9] (by decide +kernel) rfl⟩
theorem rgP10_893b47b {D : va_G} {cl : List vw_C} {H : Heap} {c0 c1 c2 c3 c4 c5 c6 c7 c8 c9 : Nat × va_E} {R : va_W} (h : va_P D cl ([c0, c1, c2, c3, c4, c5, c6, c7, c8, c9] ++ R) H) : va_P D cl ([c0, c1, c2, c3, c4]) H := h.sub (ws' := [c0, c1, c2, c3, c4]) [0, 1, 2, 3, 4] rfl
theorem rgD10_1b14b07 {A : Nat → Prop} {c0 c1 c2 c3 c4 c5 c6 c7 c8 c9 : Nat × va_E} {R : va_W} (h : va_D A ([c0, c1, c2, c3, c4, c5, c6, c7, c8, c9] ++ R)) : va_D A ([c0, c1, c2, c3, c4]) := h.sub (ws' := [c0, c1, c2, c3, c4]) [0, 1, 2, 3, 4] (by decide +kernel) rfl
theorem rgJ10_d6acd95 {A0 : Nat → Prop} {D : va_G} {cl : List vw_C} {H H1 : Heap} {c0 c1 c2 c3 c4 c5 c6 c7 c8 c9 : Nat × va_E} {d0 d1 d2 d3 d4 : Nat × va_E} {R : va_W} (hP : va_P D cl ([c0, c1, c2, c3, c4, c5, c6, c7, c8, c9] ++ R) H) (hD : va_D A0 ([c0, c1, c2, c3, c4, c5, c6, c7, c8, c9] ++ R)) (hk : ∀ q : Nat, q < H.size → ¬ va_A ([c0, c1, c2, c3, c4]) H.size q → H1[q]? = H[q]?) (hF : ∀ q, va_A ([c0, c1, c2, c3, c4]) H.size q → A0 q) (hP1 : va_P D cl ([d0, d1, d2, d3, d4]) H1) (hD1 : va_D (va_A ([c0, c1, c2, c3, c4]) H.size) ([d0, d1, d2, d3, d4])) : va_P D cl ([d0, d1, d2, d3, d4, c5, c6, c7, c8, c9] ++ R) H1 ∧ va_D A0 ([d0, d1, d2, d3, d4, c5, c6, c7, c8, c9] ++ R) := by
  obtain ⟨h1, h2⟩ := va_joinQ (X := [c0, c1, c2, c3, c4, c5, c6, c7, c8, c9]) (cx := [c0, c1, c2, c3, c4]) (wr := [c5, c6, c7, c8, c9]) (w1 := [d0, d1, d2, d3, d4]) hP hD [0, 1, 2, 3, 4] [5, 6, 7, 8, 9] rfl rfl (by decide +kernel) (by decide +kernel) hk hF hP1 hD1
  exact ⟨va_P.part (X := [c5, c6, c7, c8, c9, d0, d1, d2, d3, d4]) (cx := [d0, d1, d2, d3, d4, c5, c6, c7, c8, c9]) h1 [5, 6, 7, 8, 9, 0, 1, 2, 3, 4] rfl, va_D.part (X := [c5, c6, c7, c8, c9, d0, d1, d2, d3, d4]) (cx := [d0, d1, d2, d3, d4, c5, c6, c7, c8, c9]) h2 [5, 6, 7, 8, 9, 0, 1, 2, 3, 4] (by decide +kernel) rfl⟩
theorem rgP9_10fd189 {D : va_G} {cl : List vw_C} {H : Heap} {c0 c1 c2 c3 c4 c5 c6 c7 c8 : Nat × va_E} (h : va_P D cl ([c0, c1, c2, c3, c4, c5, c6, c7, c8]) H) : va_P D cl ([c5]) H := h.sub (ws' := [c5]) [5] rfl
theorem rgL9_ebd720b {c0 c1 c2 c3 c4 c5 c6 c7 c8 : Nat × va_E} : (([c0, c1, c2, c3, c4, c5, c6, c7, c8] : va_W))[5]? = some c5 := rfl
theorem rgL9_84147e0 {c0 c1 c2 c3 c4 c5 c6 c7 c8 : Nat × va_E} : (([c0, c1, c2, c3, c4, c5, c6, c7, c8] : va_W))[6]? = some c6 := rfl
theorem rgK5_4ca432a {D : va_G} {cl : List vw_C} {U : State} {t0 t1 t2 t3 t4 : ClassId × FieldType} (h : va_K D cl [t0, t1, t2, t3, t4] U) : va_K D cl [t0, t1, t2] U := h.sub (tys' := [t0, t1, t2]) [0, 1, 2] rfl
theorem rgP9_f3370ea {D : va_G} {cl : List vw_C} {H : Heap} {c0 c1 c2 c3 c4 c5 c6 c7 c8 : Nat × va_E} (h : va_P D cl ([c0, c1, c2, c3, c4, c5, c6, c7, c8]) H) : va_P D cl ([]) H := h.sub (ws' := []) [] rfl
theorem rgL10_6790d07 {c0 c1 c2 c3 c4 c5 c6 c7 c8 c9 : Nat × va_E} : (([c0, c1, c2, c3, c4, c5, c6, c7, c8, c9] : va_W))[0]? = some c0 := rfl
theorem rgP10_c285bf6 {D : va_G} {cl : List vw_C} {H : Heap} {c0 c1 c2 c3 c4 c5 c6 c7 c8 c9 : Nat × va_E} (h : va_P D cl ([c0, c1, c2, c3, c4, c5, c6, c7, c8, c9]) H) : va_P D cl ([c5]) H := h.sub (ws' := [c5]) [5] rfl
theorem rgL10_adf45ab {c0 c1 c2 c3 c4 c5 c6 c7 c8 c9 : Nat × va_E} : (([c0, c1, c2, c3, c4, c5, c6, c7, c8, c9] : va_W))[5]? = some c5 := rfl
theorem rgL10_4409b10 {c0 c1 c2 c3 c4 c5 c6 c7 c8 c9 : Nat × va_E} : (([c0, c1, c2, c3, c4, c5, c6, c7, c8, c9] : va_W))[7]? = some c7 := rfl
theorem rgL10_eedba4b {c0 c1 c2 c3 c4 c5 c6 c7 c8 c9 : Nat × va_E} : (([c0, c1, c2, c3, c4, c5, c6, c7, c8, c9] : va_W))[8]? = some c8 := rfl
theorem rgT6_434bf82 {t0 t1 t2 t3 t4 t5 : ClassId × FieldType} : (([t0, t1, t2, t3, t4, t5] : List (ClassId × FieldType)))[4]? = some t4 := rfl
theorem rgS10_7521bbf {A : Nat → Prop} {D : va_G} {cl : List vw_C} {H : Heap} {c0 c1 c2 c3 c4 c5 c6 c7 c8 c9 : Nat × va_E} {d e : Nat × va_E} (hP : va_P D cl (([c0, c1, c2, c3, c4, c5, c6, c7, c8, c9]).set 8 d) H) (hD : va_D A (([c0, c1, c2, c3, c4, c5, c6, c7, c8, c9]).set 8 d)) (h : d = e) : va_P D cl ([c0, c1, c2, c3, c4, c5, c6, c7, e, c9]) H ∧ va_D A ([c0, c1, c2, c3, c4, c5, c6, c7, e, c9]) := by subst h; exact ⟨hP, hD⟩
theorem rgP10_1ee03f1 {D : va_G} {cl : List vw_C} {H : Heap} {c0 c1 c2 c3 c4 c5 c6 c7 c8 c9 : Nat × va_E} (h : va_P D cl ([c0, c1, c2, c3, c4, c5, c6, c7, c8, c9]) H) : va_P D cl ([c0, c1, c2, c3, c4]) H := h.sub (ws' := [c0, c1, c2, c3, c4]) [0, 1, 2, 3, 4] rfl
theorem rgD10_02479d5 {A : Nat → Prop} {c0 c1 c2 c3 c4 c5 c6 c7 c8 c9 : Nat × va_E} (h : va_D A ([c0, c1, c2, c3, c4, c5, c6, c7, c8, c9])) : va_D A ([c0, c1, c2, c3, c4]) := h.sub (ws' := [c0, c1, c2, c3, c4]) [0, 1, 2, 3, 4] (by decide +kernel) rfl
theorem rgJ10_f235054 {A0 : Nat → Prop} {D : va_G} {cl : List vw_C} {H H1 : Heap} {c0 c1 c2 c3 c4 c5 c6 c7 c8 c9 : Nat × va_E} {d0 d1 d2 d3 d4 : Nat × va_E} (hP : va_P D cl ([c0, c1, c2, c3, c4, c5, c6, c7, c8, c9]) H) (hD : va_D A0 ([c0, c1, c2, c3, c4, c5, c6, c7, c8, c9])) (hk : ∀ q : Nat, q < H.size → ¬ va_A ([c0, c1, c2, c3, c4]) H.size q → H1[q]? = H[q]?) (hF : ∀ q, va_A ([c0, c1, c2, c3, c4]) H.size q → A0 q) (hP1 : va_P D cl ([d0, d1, d2, d3, d4]) H1) (hD1 : va_D (va_A ([c0, c1, c2, c3, c4]) H.size) ([d0, d1, d2, d3, d4])) : va_P D cl ([d0, d1, d2, d3, d4, c5, c6, c7, c8, c9]) H1 ∧ va_D A0 ([d0, d1, d2, d3, d4, c5, c6, c7, c8, c9]) := by
  obtain ⟨h1, h2⟩ := va_join (ws := [c0, c1, c2, c3, c4, c5, c6, c7, c8, c9]) (wc := [c0, c1, c2, c3, c4]) (wr := [c5, c6, c7, c8, c9]) (w1 := [d0, d1, d2, d3, d4]) hP hD [0, 1, 2, 3, 4] [5, 6, 7, 8, 9] rfl rfl (by decide +kernel) (by decide +kernel) hk hF hP1 hD1
  exact ⟨va_P.sub (ws := [c5, c6, c7, c8, c9, d0, d1, d2, d3, d4]) (ws' := [d0, d1, d2, d3, d4, c5, c6, c7, c8, c9]) h1 [5, 6, 7, 8, 9, 0, 1, 2, 3, 4] rfl, va_D.sub (ws := [c5, c6, c7, c8, c9, d0, d1, d2, d3, d4]) (ws' := [d0, d1, d2, d3, d4, c5, c6, c7, c8, c9]) h2 [5, 6, 7, 8, 9, 0, 1, 2, 3, 4] (by decide +kernel) rfl⟩
theorem rgL10_d919974 {c0 c1 c2 c3 c4 c5 c6 c7 c8 c9 : Nat × va_E} : (([c0, c1, c2, c3, c4, c5, c6, c7, c8, c9] : va_W))[6]? = some c6 := rfl
theorem rgT6_ad58e03 {t0 t1 t2 t3 t4 t5 : ClassId × FieldType} : (([t0, t1, t2, t3, t4, t5] : List (ClassId × FieldType)))[3]? = some t3 := rfl
theorem rgP10_ad8e293 {D : va_G} {cl : List vw_C} {H : Heap} {c0 c1 c2 c3 c4 c5 c6 c7 c8 c9 : Nat × va_E} (h : va_P D cl ([c0, c1, c2, c3, c4, c5, c6, c7, c8, c9]) H) : va_P D cl ([]) H := h.sub (ws' := []) [] rfl
theorem rgL12_9b732f2 {c0 c1 c2 c3 c4 c5 c6 c7 c8 c9 c10 c11 : Nat × va_E} {R : va_W} : (([c0, c1, c2, c3, c4, c5, c6, c7, c8, c9, c10, c11] ++ R : va_W))[0]? = some c0 := rfl
theorem rgL12_cbfd1cd {c0 c1 c2 c3 c4 c5 c6 c7 c8 c9 c10 c11 : Nat × va_E} {R : va_W} : (([c0, c1, c2, c3, c4, c5, c6, c7, c8, c9, c10, c11] ++ R : va_W))[1]? = some c1 := rfl
theorem rgP12_66f778f {D : va_G} {cl : List vw_C} {H : Heap} {c0 c1 c2 c3 c4 c5 c6 c7 c8 c9 c10 c11 : Nat × va_E} {R : va_W} (h : va_P D cl ([c0, c1, c2, c3, c4, c5, c6, c7, c8, c9, c10, c11] ++ R) H) : va_P D cl ([c1, c2, c3, c4, c5, c6, c7, c8, c9, c10, c11] ++ R) H := h.part (X := [c0, c1, c2, c3, c4, c5, c6, c7, c8, c9, c10, c11]) (cx := [c1, c2, c3, c4, c5, c6, c7, c8, c9, c10, c11]) [1, 2, 3, 4, 5, 6, 7, 8, 9, 10, 11] rfl
theorem rgK10_cb8ec33 {D : va_G} {cl : List vw_C} {U : State} {t0 t1 t2 t3 t4 t5 t6 t7 t8 t9 : ClassId × FieldType} (h : va_K D cl [t0, t1, t2, t3, t4, t5, t6, t7, t8, t9] U) : va_K D cl [t0, t1, t2, t3, t4, t5, t6, t7, t8] U := h.sub (tys' := [t0, t1, t2, t3, t4, t5, t6, t7, t8]) [0, 1, 2, 3, 4, 5, 6, 7, 8] rfl
theorem rgD12_2c98cea {A : Nat → Prop} {c0 c1 c2 c3 c4 c5 c6 c7 c8 c9 c10 c11 : Nat × va_E} {R : va_W} (h : va_D A ([c0, c1, c2, c3, c4, c5, c6, c7, c8, c9, c10, c11] ++ R)) : va_D A ([c1, c2, c3, c4, c5, c6, c7, c8, c9, c10, c11] ++ R) := h.part (X := [c0, c1, c2, c3, c4, c5, c6, c7, c8, c9, c10, c11]) (cx := [c1, c2, c3, c4, c5, c6, c7, c8, c9, c10, c11]) [1, 2, 3, 4, 5, 6, 7, 8, 9, 10, 11] (by decide +kernel) rfl
theorem rgJ12_91f7dab {A0 : Nat → Prop} {D : va_G} {cl : List vw_C} {H H1 : Heap} {c0 c1 c2 c3 c4 c5 c6 c7 c8 c9 c10 c11 : Nat × va_E} {d0 d1 d2 d3 d4 d5 d6 d7 d8 d9 d10 : Nat × va_E} {R R1 : va_W} (hP : va_P D cl ([c0, c1, c2, c3, c4, c5, c6, c7, c8, c9, c10, c11] ++ R) H) (hD : va_D A0 ([c0, c1, c2, c3, c4, c5, c6, c7, c8, c9, c10, c11] ++ R)) (hk : ∀ q : Nat, q < H.size → ¬ va_A ([c1, c2, c3, c4, c5, c6, c7, c8, c9, c10, c11] ++ R) H.size q → H1[q]? = H[q]?) (hF : ∀ q, va_A ([c1, c2, c3, c4, c5, c6, c7, c8, c9, c10, c11] ++ R) H.size q → A0 q) (hP1 : va_P D cl ([d0, d1, d2, d3, d4, d5, d6, d7, d8, d9, d10] ++ R1) H1) (hD1 : va_D (va_A ([c1, c2, c3, c4, c5, c6, c7, c8, c9, c10, c11] ++ R) H.size) ([d0, d1, d2, d3, d4, d5, d6, d7, d8, d9, d10] ++ R1)) : va_P D cl ([c0, d0, d1, d2, d3, d4, d5, d6, d7, d8, d9, d10] ++ R1) H1 ∧ va_D A0 ([c0, d0, d1, d2, d3, d4, d5, d6, d7, d8, d9, d10] ++ R1) := by
  obtain ⟨h1, h2⟩ := va_joinP (X := [c0, c1, c2, c3, c4, c5, c6, c7, c8, c9, c10, c11]) (cx := [c1, c2, c3, c4, c5, c6, c7, c8, c9, c10, c11]) (wr := [c0]) (rx := [d0, d1, d2, d3, d4, d5, d6, d7, d8, d9, d10]) hP hD [1, 2, 3, 4, 5, 6, 7, 8, 9, 10, 11] [0] rfl rfl (by decide +kernel) (by decide +kernel) hk hF hP1 hD1
  exact ⟨va_P.part (X := [c0, d0, d1, d2, d3, d4, d5, d6, d7, d8, d9, d10]) (cx := [c0, d0, d1, d2, d3, d4, d5, d6, d7, d8, d9, d10]) h1 [0, 1, 2, 3, 4, 5, 6, 7, 8, 9, 10, 11] rfl, va_D.part (X := [c0, d0, d1, d2, d3, d4, d5, d6, d7, d8, d9, d10]) (cx := [c0, d0, d1, d2, d3, d4, d5, d6, d7, d8, d9, d10]) h2 [0, 1, 2, 3, 4, 5, 6, 7, 8, 9, 10, 11] (by decide +kernel) rfl⟩
theorem rgS12_a4675f8 {A : Nat → Prop} {D : va_G} {cl : List vw_C} {H : Heap} {c0 c1 c2 c3 c4 c5 c6 c7 c8 c9 c10 c11 : Nat × va_E} {R : va_W} {d e : Nat × va_E} (hP : va_P D cl (([c0, c1, c2, c3, c4, c5, c6, c7, c8, c9, c10, c11] ++ R).set 0 d) H) (hD : va_D A (([c0, c1, c2, c3, c4, c5, c6, c7, c8, c9, c10, c11] ++ R).set 0 d)) (h : d = e) : va_P D cl ([e, c1, c2, c3, c4, c5, c6, c7, c8, c9, c10, c11] ++ R) H ∧ va_D A ([e, c1, c2, c3, c4, c5, c6, c7, c8, c9, c10, c11] ++ R) := by subst h; exact ⟨hP, hD⟩
set_option maxHeartbeats 4000000 in
set_option maxRecDepth 100000 in
theorem k_X8_isDayOrLate (l : Launch) (dC : Nat → ClassId) (dI : Nat → Nat → Nat) (g : Gv) (a0 : Int32)  : Met l yX8_isDayOrLate (.code yX8_isDayOrLate cX8_isDayOrLate 1 (some .boolean) :: TBL) ({ frames := 0, cells := 0, slots := 0, locals := 0 }) (va_Pc [.int a0] (fun U => va_P (dC, dI) vwCl [] U.heap ∧ va_K (dC, dI) vwCl [] U ∧ Ev g (fun _ => False) U)) (vp_Si (fun (r : Int32) => (r = 0 ∨ r = 1))) 0 0 (fun _ => False) := by
  refine Met.ofW (cc := cX8_isDayOrLate) (maxL := 1) (ret := (some .boolean)) (by decide) rfl ?_
  intro p e s m args below meth c s₁ B hml hv
  obtain ⟨rfl, hP, hK, hE⟩ := hv
  have hx := B.exec
  have hb := B.bytes
  have hr := B.returns
  have hts0 := atoms_spec (ws := (.code yX8_isDayOrLate cX8_isDayOrLate 1 (some .boolean) :: TBL)) B.pre
  have hts := fun (w : Cond) (h : w ∈ TBL) => hts0 w (List.mem_cons_of_mem _ h)
  have hown : s.vm.findClass RX8 = some m.cls := findClass_of_methodNamed B.named
  have hlocks := B.notSynchronized
  have hN := hE.1
  have hS : va_S (fun _ => False) s.heap s.heap [] := va_S.rf
  replace hP : va_P (dC, dI) vwCl [] s.heap := hP
  have hl := lv_entry ([.int a0]) (n := 1) (Nat.le_of_ble_eq_true rfl)
  rw [lg_entry_eq]
  generalize (lg_sl ([.int a0]) ++ List.replicate (1 - (lg_sl ([.int a0])).length) Slot.unset).toArray = ls at hl ⊢
  have hl : lv_has ls 1 [(0, .int a0)] := hl
  have b_a0 := i32b a0
  refine lv_iload_n hx hb dX8_isDayOrLate_0 rfl (lv_at hl 0 rfl) ?_
  refine lv_if_lt (tgt := 15) hx hb dX8_isDayOrLate_1 (by decide) (fun c1_1 => ?_) (fun c1_1 => ?_)
  · have c1_1 : a0.toInt < 0 := (cv_lt rfl (by decide)).mp c1_1
    refine lv_iconst (v := 0) hx hb dX8_isDayOrLate_15 (by decide) ?_
    exact W.zret (v := 0) hx hb hr rfl (fun t ht hW => ⟨0, rfl, (by decide), ht⟩) (fun _ h => absurd h List.not_mem_nil) dX8_isDayOrLate_16
  · have c1_1 : ¬ (a0.toInt < 0) := mt (cv_lt rfl (by decide)).mpr c1_1
    refine lv_iload_n hx hb dX8_isDayOrLate_4 rfl (lv_at hl 0 rfl) ?_
    refine lv_ldcw (v := 219145) hx hb hown (hts (.constant RX8 279 (219145)) qw_242) dX8_isDayOrLate_5 ?_
    refine lv_icmp_gt (tgt := 15) hx hb dX8_isDayOrLate_8 (by decide) (fun c8_2 => ?_) (fun c8_2 => ?_)
    · have c8_2 : 219145 < a0.toInt := (cv_lt (by decide) rfl).mp c8_2
      refine lv_iconst (v := 0) hx hb dX8_isDayOrLate_15 (by decide) ?_
      exact W.zret (v := 0) hx hb hr rfl (fun t ht hW => ⟨0, rfl, (by decide), ht⟩) (fun _ h => absurd h List.not_mem_nil) dX8_isDayOrLate_16
    · have c8_2 : ¬ (219145 < a0.toInt) := mt (cv_lt (by decide) rfl).mpr c8_2
      refine lv_iconst (v := 1) hx hb dX8_isDayOrLate_11 (by decide) ?_
      refine lv_goto (tgt := 16) hx hb dX8_isDayOrLate_12 (by decide) ?_
      exact W.zret (v := 1) hx hb hr rfl (fun t ht hW => ⟨1, rfl, (by decide), ht⟩) (fun _ h => absurd h List.not_mem_nil) dX8_isDayOrLate_16
set_option maxHeartbeats 4000000 in
set_option maxRecDepth 100000 in
theorem k_X8_areReaders (l : Launch) (dC : Nat → ClassId) (dI : Nat → Nat → Nat) (g : Gv) (a0 : Int32)  : Met l yX8_areReaders (.code yX8_areReaders cX8_areReaders 1 (some .boolean) :: TBL) ({ frames := 0, cells := 0, slots := 0, locals := 0 }) (va_Pc [.int a0] (fun U => va_P (dC, dI) vwCl [] U.heap ∧ va_K (dC, dI) vwCl [] U ∧ Ev g (fun _ => False) U)) (vp_Si (fun (r : Int32) => (r = 0 ∨ r = 1))) 0 0 (fun _ => False) := by
  refine Met.ofW (cc := cX8_areReaders) (maxL := 1) (ret := (some .boolean)) (by decide) rfl ?_
  intro p e s m args below meth c s₁ B hml hv
  obtain ⟨rfl, hP, hK, hE⟩ := hv
  have hx := B.exec
  have hb := B.bytes
  have hr := B.returns
  have hts0 := atoms_spec (ws := (.code yX8_areReaders cX8_areReaders 1 (some .boolean) :: TBL)) B.pre
  have hts := fun (w : Cond) (h : w ∈ TBL) => hts0 w (List.mem_cons_of_mem _ h)
  have hown : s.vm.findClass RX8 = some m.cls := findClass_of_methodNamed B.named
  have hlocks := B.notSynchronized
  have hN := hE.1
  have hS : va_S (fun _ => False) s.heap s.heap [] := va_S.rf
  replace hP : va_P (dC, dI) vwCl [] s.heap := hP
  have hl := lv_entry ([.int a0]) (n := 1) (Nat.le_of_ble_eq_true rfl)
  rw [lg_entry_eq]
  generalize (lg_sl ([.int a0]) ++ List.replicate (1 - (lg_sl ([.int a0])).length) Slot.unset).toArray = ls at hl ⊢
  have hl : lv_has ls 1 [(0, .int a0)] := hl
  have b_a0 := i32b a0
  refine lv_iload_n hx hb dX8_areReaders_0 rfl (lv_at hl 0 rfl) ?_
  refine lv_if_lt (tgt := 14) hx hb dX8_areReaders_1 (by decide) (fun c1_1 => ?_) (fun c1_1 => ?_)
  · have c1_1 : a0.toInt < 0 := (cv_lt rfl (by decide)).mp c1_1
    refine lv_iconst (v := 0) hx hb dX8_areReaders_14 (by decide) ?_
    exact W.zret (v := 0) hx hb hr rfl (fun t ht hW => ⟨0, rfl, (by decide), ht⟩) (fun _ h => absurd h List.not_mem_nil) dX8_areReaders_15
  · have c1_1 : ¬ (a0.toInt < 0) := mt (cv_lt rfl (by decide)).mpr c1_1
    refine lv_iload_n hx hb dX8_areReaders_4 rfl (lv_at hl 0 rfl) ?_
    refine lv_bipush (v := 15) hx hb dX8_areReaders_5 (by decide) ?_
    refine lv_icmp_gt (tgt := 14) hx hb dX8_areReaders_7 (by decide) (fun c7_2 => ?_) (fun c7_2 => ?_)
    · have c7_2 : 15 < a0.toInt := (cv_lt (by decide) rfl).mp c7_2
      refine lv_iconst (v := 0) hx hb dX8_areReaders_14 (by decide) ?_
      exact W.zret (v := 0) hx hb hr rfl (fun t ht hW => ⟨0, rfl, (by decide), ht⟩) (fun _ h => absurd h List.not_mem_nil) dX8_areReaders_15
    · have c7_2 : ¬ (15 < a0.toInt) := mt (cv_lt (by decide) rfl).mpr c7_2
      refine lv_iconst (v := 1) hx hb dX8_areReaders_10 (by decide) ?_
      refine lv_goto (tgt := 15) hx hb dX8_areReaders_11 (by decide) ?_
      exact W.zret (v := 1) hx hb hr rfl (fun t ht hW => ⟨1, rfl, (by decide), ht⟩) (fun _ h => absurd h List.not_mem_nil) dX8_areReaders_15
set_option maxHeartbeats 4000000 in
set_option maxRecDepth 100000 in
theorem k_X8_feed (l : Launch) (dC : Nat → ClassId) (dI : Nat → Nat → Nat) (g : Gv) (sz : Nat) (a0 : Nat) (a1 : Int32) (a2 : Int32) (a3 : Int32) (a4 : Int32) (a5 : Int32) (a0_0 : Nat) (a0_1 : Nat) (a0_2 : Nat) (a0_3 : Nat) (a0_4 : Nat) (a0_5 : Nat) (a0_6 : Nat) (a0_7 : Nat) (a0_8 : Nat) (a0_9 : Nat) (a0_10 : Int32) (a0_0_0 : Nat) (a0_0_1 : Int32) (a0_0_0_c : ClassId) (a0_0_0_f : Nat → Int32) (h_a0_0_1 : 0 ≤ a0_0_1.toInt ∧ a0_0_1.toInt ≤ 1000) : Met l yX8_feed (.code yX8_feed cX8_feed 6 (some .int) :: TBL) ({ frames := 1, cells := 0, slots := 0, locals := 22 }) (va_Pc [.ref a0, .int a1, .int a2, .int a3, .int a4, .int a5] (fun U => U.heap.size = sz ∧ va_P (dC, dI) vwCl [(a0, .inr (7, [.ref a0_0, .ref a0_1, .ref a0_2, .ref a0_3, .ref a0_4, .ref a0_5, .ref a0_6, .ref a0_7, .ref a0_8, .ref a0_9, .int a0_10])), (a0_0, .inr (3, [.ref a0_0_0, .int a0_0_1])), (a0_0_0, .inl (a0_0_0_c, 1000, .inl a0_0_0_f))] U.heap ∧ va_K (dC, dI) vwCl [(a0_0_0_c, .byte)] U ∧ va_D (fun _ => True) [(a0, .inr (7, [.ref a0_0, .ref a0_1, .ref a0_2, .ref a0_3, .ref a0_4, .ref a0_5, .ref a0_6, .ref a0_7, .ref a0_8, .ref a0_9, .int a0_10])), (a0_0, .inr (3, [.ref a0_0_0, .int a0_0_1])), (a0_0_0, .inl (a0_0_0_c, 1000, .inl a0_0_0_f))] ∧ Ev g (va_A [(a0, .inr (7, [.ref a0_0, .ref a0_1, .ref a0_2, .ref a0_3, .ref a0_4, .ref a0_5, .ref a0_6, .ref a0_7, .ref a0_8, .ref a0_9, .int a0_10])), (a0_0, .inr (3, [.ref a0_0_0, .int a0_0_1])), (a0_0_0, .inl (a0_0_0_c, 1000, .inl a0_0_0_f))] sz) U)) (va_Qi (fun (r : Int32) (u : Int32) => u = r) (fun (u : Int32) (t : State) => ∃ (za0_0_1 : Int32) (za0_0_0_f : Nat → Int32), (0 ≤ za0_0_1.toInt ∧ za0_0_1.toInt ≤ 1000) ∧ (FE a0_0_1 u za0_0_1) ∧ va_P (dC, dI) vwCl [(a0, .inr (7, [.ref a0_0, .ref a0_1, .ref a0_2, .ref a0_3, .ref a0_4, .ref a0_5, .ref a0_6, .ref a0_7, .ref a0_8, .ref a0_9, .int a0_10])), (a0_0, .inr (3, [.ref a0_0_0, .int za0_0_1])), (a0_0_0, .inl (a0_0_0_c, 1000, .inl za0_0_0_f))] t.heap ∧ va_K (dC, dI) vwCl [] t ∧ va_D (va_A [(a0, .inr (7, [.ref a0_0, .ref a0_1, .ref a0_2, .ref a0_3, .ref a0_4, .ref a0_5, .ref a0_6, .ref a0_7, .ref a0_8, .ref a0_9, .int a0_10])), (a0_0, .inr (3, [.ref a0_0_0, .int a0_0_1])), (a0_0_0, .inl (a0_0_0_c, 1000, .inl a0_0_0_f))] sz) [(a0, .inr (7, [.ref a0_0, .ref a0_1, .ref a0_2, .ref a0_3, .ref a0_4, .ref a0_5, .ref a0_6, .ref a0_7, .ref a0_8, .ref a0_9, .int a0_10])), (a0_0, .inr (3, [.ref a0_0_0, .int za0_0_1])), (a0_0_0, .inl (a0_0_0_c, 1000, .inl za0_0_0_f))]) (va_A [(a0, .inr (7, [.ref a0_0, .ref a0_1, .ref a0_2, .ref a0_3, .ref a0_4, .ref a0_5, .ref a0_6, .ref a0_7, .ref a0_8, .ref a0_9, .int a0_10])), (a0_0, .inr (3, [.ref a0_0_0, .int a0_0_1])), (a0_0_0, .inl (a0_0_0_c, 1000, .inl a0_0_0_f))] sz)) 0 0 (va_A [(a0, .inr (7, [.ref a0_0, .ref a0_1, .ref a0_2, .ref a0_3, .ref a0_4, .ref a0_5, .ref a0_6, .ref a0_7, .ref a0_8, .ref a0_9, .int a0_10])), (a0_0, .inr (3, [.ref a0_0_0, .int a0_0_1])), (a0_0_0, .inl (a0_0_0_c, 1000, .inl a0_0_0_f))] sz) := by
  refine Met.ofW (cc := cX8_feed) (maxL := 6) (ret := (some .int)) (by decide) rfl ?_
  intro p e s m args below meth c s₁ B hml hv
  obtain ⟨rfl, hsz, hP, hK, hD0, hE⟩ := hv
  have hx := B.exec
  have hb := B.bytes
  have hr := B.returns
  have hts0 := atoms_spec (ws := (.code yX8_feed cX8_feed 6 (some .int) :: TBL)) B.pre
  have hts := fun (w : Cond) (h : w ∈ TBL) => hts0 w (List.mem_cons_of_mem _ h)
  have hown : s.vm.findClass RX8 = some m.cls := findClass_of_methodNamed B.named
  have hlocks := B.notSynchronized
  have hN := hE.1
  subst hsz
  have hD := hD0.self (sz := s.heap.size)
  generalize hAe : va_A [(a0, .inr (7, [.ref a0_0, .ref a0_1, .ref a0_2, .ref a0_3, .ref a0_4, .ref a0_5, .ref a0_6, .ref a0_7, .ref a0_8, .ref a0_9, .int a0_10])), (a0_0, .inr (3, [.ref a0_0_0, .int a0_0_1])), (a0_0_0, .inl (a0_0_0_c, 1000, .inl a0_0_0_f))] s.heap.size = A at hD hE ⊢
  have hA : ∀ q : Nat, s.heap.size ≤ q → A q := fun q h => by rw [← hAe]; exact Or.inr h
  have hS : va_S A s.heap s.heap [] := va_S.rf
  replace hP : va_P (dC, dI) vwCl [(a0, .inr (7, [.ref a0_0, .ref a0_1, .ref a0_2, .ref a0_3, .ref a0_4, .ref a0_5, .ref a0_6, .ref a0_7, .ref a0_8, .ref a0_9, .int a0_10])), (a0_0, .inr (3, [.ref a0_0_0, .int a0_0_1])), (a0_0_0, .inl (a0_0_0_c, 1000, .inl a0_0_0_f))] s.heap := hP
  have hl := lv_entry ([.ref a0, .int a1, .int a2, .int a3, .int a4, .int a5]) (n := 6) (Nat.le_of_ble_eq_true rfl)
  rw [lg_entry_eq]
  generalize (lg_sl ([.ref a0, .int a1, .int a2, .int a3, .int a4, .int a5]) ++ List.replicate (6 - (lg_sl ([.ref a0, .int a1, .int a2, .int a3, .int a4, .int a5])).length) Slot.unset).toArray = ls at hl ⊢
  have hl : lv_has ls 6 [(0, .ref a0), (1, .int a1), (2, .int a2), (3, .int a3), (4, .int a4), (5, .int a5)] := hl
  have b_a1 := i32b a1
  have b_a2 := i32b a2
  have b_a3 := i32b a3
  have b_a4 := i32b a4
  have b_a5 := i32b a5
  have b_a0_10 := i32b a0_10
  refine lv_aload_n hx hb dX8_feed_0 rfl (lv_at hl 0 rfl) ?_
  refine va_get (D := (dC, dI)) (ci := 7) (v := .ref a0_0) (C := RX8) (T := TX8) (N := 11) hx hb hts inlX8 hown hK hP 0 rgL3_619f1f5 rfl 0 (by decide) (hts (.fieldLink RX8 10 "ClosedUntil" "tape" "LClosedUntil$Tape;") qw_243) (fun _ h9 => h9) rfl dX8_feed_1 ?_
  have hPc := (rgP3_1c795e4 hP)
  have hKc := hK
  refine vp_callSi ((va_runVN (As := []) (rest := []) ⟨hx, hb, hml, hown, hts⟩ (k_X4_hasRoom l dC dI g (a0_0) (a0_0_0) (a0_0_1) (a0_0_0_c) (a0_0_0_f) (by omega)) ⟨va_cnB 0 hts (gwC qw_244) rfl rfl rfl (nm_7 hN) (hts (.initialized RX4) qw_245) (by decide +kernel) ⟨Nat.le_of_ble_eq_true rfl, Nat.le_of_ble_eq_true rfl⟩, (hts (.instanceMethod yX4_hasRoom) qw_246), (hts (.selects RX4 yX4_hasRoom yX4_hasRoom) qw_247)⟩ ⟨fun a U g9 mk q => ⟨q.1, q.2.1, va_K.moved (u := U) (U := U.calling g9 mk a) (Vm.Alike.refl U.vm) q.2.2.1, Ev.bl q.2.2.2⟩, va_recv hK hP (ci := 3) (q0 := 1) rfl rgL3_6f2f016, fun U hU hW => ⟨rfl, atB hU hPc, va_K.moved hW.alike hKc, hE.go hS (fun _ h => h.elim) hU hW⟩⟩ rfl rfl hl.1 rfl (lv_room (Nat.le_of_ble_eq_true rfl)) dX8_feed_4 ⟨Nat.le_of_ble_eq_true rfl, Nat.le_of_ble_eq_true rfl⟩)).run (fun r1 h_r1 => ?_)
  have h_r1 : (r1 = 0 ∨ r1 = 1) ∧ ((r1.toInt = 1 → a0_0_1.toInt ≤ 980) ∧ (r1.toInt = 0 → 980 < a0_0_1.toInt)) := h_r1
  have b_r1 := z01 (show r1 = 0 ∨ r1 = 1 from h_r1.1)
  have hrm := h_r1.2
  refine lv_if_ne (tgt := 12) hx hb dX8_feed_7 (by decide) (fun c7_2 => ?_) (fun c7_2 => ?_)
  · have c7_2 : ¬ (r1.toInt = 0) := mt (cv_eq rfl (by decide)).mpr c7_2
    refine lv_aload_n hx hb dX8_feed_12 rfl (lv_at hl 0 rfl) ?_
    refine va_get (D := (dC, dI)) (ci := 7) (v := .ref a0_0) (C := RX8) (T := TX8) (N := 11) hx hb hts inlX8 hown hK hP 0 rgL3_619f1f5 rfl 0 (by decide) (hts (.fieldLink RX8 10 "ClosedUntil" "tape" "LClosedUntil$Tape;") qw_243) (fun _ h9 => h9) rfl dX8_feed_13 ?_
    refine lv_iload_n hx hb dX8_feed_16 rfl (lv_at hl 1 rfl) ?_
    have hPc := (rgP3_1c795e4 hP)
    have hKc := hK
    have hDc := (rgD3_48984d5 hD)
    have hFc := freeW hDc hS hA
    refine va_callv (va_runVN (As := [.int a1]) (rest := []) ⟨hx, hb, hml, hown, hts⟩ (k_X4_append l dC dI g s.heap.size (a0_0) (a1) (a0_0_0) (a0_0_1) (a0_0_0_c) (a0_0_0_f) (by omega)) ⟨va_cnB 1 hts (gwC qw_248) rfl rfl rfl (nm_8 hN) (hts (.initialized RX4) qw_245) (by decide +kernel) ⟨Nat.le_of_ble_eq_true rfl, Nat.le_of_ble_eq_true rfl⟩, (hts (.instanceMethod yX4_append) qw_249), (hts (.selects RX4 yX4_append yX4_append) qw_250)⟩ ⟨fun a U g9 mk q => ⟨q.1, q.2.1, q.2.2.1, va_K.moved (u := U) (U := U.calling g9 mk a) (Vm.Alike.refl U.vm) q.2.2.2.1, q.2.2.2.2.1, Ev.bl q.2.2.2.2.2⟩, va_recv hK hP (ci := 3) (q0 := 1) rfl rgL3_6f2f016, fun U hU hW => ⟨rfl, by rw [hU], atB hU hPc, va_K.moved hW.alike hKc, hDc.weaken (fun _ _ _ _ => trivial), hE.go hS hFc hU hW⟩⟩ rfl rfl hl.1 rfl (lv_room (Nat.le_of_ble_eq_true rfl)) dX8_feed_17 ⟨Nat.le_of_ble_eq_true rfl, Nat.le_of_ble_eq_true rfl⟩) hS (fun q _ h => hFc q h) hFc (fun u3 t H1 locs ht hvm h_u3 hB hz1 hk1 hS => ?_)
    obtain ⟨za0_1_5, za0_0_f_6, hF7, hF8, hP1, hK1, hD1⟩ := hB
    have hK1 := va_K.moved hvm.symm hK1
    have hJ9 := rgJ3_fb28b63 hP hD hk1 hFc (atH ht hP1) hD1
    clear hP hD hPc hKc hDc hFc hP1 hD1 hk1 hz1
    obtain ⟨hP, hD⟩ := hJ9
    clear hK1
    generalize H1 = H at hP hS ⊢
    refine W.widen (k := 0) (n := 0) (Nat.le_of_ble_eq_true rfl) (Nat.le_of_ble_eq_true rfl) ?_
    refine lv_aload_n hx hb dX8_feed_20 rfl (lv_at hl 0 rfl) ?_
    refine va_get (D := (dC, dI)) (ci := 7) (v := .ref a0_0) (C := RX8) (T := TX8) (N := 11) hx hb hts inlX8 hown hK hP 0 rgL3_619f1f5 rfl 0 (by decide) (hts (.fieldLink RX8 10 "ClosedUntil" "tape" "LClosedUntil$Tape;") qw_243) (fun _ h9 => h9) rfl dX8_feed_21 ?_
    refine lv_iload_n hx hb dX8_feed_24 rfl (lv_at hl 2 rfl) ?_
    have hPc := (rgP3_1c795e4 hP)
    have hKc := hK
    have hDc := (rgD3_48984d5 hD)
    have hFc := freeW hDc hS hA
    refine va_callv (va_runVN (As := [.int a2]) (rest := []) ⟨hx, hb, hml, hown, hts⟩ (k_X4_append l dC dI g H.size (a0_0) (a2) (a0_0_0) (za0_1_5) (a0_0_0_c) (za0_0_f_6) (by omega)) ⟨va_cnB 1 hts (gwC qw_248) rfl rfl rfl (nm_8 hN) (hts (.initialized RX4) qw_245) (by decide +kernel) ⟨Nat.le_of_ble_eq_true rfl, Nat.le_of_ble_eq_true rfl⟩, (hts (.instanceMethod yX4_append) qw_249), (hts (.selects RX4 yX4_append yX4_append) qw_250)⟩ ⟨fun a U g9 mk q => ⟨q.1, q.2.1, q.2.2.1, va_K.moved (u := U) (U := U.calling g9 mk a) (Vm.Alike.refl U.vm) q.2.2.2.1, q.2.2.2.2.1, Ev.bl q.2.2.2.2.2⟩, va_recv hK hP (ci := 3) (q0 := 1) rfl rgL3_6f2f016, fun U hU hW => ⟨rfl, by rw [hU], atB hU hPc, va_K.moved hW.alike hKc, hDc.weaken (fun _ _ _ _ => trivial), hE.go hS hFc hU hW⟩⟩ rfl rfl hl.1 rfl (lv_room (Nat.le_of_ble_eq_true rfl)) dX8_feed_25 ⟨Nat.le_of_ble_eq_true rfl, Nat.le_of_ble_eq_true rfl⟩) hS (fun q _ h => hFc q h) hFc (fun u9 t H1 locs ht hvm h_u9 hB hz1 hk1 hS => ?_)
    obtain ⟨za0_1_11, za0_0_f_12, hF13, hF14, hP1, hK1, hD1⟩ := hB
    have hK1 := va_K.moved hvm.symm hK1
    have hJ9 := rgJ3_fb28b63 hP hD hk1 hFc (atH ht hP1) hD1
    clear hP hD hPc hKc hDc hFc hP1 hD1 hk1 hz1
    obtain ⟨hP, hD⟩ := hJ9
    clear hK1
    generalize H1 = H at hP hS ⊢
    refine W.widen (k := 0) (n := 0) (Nat.le_of_ble_eq_true rfl) (Nat.le_of_ble_eq_true rfl) ?_
    refine lv_aload_n hx hb dX8_feed_28 rfl (lv_at hl 0 rfl) ?_
    refine va_get (D := (dC, dI)) (ci := 7) (v := .ref a0_0) (C := RX8) (T := TX8) (N := 11) hx hb hts inlX8 hown hK hP 0 rgL3_619f1f5 rfl 0 (by decide) (hts (.fieldLink RX8 10 "ClosedUntil" "tape" "LClosedUntil$Tape;") qw_243) (fun _ h9 => h9) rfl dX8_feed_29 ?_
    refine lv_iload_n hx hb dX8_feed_32 rfl (lv_at hl 3 rfl) ?_
    have hPc := (rgP3_1c795e4 hP)
    have hKc := hK
    have hDc := (rgD3_48984d5 hD)
    have hFc := freeW hDc hS hA
    refine va_callv (va_runVN (As := [.int a3]) (rest := []) ⟨hx, hb, hml, hown, hts⟩ (k_X4_append l dC dI g H.size (a0_0) (a3) (a0_0_0) (za0_1_11) (a0_0_0_c) (za0_0_f_12) (by omega)) ⟨va_cnB 1 hts (gwC qw_248) rfl rfl rfl (nm_8 hN) (hts (.initialized RX4) qw_245) (by decide +kernel) ⟨Nat.le_of_ble_eq_true rfl, Nat.le_of_ble_eq_true rfl⟩, (hts (.instanceMethod yX4_append) qw_249), (hts (.selects RX4 yX4_append yX4_append) qw_250)⟩ ⟨fun a U g9 mk q => ⟨q.1, q.2.1, q.2.2.1, va_K.moved (u := U) (U := U.calling g9 mk a) (Vm.Alike.refl U.vm) q.2.2.2.1, q.2.2.2.2.1, Ev.bl q.2.2.2.2.2⟩, va_recv hK hP (ci := 3) (q0 := 1) rfl rgL3_6f2f016, fun U hU hW => ⟨rfl, by rw [hU], atB hU hPc, va_K.moved hW.alike hKc, hDc.weaken (fun _ _ _ _ => trivial), hE.go hS hFc hU hW⟩⟩ rfl rfl hl.1 rfl (lv_room (Nat.le_of_ble_eq_true rfl)) dX8_feed_33 ⟨Nat.le_of_ble_eq_true rfl, Nat.le_of_ble_eq_true rfl⟩) hS (fun q _ h => hFc q h) hFc (fun u15 t H1 locs ht hvm h_u15 hB hz1 hk1 hS => ?_)
    obtain ⟨za0_1_17, za0_0_f_18, hF19, hF20, hP1, hK1, hD1⟩ := hB
    have hK1 := va_K.moved hvm.symm hK1
    have hJ9 := rgJ3_fb28b63 hP hD hk1 hFc (atH ht hP1) hD1
    clear hP hD hPc hKc hDc hFc hP1 hD1 hk1 hz1
    obtain ⟨hP, hD⟩ := hJ9
    clear hK1
    generalize H1 = H at hP hS ⊢
    refine W.widen (k := 0) (n := 0) (Nat.le_of_ble_eq_true rfl) (Nat.le_of_ble_eq_true rfl) ?_
    refine lv_aload_n hx hb dX8_feed_36 rfl (lv_at hl 0 rfl) ?_
    refine va_get (D := (dC, dI)) (ci := 7) (v := .ref a0_0) (C := RX8) (T := TX8) (N := 11) hx hb hts inlX8 hown hK hP 0 rgL3_619f1f5 rfl 0 (by decide) (hts (.fieldLink RX8 10 "ClosedUntil" "tape" "LClosedUntil$Tape;") qw_243) (fun _ h9 => h9) rfl dX8_feed_37 ?_
    refine lv_iload hx hb dX8_feed_40 (lv_at hl 4 rfl) ?_
    have hPc := (rgP3_1c795e4 hP)
    have hKc := hK
    have hDc := (rgD3_48984d5 hD)
    have hFc := freeW hDc hS hA
    refine va_callv (va_runVN (As := [.int a4]) (rest := []) ⟨hx, hb, hml, hown, hts⟩ (k_X4_append l dC dI g H.size (a0_0) (a4) (a0_0_0) (za0_1_17) (a0_0_0_c) (za0_0_f_18) (by omega)) ⟨va_cnB 1 hts (gwC qw_248) rfl rfl rfl (nm_8 hN) (hts (.initialized RX4) qw_245) (by decide +kernel) ⟨Nat.le_of_ble_eq_true rfl, Nat.le_of_ble_eq_true rfl⟩, (hts (.instanceMethod yX4_append) qw_249), (hts (.selects RX4 yX4_append yX4_append) qw_250)⟩ ⟨fun a U g9 mk q => ⟨q.1, q.2.1, q.2.2.1, va_K.moved (u := U) (U := U.calling g9 mk a) (Vm.Alike.refl U.vm) q.2.2.2.1, q.2.2.2.2.1, Ev.bl q.2.2.2.2.2⟩, va_recv hK hP (ci := 3) (q0 := 1) rfl rgL3_6f2f016, fun U hU hW => ⟨rfl, by rw [hU], atB hU hPc, va_K.moved hW.alike hKc, hDc.weaken (fun _ _ _ _ => trivial), hE.go hS hFc hU hW⟩⟩ rfl rfl hl.1 rfl (lv_room (Nat.le_of_ble_eq_true rfl)) dX8_feed_42 ⟨Nat.le_of_ble_eq_true rfl, Nat.le_of_ble_eq_true rfl⟩) hS (fun q _ h => hFc q h) hFc (fun u21 t H1 locs ht hvm h_u21 hB hz1 hk1 hS => ?_)
    obtain ⟨za0_1_23, za0_0_f_24, hF25, hF26, hP1, hK1, hD1⟩ := hB
    have hK1 := va_K.moved hvm.symm hK1
    have hJ9 := rgJ3_fb28b63 hP hD hk1 hFc (atH ht hP1) hD1
    clear hP hD hPc hKc hDc hFc hP1 hD1 hk1 hz1
    obtain ⟨hP, hD⟩ := hJ9
    clear hK1
    generalize H1 = H at hP hS ⊢
    refine W.widen (k := 0) (n := 0) (Nat.le_of_ble_eq_true rfl) (Nat.le_of_ble_eq_true rfl) ?_
    refine lv_aload_n hx hb dX8_feed_45 rfl (lv_at hl 0 rfl) ?_
    refine va_get (D := (dC, dI)) (ci := 7) (v := .ref a0_0) (C := RX8) (T := TX8) (N := 11) hx hb hts inlX8 hown hK hP 0 rgL3_619f1f5 rfl 0 (by decide) (hts (.fieldLink RX8 10 "ClosedUntil" "tape" "LClosedUntil$Tape;") qw_243) (fun _ h9 => h9) rfl dX8_feed_46 ?_
    refine lv_iload hx hb dX8_feed_49 (lv_at hl 5 rfl) ?_
    have hPc := (rgP3_1c795e4 hP)
    have hKc := hK
    have hDc := (rgD3_48984d5 hD)
    have hFc := freeW hDc hS hA
    refine va_callv (va_runVN (As := [.int a5]) (rest := []) ⟨hx, hb, hml, hown, hts⟩ (k_X4_append l dC dI g H.size (a0_0) (a5) (a0_0_0) (za0_1_23) (a0_0_0_c) (za0_0_f_24) (by omega)) ⟨va_cnB 1 hts (gwC qw_248) rfl rfl rfl (nm_8 hN) (hts (.initialized RX4) qw_245) (by decide +kernel) ⟨Nat.le_of_ble_eq_true rfl, Nat.le_of_ble_eq_true rfl⟩, (hts (.instanceMethod yX4_append) qw_249), (hts (.selects RX4 yX4_append yX4_append) qw_250)⟩ ⟨fun a U g9 mk q => ⟨q.1, q.2.1, q.2.2.1, va_K.moved (u := U) (U := U.calling g9 mk a) (Vm.Alike.refl U.vm) q.2.2.2.1, q.2.2.2.2.1, Ev.bl q.2.2.2.2.2⟩, va_recv hK hP (ci := 3) (q0 := 1) rfl rgL3_6f2f016, fun U hU hW => ⟨rfl, by rw [hU], atB hU hPc, va_K.moved hW.alike hKc, hDc.weaken (fun _ _ _ _ => trivial), hE.go hS hFc hU hW⟩⟩ rfl rfl hl.1 rfl (lv_room (Nat.le_of_ble_eq_true rfl)) dX8_feed_51 ⟨Nat.le_of_ble_eq_true rfl, Nat.le_of_ble_eq_true rfl⟩) hS (fun q _ h => hFc q h) hFc (fun u27 t H1 locs ht hvm h_u27 hB hz1 hk1 hS => ?_)
    obtain ⟨za0_1_29, za0_0_f_30, hF31, hF32, hP1, hK1, hD1⟩ := hB
    have hK1 := va_K.moved hvm.symm hK1
    have hJ9 := rgJ3_fb28b63 hP hD hk1 hFc (atH ht hP1) hD1
    clear hP hD hPc hKc hDc hFc hP1 hD1 hk1 hz1
    obtain ⟨hP, hD⟩ := hJ9
    clear hK1
    generalize H1 = H at hP hS ⊢
    refine W.widen (k := 0) (n := 0) (Nat.le_of_ble_eq_true rfl) (Nat.le_of_ble_eq_true rfl) ?_
    refine lv_aload_n hx hb dX8_feed_54 rfl (lv_at hl 0 rfl) ?_
    refine va_get (D := (dC, dI)) (ci := 7) (v := .ref a0_0) (C := RX8) (T := TX8) (N := 11) hx hb hts inlX8 hown hK hP 0 rgL3_619f1f5 rfl 0 (by decide) (hts (.fieldLink RX8 10 "ClosedUntil" "tape" "LClosedUntil$Tape;") qw_243) (fun _ h9 => h9) rfl dX8_feed_55 ?_
    refine va_getN (D := (dC, dI)) (ci := 3) (v := .int za0_1_29) (C := RX4) (T := TX4) (N := 2) hx hb hts inlX4 hown hK hP 1 rgL3_6f2f016 rfl 1 (by decide) (va_Nw.use rfl (nf_1 hN)) (fun _ h9 => h9) rfl dX8_feed_58 ?_
    refine W.widen (k := 0) (n := 0) (Nat.le_of_ble_eq_true rfl) (Nat.le_of_ble_eq_true rfl) ?_
    have hP9 := hP
    have hD9 := hD
    have hK9 := (rgK1_f3b3254 hK)
    have hf9_0 : (0 ≤ za0_1_29.toInt ∧ za0_1_29.toInt ≤ 1000) := by omega
    have hf9_1 : (FE a0_0_1 za0_1_29 za0_1_29) := by unfold FE; omega
    exact W.iret (v := za0_1_29) hx hb hr (fun t ht hW => ⟨⟨za0_1_29, za0_1_29, rfl, rfl, za0_1_29, za0_0_f_30, hf9_0, hf9_1, atB ht hP9, va_K.moved hW.alike hK9, hD9⟩, hS.F ht⟩) hS.2.2 dX8_feed_61
  · have c7_2 : r1.toInt = 0 := (cv_eq rfl (by decide)).mp c7_2
    refine lv_iconst (v := (-1)) hx hb dX8_feed_10 (by decide) ?_
    have qcm1 : ((-1) : Int32).toInt = (-1) := by decide
    refine W.widen (k := 0) (n := 0) (Nat.le_of_ble_eq_true rfl) (Nat.le_of_ble_eq_true rfl) ?_
    have hP9 := hP
    have hD9 := hD
    have hK9 := (rgK1_f3b3254 hK)
    have hf9_0 : (0 ≤ a0_0_1.toInt ∧ a0_0_1.toInt ≤ 1000) := by omega
    have hf9_1 : (FE a0_0_1 ((-1) : Int32) a0_0_1) := by unfold FE; omega
    exact W.iret (v := (-1)) hx hb hr (fun t ht hW => ⟨⟨(-1), (-1), rfl, rfl, a0_0_1, a0_0_0_f, hf9_0, hf9_1, atB ht hP9, va_K.moved hW.alike hK9, hD9⟩, hS.F ht⟩) hS.2.2 dX8_feed_11
set_option maxHeartbeats 4000000 in
set_option maxRecDepth 100000 in
theorem k_X8_day (l : Launch) (dC : Nat → ClassId) (dI : Nat → Nat → Nat) (g : Gv) (a0 : Nat) (a1 : Int32) (a2 : Int32) (a3 : Int32)  : Met l yX8_day (.code yX8_day cX8_day 4 (some .int) :: TBL) ({ frames := 2, cells := 0, slots := 0, locals := 47 }) (va_Pc [.ref a0, .int a1, .int a2, .int a3] (fun U => va_P (dC, dI) vwCl [] U.heap ∧ va_K (dC, dI) vwCl [] U ∧ Ev g (fun _ => False) U)) (vp_Si (fun (r : Int32) => True)) 0 0 (fun _ => False) := by
  refine Met.ofW (cc := cX8_day) (maxL := 4) (ret := (some .int)) (by decide) rfl ?_
  intro p e s m args below meth c s₁ B hml hv
  obtain ⟨rfl, hP, hK, hE⟩ := hv
  have hx := B.exec
  have hb := B.bytes
  have hr := B.returns
  have hts0 := atoms_spec (ws := (.code yX8_day cX8_day 4 (some .int) :: TBL)) B.pre
  have hts := fun (w : Cond) (h : w ∈ TBL) => hts0 w (List.mem_cons_of_mem _ h)
  have hown : s.vm.findClass RX8 = some m.cls := findClass_of_methodNamed B.named
  have hlocks := B.notSynchronized
  have hN := hE.1
  have hS : va_S (fun _ => False) s.heap s.heap [] := va_S.rf
  replace hP : va_P (dC, dI) vwCl [] s.heap := hP
  have hl := lv_entry ([.ref a0, .int a1, .int a2, .int a3]) (n := 4) (Nat.le_of_ble_eq_true rfl)
  rw [lg_entry_eq]
  generalize (lg_sl ([.ref a0, .int a1, .int a2, .int a3]) ++ List.replicate (4 - (lg_sl ([.ref a0, .int a1, .int a2, .int a3])).length) Slot.unset).toArray = ls at hl ⊢
  have hl : lv_has ls 4 [(0, .ref a0), (1, .int a1), (2, .int a2), (3, .int a3)] := hl
  have b_a1 := i32b a1
  have b_a2 := i32b a2
  have b_a3 := i32b a3
  refine lv_iload_n hx hb dX8_day_0 rfl (lv_at hl 1 rfl) ?_
  refine lv_iload_n hx hb dX8_day_1 rfl (lv_at hl 2 rfl) ?_
  refine lv_iload_n hx hb dX8_day_2 rfl (lv_at hl 3 rfl) ?_
  have hPc := hP
  have hKc := hK
  refine vp_callSi ((va_runSN (As := [.int a1, .int a2, .int a3]) (rest := []) ⟨hx, hb, hml, hown, hts⟩ (k_X0_numberOf l dC dI g (a1) (a2) (a3) ) ⟨va_cnB 3 hts (gwC qw_19) rfl rfl rfl (nm_18 hN) (hts (.initialized RX0) qw_3) (by decide +kernel) ⟨Nat.le_of_ble_eq_true rfl, Nat.le_of_ble_eq_true rfl⟩, (hts (.static yX0_numberOf) qw_21), trivial⟩ ⟨fun a U g9 mk q => ⟨q.1, q.2.1, va_K.moved (u := U) (U := U.calling g9 mk a) (Vm.Alike.refl U.vm) q.2.2.1, Ev.bl q.2.2.2⟩, fun U hU hW => ⟨rfl, atB hU hPc, va_K.moved hW.alike hKc, hE.go hS (fun _ h => h.elim) hU hW⟩⟩ rfl rfl hl.1 rfl (lv_room (Nat.le_of_ble_eq_true rfl)) dX8_day_3 ⟨Nat.le_of_ble_eq_true rfl, Nat.le_of_ble_eq_true rfl⟩)).run (fun r1 h_r1 => ?_)
  have b_r1 := i32b r1
  exact W.iret (v := r1) hx hb hr (fun t ht hW => ⟨r1, rfl, trivial, ht⟩) (fun _ h => absurd h List.not_mem_nil) dX8_day_6
set_option maxHeartbeats 4000000 in
set_option maxRecDepth 100000 in
theorem k_X8_date (l : Launch) (dC : Nat → ClassId) (dI : Nat → Nat → Nat) (g : Gv) (a0 : Nat) (a1 : Int32) (a2 : Int32)  : Met l yX8_date (.code yX8_date cX8_date 3 (some .int) :: TBL) ({ frames := 3, cells := 0, slots := 0, locals := 66 }) (va_Pc [.ref a0, .int a1, .int a2] (fun U => va_P (dC, dI) vwCl [] U.heap ∧ va_K (dC, dI) vwCl [] U ∧ Ev g (fun _ => False) U)) (vp_Si (fun (r : Int32) => True)) 0 0 (fun _ => False) := by
  refine Met.ofW (cc := cX8_date) (maxL := 3) (ret := (some .int)) (by decide) rfl ?_
  intro p e s m args below meth c s₁ B hml hv
  obtain ⟨rfl, hP, hK, hE⟩ := hv
  have hx := B.exec
  have hb := B.bytes
  have hr := B.returns
  have hts0 := atoms_spec (ws := (.code yX8_date cX8_date 3 (some .int) :: TBL)) B.pre
  have hts := fun (w : Cond) (h : w ∈ TBL) => hts0 w (List.mem_cons_of_mem _ h)
  have hown : s.vm.findClass RX8 = some m.cls := findClass_of_methodNamed B.named
  have hlocks := B.notSynchronized
  have hN := hE.1
  have hS : va_S (fun _ => False) s.heap s.heap [] := va_S.rf
  replace hP : va_P (dC, dI) vwCl [] s.heap := hP
  have hl := lv_entry ([.ref a0, .int a1, .int a2]) (n := 3) (Nat.le_of_ble_eq_true rfl)
  rw [lg_entry_eq]
  generalize (lg_sl ([.ref a0, .int a1, .int a2]) ++ List.replicate (3 - (lg_sl ([.ref a0, .int a1, .int a2])).length) Slot.unset).toArray = ls at hl ⊢
  have hl : lv_has ls 3 [(0, .ref a0), (1, .int a1), (2, .int a2)] := hl
  have b_a1 := i32b a1
  have b_a2 := i32b a2
  refine lv_iload_n hx hb dX8_date_0 rfl (lv_at hl 1 rfl) ?_
  have hPc := hP
  have hKc := hK
  refine vp_callSi ((va_runSN (As := [.int a1]) (rest := []) ⟨hx, hb, hml, hown, hts⟩ (k_X0_has l dC dI g (a1) ) ⟨va_cnB 1 hts (gwC qw_251) rfl rfl rfl (nm_19 hN) (hts (.initialized RX0) qw_3) (by decide +kernel) ⟨Nat.le_of_ble_eq_true rfl, Nat.le_of_ble_eq_true rfl⟩, (hts (.static yX0_has) qw_252), trivial⟩ ⟨fun a U g9 mk q => ⟨q.1, q.2.1, va_K.moved (u := U) (U := U.calling g9 mk a) (Vm.Alike.refl U.vm) q.2.2.1, Ev.bl q.2.2.2⟩, fun U hU hW => ⟨rfl, atB hU hPc, va_K.moved hW.alike hKc, hE.go hS (fun _ h => h.elim) hU hW⟩⟩ rfl rfl hl.1 rfl (lv_room (Nat.le_of_ble_eq_true rfl)) dX8_date_1 ⟨Nat.le_of_ble_eq_true rfl, Nat.le_of_ble_eq_true rfl⟩)).run (fun r1 h_r1 => ?_)
  have h_r1 : (r1 = 0 ∨ r1 = 1) := h_r1
  have b_r1 := z01 (show r1 = 0 ∨ r1 = 1 from h_r1)
  refine lv_if_ne (tgt := 9) hx hb dX8_date_4 (by decide) (fun c4_2 => ?_) (fun c4_2 => ?_)
  · have c4_2 : ¬ (r1.toInt = 0) := mt (cv_eq rfl (by decide)).mpr c4_2
    refine lv_iload_n hx hb dX8_date_9 rfl (lv_at hl 2 rfl) ?_
    rcases (show a2.toInt = 0 ∨ a2.toInt = 1 ∨ a2.toInt = 2 ∨ a2.toInt = 3 ∨ (a2.toInt < 0 ∨ 3 < a2.toInt) by omega) with hq3 | hq3 | hq3 | hq3 | hq3
    · refine lv_tableIn (off := 30) (tgt := 40) hx hb dX8_date_10 (by omega) (by omega) (by rw [hq3]; rfl) (by decide) ?_
      refine lv_iload_n hx hb dX8_date_40 rfl (lv_at hl 1 rfl) ?_
      have hPc := hP
      have hKc := hK
      refine vp_callSi ((va_runSN (As := [.int a1]) (rest := []) ⟨hx, hb, hml, hown, hts⟩ (k_X0_yearOf l dC dI g (a1) ) ⟨va_cnB 1 hts (gwC qw_9) rfl rfl rfl (nm_20 hN) (hts (.initialized RX0) qw_3) (by decide +kernel) ⟨Nat.le_of_ble_eq_true rfl, Nat.le_of_ble_eq_true rfl⟩, (hts (.static yX0_yearOf) qw_11), trivial⟩ ⟨fun a U g9 mk q => ⟨q.1, q.2.1, va_K.moved (u := U) (U := U.calling g9 mk a) (Vm.Alike.refl U.vm) q.2.2.1, Ev.bl q.2.2.2⟩, fun U hU hW => ⟨rfl, atB hU hPc, va_K.moved hW.alike hKc, hE.go hS (fun _ h => h.elim) hU hW⟩⟩ rfl rfl hl.1 rfl (lv_room (Nat.le_of_ble_eq_true rfl)) dX8_date_41 ⟨Nat.le_of_ble_eq_true rfl, Nat.le_of_ble_eq_true rfl⟩)).run (fun r4 h_r4 => ?_)
      have b_r4 := i32b r4
      exact W.iret (v := r4) hx hb hr (fun t ht hW => ⟨r4, rfl, trivial, ht⟩) (fun _ h => absurd h List.not_mem_nil) dX8_date_44
    · refine lv_tableIn (off := 35) (tgt := 45) hx hb dX8_date_10 (by omega) (by omega) (by rw [hq3]; rfl) (by decide) ?_
      refine lv_iload_n hx hb dX8_date_45 rfl (lv_at hl 1 rfl) ?_
      have hPc := hP
      have hKc := hK
      refine vp_callSi ((va_runSN (As := [.int a1]) (rest := []) ⟨hx, hb, hml, hown, hts⟩ (k_X0_monthOf l dC dI g (a1) ) ⟨va_cnB 1 hts (gwC qw_253) rfl rfl rfl (nm_21 hN) (hts (.initialized RX0) qw_3) (by decide +kernel) ⟨Nat.le_of_ble_eq_true rfl, Nat.le_of_ble_eq_true rfl⟩, (hts (.static yX0_monthOf) qw_254), trivial⟩ ⟨fun a U g9 mk q => ⟨q.1, q.2.1, va_K.moved (u := U) (U := U.calling g9 mk a) (Vm.Alike.refl U.vm) q.2.2.1, Ev.bl q.2.2.2⟩, fun U hU hW => ⟨rfl, atB hU hPc, va_K.moved hW.alike hKc, hE.go hS (fun _ h => h.elim) hU hW⟩⟩ rfl rfl hl.1 rfl (lv_room (Nat.le_of_ble_eq_true rfl)) dX8_date_46 ⟨Nat.le_of_ble_eq_true rfl, Nat.le_of_ble_eq_true rfl⟩)).run (fun r5 h_r5 => ?_)
      have b_r5 := i32b r5
      exact W.iret (v := r5) hx hb hr (fun t ht hW => ⟨r5, rfl, trivial, ht⟩) (fun _ h => absurd h List.not_mem_nil) dX8_date_49
    · refine lv_tableIn (off := 40) (tgt := 50) hx hb dX8_date_10 (by omega) (by omega) (by rw [hq3]; rfl) (by decide) ?_
      refine lv_iload_n hx hb dX8_date_50 rfl (lv_at hl 1 rfl) ?_
      have hPc := hP
      have hKc := hK
      refine vp_callSi ((va_runSN (As := [.int a1]) (rest := []) ⟨hx, hb, hml, hown, hts⟩ (k_X0_dayOfMonth l dC dI g (a1) ) ⟨va_cnB 1 hts (gwC qw_255) rfl rfl rfl (nm_22 hN) (hts (.initialized RX0) qw_3) (by decide +kernel) ⟨Nat.le_of_ble_eq_true rfl, Nat.le_of_ble_eq_true rfl⟩, (hts (.static yX0_dayOfMonth) qw_256), trivial⟩ ⟨fun a U g9 mk q => ⟨q.1, q.2.1, va_K.moved (u := U) (U := U.calling g9 mk a) (Vm.Alike.refl U.vm) q.2.2.1, Ev.bl q.2.2.2⟩, fun U hU hW => ⟨rfl, atB hU hPc, va_K.moved hW.alike hKc, hE.go hS (fun _ h => h.elim) hU hW⟩⟩ rfl rfl hl.1 rfl (lv_room (Nat.le_of_ble_eq_true rfl)) dX8_date_51 ⟨Nat.le_of_ble_eq_true rfl, Nat.le_of_ble_eq_true rfl⟩)).run (fun r6 h_r6 => ?_)
      have b_r6 := i32b r6
      exact W.iret (v := r6) hx hb hr (fun t ht hW => ⟨r6, rfl, trivial, ht⟩) (fun _ h => absurd h List.not_mem_nil) dX8_date_54
    · refine lv_tableIn (off := 45) (tgt := 55) hx hb dX8_date_10 (by omega) (by omega) (by rw [hq3]; rfl) (by decide) ?_
      refine lv_iload_n hx hb dX8_date_55 rfl (lv_at hl 1 rfl) ?_
      have hPc := hP
      have hKc := hK
      refine vp_callSi ((va_runSN (As := [.int a1]) (rest := []) ⟨hx, hb, hml, hown, hts⟩ (k_X0_dayOfWeek l dC dI g (a1) ) ⟨va_cnB 1 hts (gwC qw_257) rfl rfl rfl (nm_23 hN) (hts (.initialized RX0) qw_3) (by decide +kernel) ⟨Nat.le_of_ble_eq_true rfl, Nat.le_of_ble_eq_true rfl⟩, (hts (.static yX0_dayOfWeek) qw_258), trivial⟩ ⟨fun a U g9 mk q => ⟨q.1, q.2.1, va_K.moved (u := U) (U := U.calling g9 mk a) (Vm.Alike.refl U.vm) q.2.2.1, Ev.bl q.2.2.2⟩, fun U hU hW => ⟨rfl, atB hU hPc, va_K.moved hW.alike hKc, hE.go hS (fun _ h => h.elim) hU hW⟩⟩ rfl rfl hl.1 rfl (lv_room (Nat.le_of_ble_eq_true rfl)) dX8_date_56 ⟨Nat.le_of_ble_eq_true rfl, Nat.le_of_ble_eq_true rfl⟩)).run (fun r7 h_r7 => ?_)
      have b_r7 := i32b r7
      exact W.iret (v := r7) hx hb hr (fun t ht hW => ⟨r7, rfl, trivial, ht⟩) (fun _ h => absurd h List.not_mem_nil) dX8_date_59
    · refine lv_tableOut (tgt := 60) hx hb dX8_date_10 hq3 (by decide) ?_
      refine lv_iconst (v := (-1)) hx hb dX8_date_60 (by decide) ?_
      exact W.iret (v := (-1)) hx hb hr (fun t ht hW => ⟨(-1), rfl, trivial, ht⟩) (fun _ h => absurd h List.not_mem_nil) dX8_date_61
  · have c4_2 : r1.toInt = 0 := (cv_eq rfl (by decide)).mp c4_2
    refine lv_iconst (v := (-1)) hx hb dX8_date_7 (by decide) ?_
    exact W.iret (v := (-1)) hx hb hr (fun t ht hW => ⟨(-1), rfl, trivial, ht⟩) (fun _ h => absurd h List.not_mem_nil) dX8_date_8
set_option maxHeartbeats 4000000 in
set_option maxRecDepth 100000 in
theorem k_X8_plus (l : Launch) (dC : Nat → ClassId) (dI : Nat → Nat → Nat) (g : Gv) (a0 : Nat) (a1 : Int32) (a2 : Int32)  : Met l yX8_plus (.code yX8_plus cX8_plus 3 (some .int) :: TBL) ({ frames := 3, cells := 0, slots := 0, locals := 73 }) (va_Pc [.ref a0, .int a1, .int a2] (fun U => va_P (dC, dI) vwCl [] U.heap ∧ va_K (dC, dI) vwCl [] U ∧ Ev g (fun _ => False) U)) (vp_Si (fun (r : Int32) => True)) 0 0 (fun _ => False) := by
  refine Met.ofW (cc := cX8_plus) (maxL := 3) (ret := (some .int)) (by decide) rfl ?_
  intro p e s m args below meth c s₁ B hml hv
  obtain ⟨rfl, hP, hK, hE⟩ := hv
  have hx := B.exec
  have hb := B.bytes
  have hr := B.returns
  have hts0 := atoms_spec (ws := (.code yX8_plus cX8_plus 3 (some .int) :: TBL)) B.pre
  have hts := fun (w : Cond) (h : w ∈ TBL) => hts0 w (List.mem_cons_of_mem _ h)
  have hown : s.vm.findClass RX8 = some m.cls := findClass_of_methodNamed B.named
  have hlocks := B.notSynchronized
  have hN := hE.1
  have hS : va_S (fun _ => False) s.heap s.heap [] := va_S.rf
  replace hP : va_P (dC, dI) vwCl [] s.heap := hP
  have hl := lv_entry ([.ref a0, .int a1, .int a2]) (n := 3) (Nat.le_of_ble_eq_true rfl)
  rw [lg_entry_eq]
  generalize (lg_sl ([.ref a0, .int a1, .int a2]) ++ List.replicate (3 - (lg_sl ([.ref a0, .int a1, .int a2])).length) Slot.unset).toArray = ls at hl ⊢
  have hl : lv_has ls 3 [(0, .ref a0), (1, .int a1), (2, .int a2)] := hl
  have b_a1 := i32b a1
  have b_a2 := i32b a2
  refine lv_iload_n hx hb dX8_plus_0 rfl (lv_at hl 1 rfl) ?_
  have hPc := hP
  have hKc := hK
  refine vp_callSi ((va_runS (As := [.int a1]) (rest := []) ⟨hx, hb, hml, hown, hts⟩ (k_X8_isDayOrLate l dC dI g (a1) ) (va_cwS 1 hts (gwS qw_260 qw_261 qw_28 qw_259) rfl rfl rfl (by decide +kernel) ⟨Nat.le_of_ble_eq_true rfl, Nat.le_of_ble_eq_true rfl⟩) ⟨fun a U g9 mk q => ⟨q.1, q.2.1, va_K.moved (u := U) (U := U.calling g9 mk a) (Vm.Alike.refl U.vm) q.2.2.1, Ev.bl q.2.2.2⟩, fun U hU hW => ⟨rfl, atB hU hPc, va_K.moved hW.alike hKc, hE.go hS (fun _ h => h.elim) hU hW⟩⟩ rfl rfl hl.1 rfl (lv_room (Nat.le_of_ble_eq_true rfl)) dX8_plus_1 ⟨Nat.le_of_ble_eq_true rfl, Nat.le_of_ble_eq_true rfl⟩)).run (fun r1 h_r1 => ?_)
  have h_r1 : (r1 = 0 ∨ r1 = 1) := h_r1
  have b_r1 := z01 (show r1 = 0 ∨ r1 = 1 from h_r1)
  refine lv_if_eq (tgt := 21) hx hb dX8_plus_4 (by decide) (fun c4_2 => ?_) (fun c4_2 => ?_)
  · have c4_2 : r1.toInt = 0 := (cv_eq rfl (by decide)).mp c4_2
    refine lv_iconst (v := (-1)) hx hb dX8_plus_21 (by decide) ?_
    exact W.iret (v := (-1)) hx hb hr (fun t ht hW => ⟨(-1), rfl, trivial, ht⟩) (fun _ h => absurd h List.not_mem_nil) dX8_plus_22
  · have c4_2 : ¬ (r1.toInt = 0) := mt (cv_eq rfl (by decide)).mpr c4_2
    refine lv_iload_n hx hb dX8_plus_7 rfl (lv_at hl 2 rfl) ?_
    refine lv_sipush (v := (-600)) hx hb dX8_plus_8 (by decide) ?_
    refine lv_icmp_lt (tgt := 21) hx hb dX8_plus_11 (by decide) (fun c11_3 => ?_) (fun c11_3 => ?_)
    · have c11_3 : a2.toInt < (-600) := (cv_lt rfl (by decide)).mp c11_3
      refine lv_iconst (v := (-1)) hx hb dX8_plus_21 (by decide) ?_
      exact W.iret (v := (-1)) hx hb hr (fun t ht hW => ⟨(-1), rfl, trivial, ht⟩) (fun _ h => absurd h List.not_mem_nil) dX8_plus_22
    · have c11_3 : ¬ (a2.toInt < (-600)) := mt (cv_lt rfl (by decide)).mpr c11_3
      refine lv_iload_n hx hb dX8_plus_14 rfl (lv_at hl 2 rfl) ?_
      refine lv_sipush (v := 600) hx hb dX8_plus_15 (by decide) ?_
      refine lv_icmp_le (tgt := 23) hx hb dX8_plus_18 (by decide) (fun c18_4 => ?_) (fun c18_4 => ?_)
      · have c18_4 : a2.toInt ≤ 600 := (cv_le rfl (by decide)).mp c18_4
        refine lv_iload_n hx hb dX8_plus_23 rfl (lv_at hl 1 rfl) ?_
        refine lv_iload_n hx hb dX8_plus_24 rfl (lv_at hl 2 rfl) ?_
        have hPc := hP
        have hKc := hK
        refine vp_callSi ((va_runSN (As := [.int a1, .int a2]) (rest := []) ⟨hx, hb, hml, hown, hts⟩ (k_X0_yearsOn l dC dI g (a1) (a2) ) ⟨va_cnB 2 hts (gwC qw_130) rfl rfl rfl (nm_24 hN) (hts (.initialized RX0) qw_3) (by decide +kernel) ⟨Nat.le_of_ble_eq_true rfl, Nat.le_of_ble_eq_true rfl⟩, (hts (.static yX0_yearsOn) qw_131), trivial⟩ ⟨fun a U g9 mk q => ⟨q.1, q.2.1, va_K.moved (u := U) (U := U.calling g9 mk a) (Vm.Alike.refl U.vm) q.2.2.1, Ev.bl q.2.2.2⟩, fun U hU hW => ⟨rfl, atB hU hPc, va_K.moved hW.alike hKc, hE.go hS (fun _ h => h.elim) hU hW⟩⟩ rfl rfl hl.1 rfl (lv_room (Nat.le_of_ble_eq_true rfl)) dX8_plus_25 ⟨Nat.le_of_ble_eq_true rfl, Nat.le_of_ble_eq_true rfl⟩)).run (fun r5 h_r5 => ?_)
        have b_r5 := i32b r5
        exact W.iret (v := r5) hx hb hr (fun t ht hW => ⟨r5, rfl, trivial, ht⟩) (fun _ h => absurd h List.not_mem_nil) dX8_plus_28
      · have c18_4 : ¬ (a2.toInt ≤ 600) := mt (cv_le rfl (by decide)).mpr c18_4
        refine lv_iconst (v := (-1)) hx hb dX8_plus_21 (by decide) ?_
        exact W.iret (v := (-1)) hx hb hr (fun t ht hW => ⟨(-1), rfl, trivial, ht⟩) (fun _ h => absurd h List.not_mem_nil) dX8_plus_22
set_option maxHeartbeats 4000000 in
set_option maxRecDepth 100000 in
theorem k_X8_person (l : Launch) (dC : Nat → ClassId) (dI : Nat → Nat → Nat) (g : Gv) (a0 : Nat) (a1 : Int32) (a2 : Int32) (a0_0 : Nat) (a0_1 : Nat) (a0_2 : Nat) (a0_3 : Nat) (a0_4 : Nat) (a0_5 : Nat) (a0_6 : Nat) (a0_7 : Nat) (a0_8 : Nat) (a0_9 : Nat) (a0_10 : Int32) (a0_6_0 : Int32) (a0_6_1 : Nat) (a0_6_2 : Int32) (a0_6_3 : Nat) (a0_6_4 : Int32) (a0_6_5 : Nat) (a0_6_6 : Nat) (a0_6_7 : Nat) (a0_6_8 : Int32) (a0_6_9 : Nat) (a0_6_10 : Nat) (a0_6_11 : Nat) (a0_6_12 : Nat) (a0_6_13 : Nat) (a0_6_1_c : ClassId) (a0_6_1_f : Nat → Int32) (a0_6_6_c : ClassId) (a0_6_6_f : Nat → Int32) (a0_8_0 : Nat) (a0_8_1 : Nat) (a0_8_2 : Nat) (a0_8_3 : Nat) (a0_8_4 : Nat) (a0_8_5 : Nat) (a0_8_1_c : ClassId) (a0_8_1_f : Nat → Int32) (h_a0_6_0 : 0 ≤ a0_6_0.toInt ∧ a0_6_0.toInt ≤ 8) (h_a0_6_2 : 0 ≤ a0_6_2.toInt ∧ a0_6_2.toInt ≤ 4) (h_a0_6_4 : 0 ≤ a0_6_4.toInt ∧ a0_6_4.toInt ≤ 24) (h_a0_6_8 : 0 ≤ a0_6_8.toInt ∧ a0_6_8.toInt ≤ 12) : Met l yX8_person (.code yX8_person cX8_person 3 (some .int) :: TBL) ({ frames := 2, cells := 0, slots := 0, locals := 44 }) (va_Pc [.ref a0, .int a1, .int a2] (fun U => va_P (dC, dI) vwCl [(a0, .inr (7, [.ref a0_0, .ref a0_1, .ref a0_2, .ref a0_3, .ref a0_4, .ref a0_5, .ref a0_6, .ref a0_7, .ref a0_8, .ref a0_9, .int a0_10])), (a0_6, .inr (0, [.int a0_6_0, .ref a0_6_1, .int a0_6_2, .ref a0_6_3, .int a0_6_4, .ref a0_6_5, .ref a0_6_6, .ref a0_6_7, .int a0_6_8, .ref a0_6_9, .ref a0_6_10, .ref a0_6_11, .ref a0_6_12, .ref a0_6_13])), (a0_6_1, .inl (a0_6_1_c, 8, .inl a0_6_1_f)), (a0_6_6, .inl (a0_6_6_c, 24, .inl a0_6_6_f)), (a0_8, .inr (2, [.ref a0_8_0, .ref a0_8_1, .ref a0_8_2, .ref a0_8_3, .ref a0_8_4, .ref a0_8_5])), (a0_8_1, .inl (a0_8_1_c, 8, .inl a0_8_1_f))] U.heap ∧ va_K (dC, dI) vwCl [(a0_6_1_c, .int), (a0_6_6_c, .int), (a0_8_1_c, .int)] U ∧ Ev g (fun _ => False) U)) (vp_Si (fun (r : Int32) => True)) 0 0 (fun _ => False) := by
  refine Met.ofW (cc := cX8_person) (maxL := 3) (ret := (some .int)) (by decide) rfl ?_
  intro p e s m args below meth c s₁ B hml hv
  obtain ⟨rfl, hP, hK, hE⟩ := hv
  have hx := B.exec
  have hb := B.bytes
  have hr := B.returns
  have hts0 := atoms_spec (ws := (.code yX8_person cX8_person 3 (some .int) :: TBL)) B.pre
  have hts := fun (w : Cond) (h : w ∈ TBL) => hts0 w (List.mem_cons_of_mem _ h)
  have hown : s.vm.findClass RX8 = some m.cls := findClass_of_methodNamed B.named
  have hlocks := B.notSynchronized
  have hN := hE.1
  have hS : va_S (fun _ => False) s.heap s.heap [] := va_S.rf
  replace hP : va_P (dC, dI) vwCl [(a0, .inr (7, [.ref a0_0, .ref a0_1, .ref a0_2, .ref a0_3, .ref a0_4, .ref a0_5, .ref a0_6, .ref a0_7, .ref a0_8, .ref a0_9, .int a0_10])), (a0_6, .inr (0, [.int a0_6_0, .ref a0_6_1, .int a0_6_2, .ref a0_6_3, .int a0_6_4, .ref a0_6_5, .ref a0_6_6, .ref a0_6_7, .int a0_6_8, .ref a0_6_9, .ref a0_6_10, .ref a0_6_11, .ref a0_6_12, .ref a0_6_13])), (a0_6_1, .inl (a0_6_1_c, 8, .inl a0_6_1_f)), (a0_6_6, .inl (a0_6_6_c, 24, .inl a0_6_6_f)), (a0_8, .inr (2, [.ref a0_8_0, .ref a0_8_1, .ref a0_8_2, .ref a0_8_3, .ref a0_8_4, .ref a0_8_5])), (a0_8_1, .inl (a0_8_1_c, 8, .inl a0_8_1_f))] s.heap := hP
  have hl := lv_entry ([.ref a0, .int a1, .int a2]) (n := 3) (Nat.le_of_ble_eq_true rfl)
  rw [lg_entry_eq]
  generalize (lg_sl ([.ref a0, .int a1, .int a2]) ++ List.replicate (3 - (lg_sl ([.ref a0, .int a1, .int a2])).length) Slot.unset).toArray = ls at hl ⊢
  have hl : lv_has ls 3 [(0, .ref a0), (1, .int a1), (2, .int a2)] := hl
  have b_a1 := i32b a1
  have b_a2 := i32b a2
  have b_a0_10 := i32b a0_10
  refine lv_aload_n hx hb dX8_person_0 rfl (lv_at hl 0 rfl) ?_
  refine va_get (D := (dC, dI)) (ci := 7) (v := .ref a0_6) (C := RX8) (T := TX8) (N := 11) hx hb hts inlX8 hown hK hP 0 rgL6_3f800dd rfl 6 (by decide) (hts (.fieldLink RX8 51 "ClosedUntil" "told" "LClosedUntil$Holdings;") qw_262) (fun _ h9 => h9) rfl dX8_person_1 ?_
  refine lv_iload_n hx hb dX8_person_4 rfl (lv_at hl 1 rfl) ?_
  have hPc := (rgP6_d2a108c hP)
  have hKc := (rgK3_e7c053f hK)
  refine vp_callSi ((va_runVN (As := [.int a1]) (rest := []) ⟨hx, hb, hml, hown, hts⟩ (k_X1_hasPerson l dC dI g (a0_6) (a1) (a0_6_0) (a0_6_1) (a0_6_2) (a0_6_3) (a0_6_4) (a0_6_5) (a0_6_6) (a0_6_7) (a0_6_8) (a0_6_9) (a0_6_10) (a0_6_11) (a0_6_12) (a0_6_13) (by omega) (by omega) (by omega) (by omega)) ⟨va_cnB 1 hts (gwC qw_263) rfl rfl rfl (nm_31 hN) (hts (.initialized RX1) qw_183) (by decide +kernel) ⟨Nat.le_of_ble_eq_true rfl, Nat.le_of_ble_eq_true rfl⟩, (hts (.instanceMethod yX1_hasPerson) qw_264), (hts (.selects RX1 yX1_hasPerson yX1_hasPerson) qw_265)⟩ ⟨fun a U g9 mk q => ⟨q.1, q.2.1, va_K.moved (u := U) (U := U.calling g9 mk a) (Vm.Alike.refl U.vm) q.2.2.1, Ev.bl q.2.2.2⟩, va_recv hK hP (ci := 0) (q0 := 1) rfl rgL6_a93a3d5, fun U hU hW => ⟨rfl, atB hU hPc, va_K.moved hW.alike hKc, hE.go hS (fun _ h => h.elim) hU hW⟩⟩ rfl rfl hl.1 rfl (lv_room (Nat.le_of_ble_eq_true rfl)) dX8_person_5 ⟨Nat.le_of_ble_eq_true rfl, Nat.le_of_ble_eq_true rfl⟩)).run (fun r1 h_r1 => ?_)
  have h_r1 : (r1 = 0 ∨ r1 = 1) ∧ ((r1.toInt = 1 ∧ 0 ≤ a1.toInt ∧ a1.toInt < a0_6_0.toInt) ∨ r1.toInt = 0) := h_r1
  have b_r1 := z01 (show r1 = 0 ∨ r1 = 1 from h_r1.1)
  refine lv_if_ne (tgt := 14) hx hb dX8_person_8 (by decide) (fun c8_2 => ?_) (fun c8_2 => ?_)
  · have c8_2 : ¬ (r1.toInt = 0) := mt (cv_eq rfl (by decide)).mpr c8_2
    refine lv_iload_n hx hb dX8_person_14 rfl (lv_at hl 2 rfl) ?_
    rcases (show a2.toInt = 0 ∨ a2.toInt = 1 ∨ a2.toInt = 2 ∨ (a2.toInt < 0 ∨ 2 < a2.toInt) by omega) with hq3 | hq3 | hq3 | hq3
    · refine lv_tableIn (off := 25) (tgt := 40) hx hb dX8_person_15 (by omega) (by omega) (by rw [hq3]; rfl) (by decide) ?_
      refine lv_aload_n hx hb dX8_person_40 rfl (lv_at hl 0 rfl) ?_
      refine va_get (D := (dC, dI)) (ci := 7) (v := .ref a0_6) (C := RX8) (T := TX8) (N := 11) hx hb hts inlX8 hown hK hP 0 rgL6_3f800dd rfl 6 (by decide) (hts (.fieldLink RX8 51 "ClosedUntil" "told" "LClosedUntil$Holdings;") qw_262) (fun _ h9 => h9) rfl dX8_person_41 ?_
      refine va_getN (D := (dC, dI)) (ci := 0) (v := .ref a0_6_1) (C := RX1) (T := TX1) (N := 14) hx hb hts inlX1 hown hK hP 1 rgL6_a93a3d5 rfl 1 (by decide) (va_Nw.use rfl (nf_30 hN)) (fun _ h9 => h9) rfl dX8_person_44 ?_
      refine lv_iload_n hx hb dX8_person_47 rfl (lv_at hl 1 rfl) ?_
      refine va_iald hx hb hK hP 2 0 rgL6_5db1281 rgT3_b86a1dc (vinI (by omega) (by omega)) dX8_person_48 ?_
      refine lv_topi (fun x4 e_x4 => ?_)
      have b_x4 := i32b x4
      exact W.iret (v := x4) hx hb hr (fun t ht hW => ⟨x4, rfl, trivial, ht⟩) (fun _ h => absurd h List.not_mem_nil) dX8_person_49
    · refine lv_tableIn (off := 35) (tgt := 50) hx hb dX8_person_15 (by omega) (by omega) (by rw [hq3]; rfl) (by decide) ?_
      refine lv_aload_n hx hb dX8_person_50 rfl (lv_at hl 0 rfl) ?_
      refine va_get (D := (dC, dI)) (ci := 7) (v := .ref a0_8) (C := RX8) (T := TX8) (N := 11) hx hb hts inlX8 hown hK hP 0 rgL6_3f800dd rfl 8 (by decide) (hts (.fieldLink RX8 58 "ClosedUntil" "now" "LClosedUntil$State;") qw_266) (fun _ h9 => h9) rfl dX8_person_51 ?_
      refine va_getN (D := (dC, dI)) (ci := 2) (v := .ref a0_8_1) (C := RX3) (T := TX3) (N := 6) hx hb hts inlX3 hown hK hP 4 rgL6_fb60be2 rfl 1 (by decide) (va_Nw.use rfl (nf_18 hN)) (fun _ h9 => h9) rfl dX8_person_54 ?_
      refine lv_iload_n hx hb dX8_person_57 rfl (lv_at hl 1 rfl) ?_
      refine va_iald hx hb hK hP 5 2 rgL6_bd8047c rgT3_173f9f1 (vinI (by omega) (by omega)) dX8_person_58 ?_
      refine lv_topi (fun x5 e_x5 => ?_)
      have b_x5 := i32b x5
      exact W.iret (v := x5) hx hb hr (fun t ht hW => ⟨x5, rfl, trivial, ht⟩) (fun _ h => absurd h List.not_mem_nil) dX8_person_59
    · refine lv_tableIn (off := 45) (tgt := 60) hx hb dX8_person_15 (by omega) (by omega) (by rw [hq3]; rfl) (by decide) ?_
      refine lv_aload_n hx hb dX8_person_60 rfl (lv_at hl 0 rfl) ?_
      refine va_get (D := (dC, dI)) (ci := 7) (v := .ref a0_6) (C := RX8) (T := TX8) (N := 11) hx hb hts inlX8 hown hK hP 0 rgL6_3f800dd rfl 6 (by decide) (hts (.fieldLink RX8 51 "ClosedUntil" "told" "LClosedUntil$Holdings;") qw_262) (fun _ h9 => h9) rfl dX8_person_61 ?_
      refine lv_iload_n hx hb dX8_person_64 rfl (lv_at hl 1 rfl) ?_
      have hPc := (rgP6_4803b3d hP)
      have hKc := (rgK3_7ab6ad6 hK)
      refine vp_callSi ((va_runVN (As := [.int a1]) (rest := []) ⟨hx, hb, hml, hown, hts⟩ (k_X1_piecesOf l dC dI g (a0_6) (a1) (a0_6_0) (a0_6_1) (a0_6_2) (a0_6_3) (a0_6_4) (a0_6_5) (a0_6_6) (a0_6_7) (a0_6_8) (a0_6_9) (a0_6_10) (a0_6_11) (a0_6_12) (a0_6_13) (a0_6_6_c) (a0_6_6_f) (by omega) (by omega) (by omega) (by omega)) ⟨va_cnB 1 hts (gwC qw_267) rfl rfl rfl (nm_32 hN) (hts (.initialized RX1) qw_183) (by decide +kernel) ⟨Nat.le_of_ble_eq_true rfl, Nat.le_of_ble_eq_true rfl⟩, (hts (.instanceMethod yX1_piecesOf) qw_268), (hts (.selects RX1 yX1_piecesOf yX1_piecesOf) qw_269)⟩ ⟨fun a U g9 mk q => ⟨q.1, q.2.1, va_K.moved (u := U) (U := U.calling g9 mk a) (Vm.Alike.refl U.vm) q.2.2.1, Ev.bl q.2.2.2⟩, va_recv hK hP (ci := 0) (q0 := 1) rfl rgL6_a93a3d5, fun U hU hW => ⟨rfl, atB hU hPc, va_K.moved hW.alike hKc, hE.go hS (fun _ h => h.elim) hU hW⟩⟩ rfl rfl hl.1 rfl (lv_room (Nat.le_of_ble_eq_true rfl)) dX8_person_65 ⟨Nat.le_of_ble_eq_true rfl, Nat.le_of_ble_eq_true rfl⟩)).run (fun r6 h_r6 => ?_)
      have b_r6 := i32b r6
      exact W.iret (v := r6) hx hb hr (fun t ht hW => ⟨r6, rfl, trivial, ht⟩) (fun _ h => absurd h List.not_mem_nil) dX8_person_68
    · refine lv_tableOut (tgt := 69) hx hb dX8_person_15 hq3 (by decide) ?_
      refine lv_bipush (v := (-2)) hx hb dX8_person_69 (by decide) ?_
      exact W.iret (v := (-2)) hx hb hr (fun t ht hW => ⟨(-2), rfl, trivial, ht⟩) (fun _ h => absurd h List.not_mem_nil) dX8_person_71
  · have c8_2 : r1.toInt = 0 := (cv_eq rfl (by decide)).mp c8_2
    refine lv_bipush (v := (-2)) hx hb dX8_person_11 (by decide) ?_
    exact W.iret (v := (-2)) hx hb hr (fun t ht hW => ⟨(-2), rfl, trivial, ht⟩) (fun _ h => absurd h List.not_mem_nil) dX8_person_13
set_option maxHeartbeats 4000000 in
set_option maxRecDepth 100000 in
theorem k_X8_count (l : Launch) (dC : Nat → ClassId) (dI : Nat → Nat → Nat) (g : Gv) (a0 : Nat) (a1 : Int32) (a0_0 : Nat) (a0_1 : Nat) (a0_2 : Nat) (a0_3 : Nat) (a0_4 : Nat) (a0_5 : Nat) (a0_6 : Nat) (a0_7 : Nat) (a0_8 : Nat) (a0_9 : Nat) (a0_10 : Int32) (a0_0_0 : Nat) (a0_0_1 : Int32) (a0_3_0 : Nat) (a0_3_1 : Nat) (a0_3_2 : Nat) (a0_3_3 : Int32) (a0_6_0 : Int32) (a0_6_1 : Nat) (a0_6_2 : Int32) (a0_6_3 : Nat) (a0_6_4 : Int32) (a0_6_5 : Nat) (a0_6_6 : Nat) (a0_6_7 : Nat) (a0_6_8 : Int32) (a0_6_9 : Nat) (a0_6_10 : Nat) (a0_6_11 : Nat) (a0_6_12 : Nat) (a0_6_13 : Nat) (a0_8_0 : Nat) (a0_8_1 : Nat) (a0_8_2 : Nat) (a0_8_3 : Nat) (a0_8_4 : Nat) (a0_8_5 : Nat) (a0_8_2_c : ClassId) (a0_8_2_f : Nat → Int32) (a0_8_3_c : ClassId) (a0_8_3_f : Nat → Int32) (h_a0_0_1 : 0 ≤ a0_0_1.toInt ∧ a0_0_1.toInt ≤ 1000) (h_a0_3_3 : 0 ≤ a0_3_3.toInt ∧ a0_3_3.toInt ≤ 12) (h_a0_6_0 : 0 ≤ a0_6_0.toInt ∧ a0_6_0.toInt ≤ 8) (h_a0_6_2 : 0 ≤ a0_6_2.toInt ∧ a0_6_2.toInt ≤ 4) (h_a0_6_4 : 0 ≤ a0_6_4.toInt ∧ a0_6_4.toInt ≤ 24) (h_a0_6_8 : 0 ≤ a0_6_8.toInt ∧ a0_6_8.toInt ≤ 12) (h_a0_8_3_f : vr 0 5 a0_8_3_f) : Met l yX8_count (.code yX8_count cX8_count 2 (some .int) :: TBL) ({ frames := 1, cells := 0, slots := 0, locals := 22 }) (va_Pc [.ref a0, .int a1] (fun U => va_P (dC, dI) vwCl [(a0, .inr (7, [.ref a0_0, .ref a0_1, .ref a0_2, .ref a0_3, .ref a0_4, .ref a0_5, .ref a0_6, .ref a0_7, .ref a0_8, .ref a0_9, .int a0_10])), (a0_0, .inr (3, [.ref a0_0_0, .int a0_0_1])), (a0_3, .inr (1, [.ref a0_3_0, .ref a0_3_1, .ref a0_3_2, .int a0_3_3])), (a0_6, .inr (0, [.int a0_6_0, .ref a0_6_1, .int a0_6_2, .ref a0_6_3, .int a0_6_4, .ref a0_6_5, .ref a0_6_6, .ref a0_6_7, .int a0_6_8, .ref a0_6_9, .ref a0_6_10, .ref a0_6_11, .ref a0_6_12, .ref a0_6_13])), (a0_8, .inr (2, [.ref a0_8_0, .ref a0_8_1, .ref a0_8_2, .ref a0_8_3, .ref a0_8_4, .ref a0_8_5])), (a0_8_2, .inl (a0_8_2_c, 12, .inl a0_8_2_f)), (a0_8_3, .inl (a0_8_3_c, 12, .inl a0_8_3_f))] U.heap ∧ va_K (dC, dI) vwCl [(a0_8_2_c, .int), (a0_8_3_c, .int)] U ∧ Ev g (fun _ => False) U)) (vp_Si (fun (r : Int32) => True)) 0 0 (fun _ => False) := by
  refine Met.ofW (cc := cX8_count) (maxL := 2) (ret := (some .int)) (by decide) rfl ?_
  intro p e s m args below meth c s₁ B hml hv
  obtain ⟨rfl, hP, hK, hE⟩ := hv
  have hx := B.exec
  have hb := B.bytes
  have hr := B.returns
  have hts0 := atoms_spec (ws := (.code yX8_count cX8_count 2 (some .int) :: TBL)) B.pre
  have hts := fun (w : Cond) (h : w ∈ TBL) => hts0 w (List.mem_cons_of_mem _ h)
  have hown : s.vm.findClass RX8 = some m.cls := findClass_of_methodNamed B.named
  have hlocks := B.notSynchronized
  have hN := hE.1
  have hS : va_S (fun _ => False) s.heap s.heap [] := va_S.rf
  replace hP : va_P (dC, dI) vwCl [(a0, .inr (7, [.ref a0_0, .ref a0_1, .ref a0_2, .ref a0_3, .ref a0_4, .ref a0_5, .ref a0_6, .ref a0_7, .ref a0_8, .ref a0_9, .int a0_10])), (a0_0, .inr (3, [.ref a0_0_0, .int a0_0_1])), (a0_3, .inr (1, [.ref a0_3_0, .ref a0_3_1, .ref a0_3_2, .int a0_3_3])), (a0_6, .inr (0, [.int a0_6_0, .ref a0_6_1, .int a0_6_2, .ref a0_6_3, .int a0_6_4, .ref a0_6_5, .ref a0_6_6, .ref a0_6_7, .int a0_6_8, .ref a0_6_9, .ref a0_6_10, .ref a0_6_11, .ref a0_6_12, .ref a0_6_13])), (a0_8, .inr (2, [.ref a0_8_0, .ref a0_8_1, .ref a0_8_2, .ref a0_8_3, .ref a0_8_4, .ref a0_8_5])), (a0_8_2, .inl (a0_8_2_c, 12, .inl a0_8_2_f)), (a0_8_3, .inl (a0_8_3_c, 12, .inl a0_8_3_f))] s.heap := hP
  have hl := lv_entry ([.ref a0, .int a1]) (n := 2) (Nat.le_of_ble_eq_true rfl)
  rw [lg_entry_eq]
  generalize (lg_sl ([.ref a0, .int a1]) ++ List.replicate (2 - (lg_sl ([.ref a0, .int a1])).length) Slot.unset).toArray = ls at hl ⊢
  have hl : lv_has ls 2 [(0, .ref a0), (1, .int a1)] := hl
  have b_a1 := i32b a1
  have b_a0_10 := i32b a0_10
  refine lv_iload_n hx hb dX8_count_0 rfl (lv_at hl 1 rfl) ?_
  rcases (show a1.toInt = 0 ∨ a1.toInt = 1 ∨ a1.toInt = 2 ∨ a1.toInt = 3 ∨ a1.toInt = 4 ∨ a1.toInt = 5 ∨ a1.toInt = 6 ∨ a1.toInt = 7 ∨ (a1.toInt < 0 ∨ 7 < a1.toInt) by omega) with hq1 | hq1 | hq1 | hq1 | hq1 | hq1 | hq1 | hq1 | hq1
  · refine lv_tableIn (off := 47) (tgt := 48) hx hb dX8_count_1 (by omega) (by omega) (by rw [hq1]; rfl) (by decide) ?_
    refine lv_aload_n hx hb dX8_count_48 rfl (lv_at hl 0 rfl) ?_
    refine va_get (D := (dC, dI)) (ci := 7) (v := .ref a0_6) (C := RX8) (T := TX8) (N := 11) hx hb hts inlX8 hown hK hP 0 rgL7_2e0bc46 rfl 6 (by decide) (hts (.fieldLink RX8 51 "ClosedUntil" "told" "LClosedUntil$Holdings;") qw_262) (fun _ h9 => h9) rfl dX8_count_49 ?_
    refine va_getN (D := (dC, dI)) (ci := 0) (v := .int a0_6_4) (C := RX1) (T := TX1) (N := 14) hx hb hts inlX1 hown hK hP 3 rgL7_83d031a rfl 4 (by decide) (va_Nw.use rfl (nf_37 hN)) (fun _ h9 => h9) rfl dX8_count_52 ?_
    exact W.iret (v := a0_6_4) hx hb hr (fun t ht hW => ⟨a0_6_4, rfl, trivial, ht⟩) (fun _ h => absurd h List.not_mem_nil) dX8_count_55
  · refine lv_tableIn (off := 55) (tgt := 56) hx hb dX8_count_1 (by omega) (by omega) (by rw [hq1]; rfl) (by decide) ?_
    refine lv_aload_n hx hb dX8_count_56 rfl (lv_at hl 0 rfl) ?_
    refine va_get (D := (dC, dI)) (ci := 7) (v := .ref a0_6) (C := RX8) (T := TX8) (N := 11) hx hb hts inlX8 hown hK hP 0 rgL7_2e0bc46 rfl 6 (by decide) (hts (.fieldLink RX8 51 "ClosedUntil" "told" "LClosedUntil$Holdings;") qw_262) (fun _ h9 => h9) rfl dX8_count_57 ?_
    refine va_getN (D := (dC, dI)) (ci := 0) (v := .int a0_6_0) (C := RX1) (T := TX1) (N := 14) hx hb hts inlX1 hown hK hP 3 rgL7_83d031a rfl 0 (by decide) (va_Nw.use rfl (nf_27 hN)) (fun _ h9 => h9) rfl dX8_count_60 ?_
    exact W.iret (v := a0_6_0) hx hb hr (fun t ht hW => ⟨a0_6_0, rfl, trivial, ht⟩) (fun _ h => absurd h List.not_mem_nil) dX8_count_63
  · refine lv_tableIn (off := 63) (tgt := 64) hx hb dX8_count_1 (by omega) (by omega) (by rw [hq1]; rfl) (by decide) ?_
    refine lv_aload_n hx hb dX8_count_64 rfl (lv_at hl 0 rfl) ?_
    refine va_get (D := (dC, dI)) (ci := 7) (v := .ref a0_6) (C := RX8) (T := TX8) (N := 11) hx hb hts inlX8 hown hK hP 0 rgL7_2e0bc46 rfl 6 (by decide) (hts (.fieldLink RX8 51 "ClosedUntil" "told" "LClosedUntil$Holdings;") qw_262) (fun _ h9 => h9) rfl dX8_count_65 ?_
    refine va_getN (D := (dC, dI)) (ci := 0) (v := .int a0_6_2) (C := RX1) (T := TX1) (N := 14) hx hb hts inlX1 hown hK hP 3 rgL7_83d031a rfl 2 (by decide) (va_Nw.use rfl (nf_32 hN)) (fun _ h9 => h9) rfl dX8_count_68 ?_
    exact W.iret (v := a0_6_2) hx hb hr (fun t ht hW => ⟨a0_6_2, rfl, trivial, ht⟩) (fun _ h => absurd h List.not_mem_nil) dX8_count_71
  · refine lv_tableIn (off := 71) (tgt := 72) hx hb dX8_count_1 (by omega) (by omega) (by rw [hq1]; rfl) (by decide) ?_
    refine lv_aload_n hx hb dX8_count_72 rfl (lv_at hl 0 rfl) ?_
    refine va_get (D := (dC, dI)) (ci := 7) (v := .ref a0_6) (C := RX8) (T := TX8) (N := 11) hx hb hts inlX8 hown hK hP 0 rgL7_2e0bc46 rfl 6 (by decide) (hts (.fieldLink RX8 51 "ClosedUntil" "told" "LClosedUntil$Holdings;") qw_262) (fun _ h9 => h9) rfl dX8_count_73 ?_
    refine va_getN (D := (dC, dI)) (ci := 0) (v := .int a0_6_8) (C := RX1) (T := TX1) (N := 14) hx hb hts inlX1 hown hK hP 3 rgL7_83d031a rfl 8 (by decide) (va_Nw.use rfl (nf_47 hN)) (fun _ h9 => h9) rfl dX8_count_76 ?_
    exact W.iret (v := a0_6_8) hx hb hr (fun t ht hW => ⟨a0_6_8, rfl, trivial, ht⟩) (fun _ h => absurd h List.not_mem_nil) dX8_count_79
  · refine lv_tableIn (off := 79) (tgt := 80) hx hb dX8_count_1 (by omega) (by omega) (by rw [hq1]; rfl) (by decide) ?_
    refine lv_aload_n hx hb dX8_count_80 rfl (lv_at hl 0 rfl) ?_
    refine va_get (D := (dC, dI)) (ci := 7) (v := .ref a0_8) (C := RX8) (T := TX8) (N := 11) hx hb hts inlX8 hown hK hP 0 rgL7_2e0bc46 rfl 8 (by decide) (hts (.fieldLink RX8 58 "ClosedUntil" "now" "LClosedUntil$State;") qw_266) (fun _ h9 => h9) rfl dX8_count_81 ?_
    have hPc := (rgP7_2567996 hP)
    have hKc := (rgK2_f44ed73 hK)
    refine vp_callSi ((va_runVN (As := []) (rest := []) ⟨hx, hb, hml, hown, hts⟩ (k_X3_allReviews l dC dI g (a0_8) (a0_8_0) (a0_8_1) (a0_8_2) (a0_8_3) (a0_8_4) (a0_8_5) (a0_8_3_c) (a0_8_3_f) h_a0_8_3_f) ⟨va_cnB 0 hts (gwC qw_270) rfl rfl rfl (nm_48 hN) (hts (.initialized RX3) qw_57) (by decide +kernel) ⟨Nat.le_of_ble_eq_true rfl, Nat.le_of_ble_eq_true rfl⟩, (hts (.instanceMethod yX3_allReviews) qw_271), (hts (.selects RX3 yX3_allReviews yX3_allReviews) qw_272)⟩ ⟨fun a U g9 mk q => ⟨q.1, q.2.1, va_K.moved (u := U) (U := U.calling g9 mk a) (Vm.Alike.refl U.vm) q.2.2.1, Ev.bl q.2.2.2⟩, va_recv hK hP (ci := 2) (q0 := 4) rfl rgL7_1774eef, fun U hU hW => ⟨rfl, atB hU hPc, va_K.moved hW.alike hKc, hE.go hS (fun _ h => h.elim) hU hW⟩⟩ rfl rfl hl.1 rfl (lv_room (Nat.le_of_ble_eq_true rfl)) dX8_count_84 ⟨Nat.le_of_ble_eq_true rfl, Nat.le_of_ble_eq_true rfl⟩)).run (fun r2 h_r2 => ?_)
    have b_r2 := i32b r2
    exact W.iret (v := r2) hx hb hr (fun t ht hW => ⟨r2, rfl, trivial, ht⟩) (fun _ h => absurd h List.not_mem_nil) dX8_count_87
  · refine lv_tableIn (off := 87) (tgt := 88) hx hb dX8_count_1 (by omega) (by omega) (by rw [hq1]; rfl) (by decide) ?_
    refine lv_aload_n hx hb dX8_count_88 rfl (lv_at hl 0 rfl) ?_
    refine va_get (D := (dC, dI)) (ci := 7) (v := .ref a0_8) (C := RX8) (T := TX8) (N := 11) hx hb hts inlX8 hown hK hP 0 rgL7_2e0bc46 rfl 8 (by decide) (hts (.fieldLink RX8 58 "ClosedUntil" "now" "LClosedUntil$State;") qw_266) (fun _ h9 => h9) rfl dX8_count_89 ?_
    have hPc := (rgP7_2029366 hP)
    have hKc := (rgK2_58023b0 hK)
    refine vp_callSi ((va_runVN (As := []) (rest := []) ⟨hx, hb, hml, hown, hts⟩ (k_X3_allLifted l dC dI g (a0_8) (a0_8_0) (a0_8_1) (a0_8_2) (a0_8_3) (a0_8_4) (a0_8_5) (a0_8_2_c) (a0_8_2_f) ) ⟨va_cnB 0 hts (gwC qw_273) rfl rfl rfl (nm_49 hN) (hts (.initialized RX3) qw_57) (by decide +kernel) ⟨Nat.le_of_ble_eq_true rfl, Nat.le_of_ble_eq_true rfl⟩, (hts (.instanceMethod yX3_allLifted) qw_274), (hts (.selects RX3 yX3_allLifted yX3_allLifted) qw_275)⟩ ⟨fun a U g9 mk q => ⟨q.1, q.2.1, va_K.moved (u := U) (U := U.calling g9 mk a) (Vm.Alike.refl U.vm) q.2.2.1, Ev.bl q.2.2.2⟩, va_recv hK hP (ci := 2) (q0 := 4) rfl rgL7_1774eef, fun U hU hW => ⟨rfl, atB hU hPc, va_K.moved hW.alike hKc, hE.go hS (fun _ h => h.elim) hU hW⟩⟩ rfl rfl hl.1 rfl (lv_room (Nat.le_of_ble_eq_true rfl)) dX8_count_92 ⟨Nat.le_of_ble_eq_true rfl, Nat.le_of_ble_eq_true rfl⟩)).run (fun r3 h_r3 => ?_)
    have b_r3 := i32b r3
    exact W.iret (v := r3) hx hb hr (fun t ht hW => ⟨r3, rfl, trivial, ht⟩) (fun _ h => absurd h List.not_mem_nil) dX8_count_95
  · refine lv_tableIn (off := 95) (tgt := 96) hx hb dX8_count_1 (by omega) (by omega) (by rw [hq1]; rfl) (by decide) ?_
    refine lv_aload_n hx hb dX8_count_96 rfl (lv_at hl 0 rfl) ?_
    refine va_get (D := (dC, dI)) (ci := 7) (v := .ref a0_3) (C := RX8) (T := TX8) (N := 11) hx hb hts inlX8 hown hK hP 0 rgL7_2e0bc46 rfl 3 (by decide) (hts (.fieldLink RX8 33 "ClosedUntil" "journal" "LClosedUntil$Journal;") qw_276) (fun _ h9 => h9) rfl dX8_count_97 ?_
    refine va_getN (D := (dC, dI)) (ci := 1) (v := .int a0_3_3) (C := RX2) (T := TX2) (N := 4) hx hb hts inlX2 hown hK hP 2 rgL7_e12ca01 rfl 3 (by decide) (va_Nw.use rfl (nf_10 hN)) (fun _ h9 => h9) rfl dX8_count_100 ?_
    exact W.iret (v := a0_3_3) hx hb hr (fun t ht hW => ⟨a0_3_3, rfl, trivial, ht⟩) (fun _ h => absurd h List.not_mem_nil) dX8_count_103
  · refine lv_tableIn (off := 103) (tgt := 104) hx hb dX8_count_1 (by omega) (by omega) (by rw [hq1]; rfl) (by decide) ?_
    refine lv_aload_n hx hb dX8_count_104 rfl (lv_at hl 0 rfl) ?_
    refine va_get (D := (dC, dI)) (ci := 7) (v := .ref a0_0) (C := RX8) (T := TX8) (N := 11) hx hb hts inlX8 hown hK hP 0 rgL7_2e0bc46 rfl 0 (by decide) (hts (.fieldLink RX8 10 "ClosedUntil" "tape" "LClosedUntil$Tape;") qw_243) (fun _ h9 => h9) rfl dX8_count_105 ?_
    refine va_getN (D := (dC, dI)) (ci := 3) (v := .int a0_0_1) (C := RX4) (T := TX4) (N := 2) hx hb hts inlX4 hown hK hP 1 rgL7_c83edf0 rfl 1 (by decide) (va_Nw.use rfl (nf_1 hN)) (fun _ h9 => h9) rfl dX8_count_108 ?_
    exact W.iret (v := a0_0_1) hx hb hr (fun t ht hW => ⟨a0_0_1, rfl, trivial, ht⟩) (fun _ h => absurd h List.not_mem_nil) dX8_count_111
  · refine lv_tableOut (tgt := 112) hx hb dX8_count_1 hq1 (by decide) ?_
    refine lv_iconst (v := (-1)) hx hb dX8_count_112 (by decide) ?_
    exact W.iret (v := (-1)) hx hb hr (fun t ht hW => ⟨(-1), rfl, trivial, ht⟩) (fun _ h => absurd h List.not_mem_nil) dX8_count_113
set_option maxHeartbeats 4000000 in
set_option maxRecDepth 100000 in
theorem k_X8_remember (l : Launch) (dC : Nat → ClassId) (dI : Nat → Nat → Nat) (g : Gv) (sz : Nat) (a0 : Nat) (a1 : Int32) (a2 : Int32) (a3 : Int32) (a0_0 : Nat) (a0_1 : Nat) (a0_2 : Nat) (a0_3 : Nat) (a0_4 : Nat) (a0_5 : Nat) (a0_6 : Nat) (a0_7 : Nat) (a0_8 : Nat) (a0_9 : Nat) (a0_10 : Int32) (a0_3_0 : Nat) (a0_3_1 : Nat) (a0_3_2 : Nat) (a0_3_3 : Int32) (a0_3_0_c : ClassId) (a0_3_0_f : Nat → Int32) (a0_3_1_c : ClassId) (a0_3_1_f : Nat → Int32) (a0_3_2_c : ClassId) (a0_3_2_f : Nat → Int32) (h_a0_3_3 : 0 ≤ a0_3_3.toInt ∧ a0_3_3.toInt ≤ 12) (hja : JA a0_3_0_f a0_3_1_f a0_3_2_f a0_3_3) (hje : JE a1 a2 a3) : Met l yX8_remember (.code yX8_remember cX8_remember 4 none :: TBL) ({ frames := 3, cells := 0, slots := 0, locals := 93 }) (va_Pc [.ref a0, .int a1, .int a2, .int a3] (fun U => U.heap.size = sz ∧ va_P (dC, dI) vwCl [(a0, .inr (7, [.ref a0_0, .ref a0_1, .ref a0_2, .ref a0_3, .ref a0_4, .ref a0_5, .ref a0_6, .ref a0_7, .ref a0_8, .ref a0_9, .int a0_10])), (a0_3, .inr (1, [.ref a0_3_0, .ref a0_3_1, .ref a0_3_2, .int a0_3_3])), (a0_3_0, .inl (a0_3_0_c, 12, .inl a0_3_0_f)), (a0_3_1, .inl (a0_3_1_c, 12, .inl a0_3_1_f)), (a0_3_2, .inl (a0_3_2_c, 12, .inl a0_3_2_f))] U.heap ∧ va_K (dC, dI) vwCl [(a0_3_0_c, .int), (a0_3_1_c, .int), (a0_3_2_c, .int)] U ∧ va_D (fun _ => True) [(a0, .inr (7, [.ref a0_0, .ref a0_1, .ref a0_2, .ref a0_3, .ref a0_4, .ref a0_5, .ref a0_6, .ref a0_7, .ref a0_8, .ref a0_9, .int a0_10])), (a0_3, .inr (1, [.ref a0_3_0, .ref a0_3_1, .ref a0_3_2, .int a0_3_3])), (a0_3_0, .inl (a0_3_0_c, 12, .inl a0_3_0_f)), (a0_3_1, .inl (a0_3_1_c, 12, .inl a0_3_1_f)), (a0_3_2, .inl (a0_3_2_c, 12, .inl a0_3_2_f))] ∧ Ev g (va_A [(a0, .inr (7, [.ref a0_0, .ref a0_1, .ref a0_2, .ref a0_3, .ref a0_4, .ref a0_5, .ref a0_6, .ref a0_7, .ref a0_8, .ref a0_9, .int a0_10])), (a0_3, .inr (1, [.ref a0_3_0, .ref a0_3_1, .ref a0_3_2, .int a0_3_3])), (a0_3_0, .inl (a0_3_0_c, 12, .inl a0_3_0_f)), (a0_3_1, .inl (a0_3_1_c, 12, .inl a0_3_1_f)), (a0_3_2, .inl (a0_3_2_c, 12, .inl a0_3_2_f))] sz) U)) (va_Qv (fun (_ : Unit) => True) (fun (_ : Unit) (t : State) => ∃ (za0_10 : Int32) (za0_3_3 : Int32) (za0_3_0_f : Nat → Int32) (za0_3_1_f : Nat → Int32) (za0_3_2_f : Nat → Int32), (0 ≤ za0_3_3.toInt ∧ za0_3_3.toInt ≤ 12) ∧ (JA za0_3_0_f za0_3_1_f za0_3_2_f za0_3_3) ∧ (J1 a0_3_0_f a0_3_1_f za0_3_0_f za0_3_1_f a0_3_3 za0_3_3 a1 a2) ∧ va_P (dC, dI) vwCl [(a0, .inr (7, [.ref a0_0, .ref a0_1, .ref a0_2, .ref a0_3, .ref a0_4, .ref a0_5, .ref a0_6, .ref a0_7, .ref a0_8, .ref a0_9, .int za0_10])), (a0_3, .inr (1, [.ref a0_3_0, .ref a0_3_1, .ref a0_3_2, .int za0_3_3])), (a0_3_0, .inl (a0_3_0_c, 12, .inl za0_3_0_f)), (a0_3_1, .inl (a0_3_1_c, 12, .inl za0_3_1_f)), (a0_3_2, .inl (a0_3_2_c, 12, .inl za0_3_2_f))] t.heap ∧ va_K (dC, dI) vwCl [] t ∧ va_D (va_A [(a0, .inr (7, [.ref a0_0, .ref a0_1, .ref a0_2, .ref a0_3, .ref a0_4, .ref a0_5, .ref a0_6, .ref a0_7, .ref a0_8, .ref a0_9, .int a0_10])), (a0_3, .inr (1, [.ref a0_3_0, .ref a0_3_1, .ref a0_3_2, .int a0_3_3])), (a0_3_0, .inl (a0_3_0_c, 12, .inl a0_3_0_f)), (a0_3_1, .inl (a0_3_1_c, 12, .inl a0_3_1_f)), (a0_3_2, .inl (a0_3_2_c, 12, .inl a0_3_2_f))] sz) [(a0, .inr (7, [.ref a0_0, .ref a0_1, .ref a0_2, .ref a0_3, .ref a0_4, .ref a0_5, .ref a0_6, .ref a0_7, .ref a0_8, .ref a0_9, .int za0_10])), (a0_3, .inr (1, [.ref a0_3_0, .ref a0_3_1, .ref a0_3_2, .int za0_3_3])), (a0_3_0, .inl (a0_3_0_c, 12, .inl za0_3_0_f)), (a0_3_1, .inl (a0_3_1_c, 12, .inl za0_3_1_f)), (a0_3_2, .inl (a0_3_2_c, 12, .inl za0_3_2_f))]) (va_A [(a0, .inr (7, [.ref a0_0, .ref a0_1, .ref a0_2, .ref a0_3, .ref a0_4, .ref a0_5, .ref a0_6, .ref a0_7, .ref a0_8, .ref a0_9, .int a0_10])), (a0_3, .inr (1, [.ref a0_3_0, .ref a0_3_1, .ref a0_3_2, .int a0_3_3])), (a0_3_0, .inl (a0_3_0_c, 12, .inl a0_3_0_f)), (a0_3_1, .inl (a0_3_1_c, 12, .inl a0_3_1_f)), (a0_3_2, .inl (a0_3_2_c, 12, .inl a0_3_2_f))] sz)) 0 0 (va_A [(a0, .inr (7, [.ref a0_0, .ref a0_1, .ref a0_2, .ref a0_3, .ref a0_4, .ref a0_5, .ref a0_6, .ref a0_7, .ref a0_8, .ref a0_9, .int a0_10])), (a0_3, .inr (1, [.ref a0_3_0, .ref a0_3_1, .ref a0_3_2, .int a0_3_3])), (a0_3_0, .inl (a0_3_0_c, 12, .inl a0_3_0_f)), (a0_3_1, .inl (a0_3_1_c, 12, .inl a0_3_1_f)), (a0_3_2, .inl (a0_3_2_c, 12, .inl a0_3_2_f))] sz) := by
  refine Met.ofW (cc := cX8_remember) (maxL := 4) (ret := none) (by decide) rfl ?_
  intro p e s m args below meth c s₁ B hml hv
  obtain ⟨rfl, hsz, hP, hK, hD0, hE⟩ := hv
  have hx := B.exec
  have hb := B.bytes
  have hr := B.returns
  have hts0 := atoms_spec (ws := (.code yX8_remember cX8_remember 4 none :: TBL)) B.pre
  have hts := fun (w : Cond) (h : w ∈ TBL) => hts0 w (List.mem_cons_of_mem _ h)
  have hown : s.vm.findClass RX8 = some m.cls := findClass_of_methodNamed B.named
  have hlocks := B.notSynchronized
  have hN := hE.1
  subst hsz
  have hD := hD0.self (sz := s.heap.size)
  generalize hAe : va_A [(a0, .inr (7, [.ref a0_0, .ref a0_1, .ref a0_2, .ref a0_3, .ref a0_4, .ref a0_5, .ref a0_6, .ref a0_7, .ref a0_8, .ref a0_9, .int a0_10])), (a0_3, .inr (1, [.ref a0_3_0, .ref a0_3_1, .ref a0_3_2, .int a0_3_3])), (a0_3_0, .inl (a0_3_0_c, 12, .inl a0_3_0_f)), (a0_3_1, .inl (a0_3_1_c, 12, .inl a0_3_1_f)), (a0_3_2, .inl (a0_3_2_c, 12, .inl a0_3_2_f))] s.heap.size = A at hD hE ⊢
  have hA : ∀ q : Nat, s.heap.size ≤ q → A q := fun q h => by rw [← hAe]; exact Or.inr h
  have hS : va_S A s.heap s.heap [] := va_S.rf
  replace hP : va_P (dC, dI) vwCl [(a0, .inr (7, [.ref a0_0, .ref a0_1, .ref a0_2, .ref a0_3, .ref a0_4, .ref a0_5, .ref a0_6, .ref a0_7, .ref a0_8, .ref a0_9, .int a0_10])), (a0_3, .inr (1, [.ref a0_3_0, .ref a0_3_1, .ref a0_3_2, .int a0_3_3])), (a0_3_0, .inl (a0_3_0_c, 12, .inl a0_3_0_f)), (a0_3_1, .inl (a0_3_1_c, 12, .inl a0_3_1_f)), (a0_3_2, .inl (a0_3_2_c, 12, .inl a0_3_2_f))] s.heap := hP
  have hl := lv_entry ([.ref a0, .int a1, .int a2, .int a3]) (n := 4) (Nat.le_of_ble_eq_true rfl)
  rw [lg_entry_eq]
  generalize (lg_sl ([.ref a0, .int a1, .int a2, .int a3]) ++ List.replicate (4 - (lg_sl ([.ref a0, .int a1, .int a2, .int a3])).length) Slot.unset).toArray = ls at hl ⊢
  have hl : lv_has ls 4 [(0, .ref a0), (1, .int a1), (2, .int a2), (3, .int a3)] := hl
  have b_a1 := i32b a1
  have b_a2 := i32b a2
  have b_a3 := i32b a3
  have b_a0_10 := i32b a0_10
  refine lv_aload_n hx hb dX8_remember_0 rfl (lv_at hl 0 rfl) ?_
  refine va_get (D := (dC, dI)) (ci := 7) (v := .ref a0_3) (C := RX8) (T := TX8) (N := 11) hx hb hts inlX8 hown hK hP 0 rgL5_a6879b9 rfl 3 (by decide) (hts (.fieldLink RX8 33 "ClosedUntil" "journal" "LClosedUntil$Journal;") qw_276) (fun _ h9 => h9) rfl dX8_remember_1 ?_
  refine lv_iload_n hx hb dX8_remember_4 rfl (lv_at hl 1 rfl) ?_
  refine lv_iload_n hx hb dX8_remember_5 rfl (lv_at hl 2 rfl) ?_
  refine lv_iload_n hx hb dX8_remember_6 rfl (lv_at hl 3 rfl) ?_
  have hPc := (rgP5_0e718bd hP)
  have hKc := hK
  have hDc := (rgD5_aebab85 hD)
  have hFc := freeW hDc hS hA
  refine va_callv (va_runVN (As := [.int a1, .int a2, .int a3]) (rest := []) ⟨hx, hb, hml, hown, hts⟩ (k_X2_add l dC dI g s.heap.size (a0_3) (a1) (a2) (a3) (a0_3_0) (a0_3_1) (a0_3_2) (a0_3_3) (a0_3_0_c) (a0_3_0_f) (a0_3_1_c) (a0_3_1_f) (a0_3_2_c) (a0_3_2_f) (by omega) (by assumption) (by assumption)) ⟨va_cnB 3 hts (gwC qw_277) rfl rfl rfl (nm_44 hN) (hts (.initialized RX2) qw_42) (by decide +kernel) ⟨Nat.le_of_ble_eq_true rfl, Nat.le_of_ble_eq_true rfl⟩, (hts (.instanceMethod yX2_add) qw_278), (hts (.selects RX2 yX2_add yX2_add) qw_279)⟩ ⟨fun a U g9 mk q => ⟨q.1, q.2.1, q.2.2.1, va_K.moved (u := U) (U := U.calling g9 mk a) (Vm.Alike.refl U.vm) q.2.2.2.1, q.2.2.2.2.1, Ev.bl q.2.2.2.2.2⟩, va_recv hK hP (ci := 1) (q0 := 1) rfl rgL5_8fa4d66, fun U hU hW => ⟨rfl, by rw [hU], atB hU hPc, va_K.moved hW.alike hKc, hDc.weaken (fun _ _ _ _ => trivial), hE.go hS hFc hU hW⟩⟩ rfl rfl hl.1 rfl (lv_room (Nat.le_of_ble_eq_true rfl)) dX8_remember_7 ⟨Nat.le_of_ble_eq_true rfl, Nat.le_of_ble_eq_true rfl⟩) hS (fun q _ h => hFc q h) hFc (fun u1 t H1 locs ht hvm h_u1 hB hz1 hk1 hS => ?_)
  obtain ⟨za0_3_3, za0_0_f_4, za0_1_f_5, za0_2_f_6, hF7, hF8, hF9, hP1, hK1, hD1⟩ := hB
  have hK1 := va_K.moved hvm.symm hK1
  have hJ9 := rgJ5_c227d9c hP hD hk1 hFc (atH ht hP1) hD1
  clear hP hD hPc hKc hDc hFc hP1 hD1 hk1 hz1
  obtain ⟨hP, hD⟩ := hJ9
  clear hK1
  generalize H1 = H at hP hS ⊢
  refine W.widen (k := 0) (n := 0) (Nat.le_of_ble_eq_true rfl) (Nat.le_of_ble_eq_true rfl) ?_
  refine lv_aload_n hx hb dX8_remember_10 rfl (lv_at hl 0 rfl) ?_
  refine lv_iconst (v := 1) hx hb dX8_remember_11 (by decide) ?_
  refine va_put (D := (dC, dI)) (ci := 7) (v := .int 1) (ty := .boolean) (C := RX8) (T := TX8) (N := 11) hx hb hts inlX8 tyX8 tyX8_ok nmX8 hown hK hP hD hS 0 rgL5_a6879b9 rfl 10 (by decide) (hts (.fieldLink RX8 65 "ClosedUntil" "stale" "Z") qw_280) (fun _ h9 => h9) rfl (by decide +kernel) rfl rfl (Nat.le_of_ble_eq_true rfl) dX8_remember_12 (fun H locs hP9 hD9 hS9 => ?_)
  clear hP hD hS
  obtain ⟨hP, hD⟩ := rgS5_283d4d4 (e := (a0, .inr (7, [.ref a0_0, .ref a0_1, .ref a0_2, .ref a0_3, .ref a0_4, .ref a0_5, .ref a0_6, .ref a0_7, .ref a0_8, .ref a0_9, .int 1]))) hP9 hD9 rfl
  have hS := hS9; clear hP9 hD9 hS9
  have qc1 : (1 : Int32).toInt = 1 := by decide
  refine W.widen (k := 0) (n := 0) (Nat.le_of_ble_eq_true rfl) (Nat.le_of_ble_eq_true rfl) ?_
  have hP9 := hP
  have hD9 := hD
  have hK9 := (rgK3_e7c053f hK)
  have hf9_0 : (0 ≤ za0_3_3.toInt ∧ za0_3_3.toInt ≤ 12) := by omega
  have hf9_1 : (JA za0_0_f_4 za0_1_f_5 za0_2_f_6 za0_3_3) := by assumption
  have hf9_2 : (J1 a0_3_0_f a0_3_1_f za0_0_f_4 za0_1_f_5 a0_3_3 za0_3_3 a1 a2) := by assumption
  exact W.vret hx hb hr (fun t ht hW => ⟨⟨(), rfl, trivial, 1, za0_3_3, za0_0_f_4, za0_1_f_5, za0_2_f_6, hf9_0, hf9_1, hf9_2, atB ht hP9, va_K.moved hW.alike hK9, hD9⟩, hS.F ht⟩) hS.2.2 dX8_remember_15
set_option maxHeartbeats 4000000 in
set_option maxRecDepth 100000 in
theorem k_X8_review (l : Launch) (dC : Nat → ClassId) (dI : Nat → Nat → Nat) (g : Gv) (sz : Nat) (a0 : Nat) (a1 : Int32) (a2 : Int32) (a3 : Int32) (a0_0 : Nat) (a0_1 : Nat) (a0_2 : Nat) (a0_3 : Nat) (a0_4 : Nat) (a0_5 : Nat) (a0_6 : Nat) (a0_7 : Nat) (a0_8 : Nat) (a0_9 : Nat) (a0_10 : Int32) (a0_3_0 : Nat) (a0_3_1 : Nat) (a0_3_2 : Nat) (a0_3_3 : Int32) (a0_3_0_c : ClassId) (a0_3_0_f : Nat → Int32) (a0_3_1_c : ClassId) (a0_3_1_f : Nat → Int32) (a0_3_2_c : ClassId) (a0_3_2_f : Nat → Int32) (a0_6_0 : Int32) (a0_6_1 : Nat) (a0_6_2 : Int32) (a0_6_3 : Nat) (a0_6_4 : Int32) (a0_6_5 : Nat) (a0_6_6 : Nat) (a0_6_7 : Nat) (a0_6_8 : Int32) (a0_6_9 : Nat) (a0_6_10 : Nat) (a0_6_11 : Nat) (a0_6_12 : Nat) (a0_6_13 : Nat) (a0_8_0 : Nat) (a0_8_1 : Nat) (a0_8_2 : Nat) (a0_8_3 : Nat) (a0_8_4 : Nat) (a0_8_5 : Nat) (a0_8_3_c : ClassId) (a0_8_3_f : Nat → Int32) (a0_8_4_c : ClassId) (a0_8_4_f : Nat → Option Nat) (a0_8_5_c : ClassId) (a0_8_5_f : Nat → Option Nat) (rows : va_W) (h_a0_3_3 : 0 ≤ a0_3_3.toInt ∧ a0_3_3.toInt ≤ 12) (h_a0_6_0 : 0 ≤ a0_6_0.toInt ∧ a0_6_0.toInt ≤ 8) (h_a0_6_2 : 0 ≤ a0_6_2.toInt ∧ a0_6_2.toInt ≤ 4) (h_a0_6_4 : 0 ≤ a0_6_4.toInt ∧ a0_6_4.toInt ≤ 24) (h_a0_6_8 : 0 ≤ a0_6_8.toInt ∧ a0_6_8.toInt ≤ 12) (h_a0_8_3_f : vr 0 5 a0_8_3_f) (h_a0_8_4_f : GR g.2.2.2.2.1 5 12 a0_8_4_f rows) (h_a0_8_5_f : GR g.2.2.2.2.1 5 12 a0_8_5_f rows) (hja : JA a0_3_0_f a0_3_1_f a0_3_2_f a0_3_3) (hjc : JC a0_3_0_f a0_3_1_f a0_3_3 a0_8_3_f) : Met l yX8_review (.code yX8_review cX8_review 5 (some .int) :: TBL) ({ frames := 4, cells := 0, slots := 0, locals := 116 }) (va_Pc [.ref a0, .int a1, .int a2, .int a3] (fun U => U.heap.size = sz ∧ va_P (dC, dI) vwCl (([(a0, .inr (7, [.ref a0_0, .ref a0_1, .ref a0_2, .ref a0_3, .ref a0_4, .ref a0_5, .ref a0_6, .ref a0_7, .ref a0_8, .ref a0_9, .int a0_10])), (a0_3, .inr (1, [.ref a0_3_0, .ref a0_3_1, .ref a0_3_2, .int a0_3_3])), (a0_3_0, .inl (a0_3_0_c, 12, .inl a0_3_0_f)), (a0_3_1, .inl (a0_3_1_c, 12, .inl a0_3_1_f)), (a0_3_2, .inl (a0_3_2_c, 12, .inl a0_3_2_f)), (a0_6, .inr (0, [.int a0_6_0, .ref a0_6_1, .int a0_6_2, .ref a0_6_3, .int a0_6_4, .ref a0_6_5, .ref a0_6_6, .ref a0_6_7, .int a0_6_8, .ref a0_6_9, .ref a0_6_10, .ref a0_6_11, .ref a0_6_12, .ref a0_6_13])), (a0_8, .inr (2, [.ref a0_8_0, .ref a0_8_1, .ref a0_8_2, .ref a0_8_3, .ref a0_8_4, .ref a0_8_5])), (a0_8_3, .inl (a0_8_3_c, 12, .inl a0_8_3_f)), (a0_8_4, .inl (a0_8_4_c, 12, .inr (.inr (.inr (.inr a0_8_4_f))))), (a0_8_5, .inl (a0_8_5_c, 12, .inr (.inr (.inr (.inr a0_8_5_f)))))] : va_W) ++ rows) U.heap ∧ va_K (dC, dI) vwCl [(a0_3_0_c, .int), (a0_3_1_c, .int), (a0_3_2_c, .int), (a0_8_3_c, .int), (a0_8_4_c, .array .int), (a0_8_5_c, .array .int)] U ∧ va_D (fun _ => True) (([(a0, .inr (7, [.ref a0_0, .ref a0_1, .ref a0_2, .ref a0_3, .ref a0_4, .ref a0_5, .ref a0_6, .ref a0_7, .ref a0_8, .ref a0_9, .int a0_10])), (a0_3, .inr (1, [.ref a0_3_0, .ref a0_3_1, .ref a0_3_2, .int a0_3_3])), (a0_3_0, .inl (a0_3_0_c, 12, .inl a0_3_0_f)), (a0_3_1, .inl (a0_3_1_c, 12, .inl a0_3_1_f)), (a0_3_2, .inl (a0_3_2_c, 12, .inl a0_3_2_f)), (a0_6, .inr (0, [.int a0_6_0, .ref a0_6_1, .int a0_6_2, .ref a0_6_3, .int a0_6_4, .ref a0_6_5, .ref a0_6_6, .ref a0_6_7, .int a0_6_8, .ref a0_6_9, .ref a0_6_10, .ref a0_6_11, .ref a0_6_12, .ref a0_6_13])), (a0_8, .inr (2, [.ref a0_8_0, .ref a0_8_1, .ref a0_8_2, .ref a0_8_3, .ref a0_8_4, .ref a0_8_5])), (a0_8_3, .inl (a0_8_3_c, 12, .inl a0_8_3_f)), (a0_8_4, .inl (a0_8_4_c, 12, .inr (.inr (.inr (.inr a0_8_4_f))))), (a0_8_5, .inl (a0_8_5_c, 12, .inr (.inr (.inr (.inr a0_8_5_f)))))] : va_W) ++ rows) ∧ Ev g (va_A (([(a0, .inr (7, [.ref a0_0, .ref a0_1, .ref a0_2, .ref a0_3, .ref a0_4, .ref a0_5, .ref a0_6, .ref a0_7, .ref a0_8, .ref a0_9, .int a0_10])), (a0_3, .inr (1, [.ref a0_3_0, .ref a0_3_1, .ref a0_3_2, .int a0_3_3])), (a0_3_0, .inl (a0_3_0_c, 12, .inl a0_3_0_f)), (a0_3_1, .inl (a0_3_1_c, 12, .inl a0_3_1_f)), (a0_3_2, .inl (a0_3_2_c, 12, .inl a0_3_2_f)), (a0_6, .inr (0, [.int a0_6_0, .ref a0_6_1, .int a0_6_2, .ref a0_6_3, .int a0_6_4, .ref a0_6_5, .ref a0_6_6, .ref a0_6_7, .int a0_6_8, .ref a0_6_9, .ref a0_6_10, .ref a0_6_11, .ref a0_6_12, .ref a0_6_13])), (a0_8, .inr (2, [.ref a0_8_0, .ref a0_8_1, .ref a0_8_2, .ref a0_8_3, .ref a0_8_4, .ref a0_8_5])), (a0_8_3, .inl (a0_8_3_c, 12, .inl a0_8_3_f)), (a0_8_4, .inl (a0_8_4_c, 12, .inr (.inr (.inr (.inr a0_8_4_f))))), (a0_8_5, .inl (a0_8_5_c, 12, .inr (.inr (.inr (.inr a0_8_5_f)))))] : va_W) ++ rows) sz) U)) (va_Qi (fun (r : Int32) (u : Int32) => u = r) (fun (u : Int32) (t : State) => ∃ (za0_10 : Int32) (za0_3_3 : Int32) (za0_3_0_f : Nat → Int32) (za0_3_1_f : Nat → Int32) (za0_3_2_f : Nat → Int32) (za0_8_3_f : Nat → Int32) (zrows : va_W), (0 ≤ za0_3_3.toInt ∧ za0_3_3.toInt ≤ 12) ∧ vr 0 5 za0_8_3_f ∧ RS g.2.2.2.2.1 rows zrows ∧ (JA za0_3_0_f za0_3_1_f za0_3_2_f za0_3_3) ∧ (JC za0_3_0_f za0_3_1_f za0_3_3 za0_8_3_f) ∧ va_P (dC, dI) vwCl (([(a0, .inr (7, [.ref a0_0, .ref a0_1, .ref a0_2, .ref a0_3, .ref a0_4, .ref a0_5, .ref a0_6, .ref a0_7, .ref a0_8, .ref a0_9, .int za0_10])), (a0_3, .inr (1, [.ref a0_3_0, .ref a0_3_1, .ref a0_3_2, .int za0_3_3])), (a0_3_0, .inl (a0_3_0_c, 12, .inl za0_3_0_f)), (a0_3_1, .inl (a0_3_1_c, 12, .inl za0_3_1_f)), (a0_3_2, .inl (a0_3_2_c, 12, .inl za0_3_2_f)), (a0_6, .inr (0, [.int a0_6_0, .ref a0_6_1, .int a0_6_2, .ref a0_6_3, .int a0_6_4, .ref a0_6_5, .ref a0_6_6, .ref a0_6_7, .int a0_6_8, .ref a0_6_9, .ref a0_6_10, .ref a0_6_11, .ref a0_6_12, .ref a0_6_13])), (a0_8, .inr (2, [.ref a0_8_0, .ref a0_8_1, .ref a0_8_2, .ref a0_8_3, .ref a0_8_4, .ref a0_8_5])), (a0_8_3, .inl (a0_8_3_c, 12, .inl za0_8_3_f)), (a0_8_4, .inl (a0_8_4_c, 12, .inr (.inr (.inr (.inr a0_8_4_f))))), (a0_8_5, .inl (a0_8_5_c, 12, .inr (.inr (.inr (.inr a0_8_5_f)))))] : va_W) ++ zrows) t.heap ∧ va_K (dC, dI) vwCl [] t ∧ va_D (va_A (([(a0, .inr (7, [.ref a0_0, .ref a0_1, .ref a0_2, .ref a0_3, .ref a0_4, .ref a0_5, .ref a0_6, .ref a0_7, .ref a0_8, .ref a0_9, .int a0_10])), (a0_3, .inr (1, [.ref a0_3_0, .ref a0_3_1, .ref a0_3_2, .int a0_3_3])), (a0_3_0, .inl (a0_3_0_c, 12, .inl a0_3_0_f)), (a0_3_1, .inl (a0_3_1_c, 12, .inl a0_3_1_f)), (a0_3_2, .inl (a0_3_2_c, 12, .inl a0_3_2_f)), (a0_6, .inr (0, [.int a0_6_0, .ref a0_6_1, .int a0_6_2, .ref a0_6_3, .int a0_6_4, .ref a0_6_5, .ref a0_6_6, .ref a0_6_7, .int a0_6_8, .ref a0_6_9, .ref a0_6_10, .ref a0_6_11, .ref a0_6_12, .ref a0_6_13])), (a0_8, .inr (2, [.ref a0_8_0, .ref a0_8_1, .ref a0_8_2, .ref a0_8_3, .ref a0_8_4, .ref a0_8_5])), (a0_8_3, .inl (a0_8_3_c, 12, .inl a0_8_3_f)), (a0_8_4, .inl (a0_8_4_c, 12, .inr (.inr (.inr (.inr a0_8_4_f))))), (a0_8_5, .inl (a0_8_5_c, 12, .inr (.inr (.inr (.inr a0_8_5_f)))))] : va_W) ++ rows) sz) (([(a0, .inr (7, [.ref a0_0, .ref a0_1, .ref a0_2, .ref a0_3, .ref a0_4, .ref a0_5, .ref a0_6, .ref a0_7, .ref a0_8, .ref a0_9, .int za0_10])), (a0_3, .inr (1, [.ref a0_3_0, .ref a0_3_1, .ref a0_3_2, .int za0_3_3])), (a0_3_0, .inl (a0_3_0_c, 12, .inl za0_3_0_f)), (a0_3_1, .inl (a0_3_1_c, 12, .inl za0_3_1_f)), (a0_3_2, .inl (a0_3_2_c, 12, .inl za0_3_2_f)), (a0_6, .inr (0, [.int a0_6_0, .ref a0_6_1, .int a0_6_2, .ref a0_6_3, .int a0_6_4, .ref a0_6_5, .ref a0_6_6, .ref a0_6_7, .int a0_6_8, .ref a0_6_9, .ref a0_6_10, .ref a0_6_11, .ref a0_6_12, .ref a0_6_13])), (a0_8, .inr (2, [.ref a0_8_0, .ref a0_8_1, .ref a0_8_2, .ref a0_8_3, .ref a0_8_4, .ref a0_8_5])), (a0_8_3, .inl (a0_8_3_c, 12, .inl za0_8_3_f)), (a0_8_4, .inl (a0_8_4_c, 12, .inr (.inr (.inr (.inr a0_8_4_f))))), (a0_8_5, .inl (a0_8_5_c, 12, .inr (.inr (.inr (.inr a0_8_5_f)))))] : va_W) ++ zrows)) (va_A (([(a0, .inr (7, [.ref a0_0, .ref a0_1, .ref a0_2, .ref a0_3, .ref a0_4, .ref a0_5, .ref a0_6, .ref a0_7, .ref a0_8, .ref a0_9, .int a0_10])), (a0_3, .inr (1, [.ref a0_3_0, .ref a0_3_1, .ref a0_3_2, .int a0_3_3])), (a0_3_0, .inl (a0_3_0_c, 12, .inl a0_3_0_f)), (a0_3_1, .inl (a0_3_1_c, 12, .inl a0_3_1_f)), (a0_3_2, .inl (a0_3_2_c, 12, .inl a0_3_2_f)), (a0_6, .inr (0, [.int a0_6_0, .ref a0_6_1, .int a0_6_2, .ref a0_6_3, .int a0_6_4, .ref a0_6_5, .ref a0_6_6, .ref a0_6_7, .int a0_6_8, .ref a0_6_9, .ref a0_6_10, .ref a0_6_11, .ref a0_6_12, .ref a0_6_13])), (a0_8, .inr (2, [.ref a0_8_0, .ref a0_8_1, .ref a0_8_2, .ref a0_8_3, .ref a0_8_4, .ref a0_8_5])), (a0_8_3, .inl (a0_8_3_c, 12, .inl a0_8_3_f)), (a0_8_4, .inl (a0_8_4_c, 12, .inr (.inr (.inr (.inr a0_8_4_f))))), (a0_8_5, .inl (a0_8_5_c, 12, .inr (.inr (.inr (.inr a0_8_5_f)))))] : va_W) ++ rows) sz)) 0 0 (va_A (([(a0, .inr (7, [.ref a0_0, .ref a0_1, .ref a0_2, .ref a0_3, .ref a0_4, .ref a0_5, .ref a0_6, .ref a0_7, .ref a0_8, .ref a0_9, .int a0_10])), (a0_3, .inr (1, [.ref a0_3_0, .ref a0_3_1, .ref a0_3_2, .int a0_3_3])), (a0_3_0, .inl (a0_3_0_c, 12, .inl a0_3_0_f)), (a0_3_1, .inl (a0_3_1_c, 12, .inl a0_3_1_f)), (a0_3_2, .inl (a0_3_2_c, 12, .inl a0_3_2_f)), (a0_6, .inr (0, [.int a0_6_0, .ref a0_6_1, .int a0_6_2, .ref a0_6_3, .int a0_6_4, .ref a0_6_5, .ref a0_6_6, .ref a0_6_7, .int a0_6_8, .ref a0_6_9, .ref a0_6_10, .ref a0_6_11, .ref a0_6_12, .ref a0_6_13])), (a0_8, .inr (2, [.ref a0_8_0, .ref a0_8_1, .ref a0_8_2, .ref a0_8_3, .ref a0_8_4, .ref a0_8_5])), (a0_8_3, .inl (a0_8_3_c, 12, .inl a0_8_3_f)), (a0_8_4, .inl (a0_8_4_c, 12, .inr (.inr (.inr (.inr a0_8_4_f))))), (a0_8_5, .inl (a0_8_5_c, 12, .inr (.inr (.inr (.inr a0_8_5_f)))))] : va_W) ++ rows) sz) := by
  refine Met.ofW (cc := cX8_review) (maxL := 5) (ret := (some .int)) (by decide) rfl ?_
  intro p e s m args below meth c s₁ B hml hv
  obtain ⟨rfl, hsz, hP, hK, hD0, hE⟩ := hv
  have hx := B.exec
  have hb := B.bytes
  have hr := B.returns
  have hts0 := atoms_spec (ws := (.code yX8_review cX8_review 5 (some .int) :: TBL)) B.pre
  have hts := fun (w : Cond) (h : w ∈ TBL) => hts0 w (List.mem_cons_of_mem _ h)
  have hown : s.vm.findClass RX8 = some m.cls := findClass_of_methodNamed B.named
  have hlocks := B.notSynchronized
  have hN := hE.1
  subst hsz
  have hD := hD0.self (sz := s.heap.size)
  generalize hAe : va_A (([(a0, .inr (7, [.ref a0_0, .ref a0_1, .ref a0_2, .ref a0_3, .ref a0_4, .ref a0_5, .ref a0_6, .ref a0_7, .ref a0_8, .ref a0_9, .int a0_10])), (a0_3, .inr (1, [.ref a0_3_0, .ref a0_3_1, .ref a0_3_2, .int a0_3_3])), (a0_3_0, .inl (a0_3_0_c, 12, .inl a0_3_0_f)), (a0_3_1, .inl (a0_3_1_c, 12, .inl a0_3_1_f)), (a0_3_2, .inl (a0_3_2_c, 12, .inl a0_3_2_f)), (a0_6, .inr (0, [.int a0_6_0, .ref a0_6_1, .int a0_6_2, .ref a0_6_3, .int a0_6_4, .ref a0_6_5, .ref a0_6_6, .ref a0_6_7, .int a0_6_8, .ref a0_6_9, .ref a0_6_10, .ref a0_6_11, .ref a0_6_12, .ref a0_6_13])), (a0_8, .inr (2, [.ref a0_8_0, .ref a0_8_1, .ref a0_8_2, .ref a0_8_3, .ref a0_8_4, .ref a0_8_5])), (a0_8_3, .inl (a0_8_3_c, 12, .inl a0_8_3_f)), (a0_8_4, .inl (a0_8_4_c, 12, .inr (.inr (.inr (.inr a0_8_4_f))))), (a0_8_5, .inl (a0_8_5_c, 12, .inr (.inr (.inr (.inr a0_8_5_f)))))] : va_W) ++ rows) s.heap.size = A at hD hE ⊢
  have hA : ∀ q : Nat, s.heap.size ≤ q → A q := fun q h => by rw [← hAe]; exact Or.inr h
  have hS : va_S A s.heap s.heap [] := va_S.rf
  replace hP : va_P (dC, dI) vwCl (([(a0, .inr (7, [.ref a0_0, .ref a0_1, .ref a0_2, .ref a0_3, .ref a0_4, .ref a0_5, .ref a0_6, .ref a0_7, .ref a0_8, .ref a0_9, .int a0_10])), (a0_3, .inr (1, [.ref a0_3_0, .ref a0_3_1, .ref a0_3_2, .int a0_3_3])), (a0_3_0, .inl (a0_3_0_c, 12, .inl a0_3_0_f)), (a0_3_1, .inl (a0_3_1_c, 12, .inl a0_3_1_f)), (a0_3_2, .inl (a0_3_2_c, 12, .inl a0_3_2_f)), (a0_6, .inr (0, [.int a0_6_0, .ref a0_6_1, .int a0_6_2, .ref a0_6_3, .int a0_6_4, .ref a0_6_5, .ref a0_6_6, .ref a0_6_7, .int a0_6_8, .ref a0_6_9, .ref a0_6_10, .ref a0_6_11, .ref a0_6_12, .ref a0_6_13])), (a0_8, .inr (2, [.ref a0_8_0, .ref a0_8_1, .ref a0_8_2, .ref a0_8_3, .ref a0_8_4, .ref a0_8_5])), (a0_8_3, .inl (a0_8_3_c, 12, .inl a0_8_3_f)), (a0_8_4, .inl (a0_8_4_c, 12, .inr (.inr (.inr (.inr a0_8_4_f))))), (a0_8_5, .inl (a0_8_5_c, 12, .inr (.inr (.inr (.inr a0_8_5_f)))))] : va_W) ++ rows) s.heap := hP
  have hl := lv_entry ([.ref a0, .int a1, .int a2, .int a3]) (n := 5) (Nat.le_of_ble_eq_true rfl)
  rw [lg_entry_eq]
  generalize (lg_sl ([.ref a0, .int a1, .int a2, .int a3]) ++ List.replicate (5 - (lg_sl ([.ref a0, .int a1, .int a2, .int a3])).length) Slot.unset).toArray = ls at hl ⊢
  have hl : lv_has ls 5 [(0, .ref a0), (1, .int a1), (2, .int a2), (3, .int a3)] := hl
  have hK := cyK hK (hts (.arrayClass .int) qw_54) hE.2.2.2.2.2.2.2.2.2.2.2.2.1
  replace hK : va_K (dC, dI) vwCl [(a0_3_0_c, .int), (a0_3_1_c, .int), (a0_3_2_c, .int), (a0_8_3_c, .int), (a0_8_4_c, .array .int), (a0_8_5_c, .array .int), (g.2.2.2.2.1, .int)] s := hK
  have b_a1 := i32b a1
  have b_a2 := i32b a2
  have b_a3 := i32b a3
  have b_a0_10 := i32b a0_10
  have hRS : RS g.2.2.2.2.1 rows rows := RS.rf
  refine lv_aload_n hx hb dX8_review_0 rfl (lv_at hl 0 rfl) ?_
  refine va_get (D := (dC, dI)) (ci := 7) (v := .ref a0_6) (C := RX8) (T := TX8) (N := 11) hx hb hts inlX8 hown hK hP 0 rgL10_ed6c27a rfl 6 (by decide) (hts (.fieldLink RX8 51 "ClosedUntil" "told" "LClosedUntil$Holdings;") qw_262) (fun _ h9 => h9) rfl dX8_review_1 ?_
  refine lv_iload_n hx hb dX8_review_4 rfl (lv_at hl 1 rfl) ?_
  have hPc := (rgP10_f1a6605 hP)
  have hKc := (rgK7_1b59772 hK)
  refine vp_callSi ((va_runVN (As := [.int a1]) (rest := []) ⟨hx, hb, hml, hown, hts⟩ (k_X1_hasClosure l dC dI g (a0_6) (a1) (a0_6_0) (a0_6_1) (a0_6_2) (a0_6_3) (a0_6_4) (a0_6_5) (a0_6_6) (a0_6_7) (a0_6_8) (a0_6_9) (a0_6_10) (a0_6_11) (a0_6_12) (a0_6_13) (by omega) (by omega) (by omega) (by omega)) ⟨va_cnB 1 hts (gwC qw_281) rfl rfl rfl (nm_33 hN) (hts (.initialized RX1) qw_183) (by decide +kernel) ⟨Nat.le_of_ble_eq_true rfl, Nat.le_of_ble_eq_true rfl⟩, (hts (.instanceMethod yX1_hasClosure) qw_282), (hts (.selects RX1 yX1_hasClosure yX1_hasClosure) qw_283)⟩ ⟨fun a U g9 mk q => ⟨q.1, q.2.1, va_K.moved (u := U) (U := U.calling g9 mk a) (Vm.Alike.refl U.vm) q.2.2.1, Ev.bl q.2.2.2⟩, va_recv hK hP (ci := 0) (q0 := 5) rfl rgL10_2ecdb4e, fun U hU hW => ⟨rfl, atB hU hPc, va_K.moved hW.alike hKc, hE.go hS (fun _ h => h.elim) hU hW⟩⟩ rfl rfl hl.1 rfl (lv_room (Nat.le_of_ble_eq_true rfl)) dX8_review_5 ⟨Nat.le_of_ble_eq_true rfl, Nat.le_of_ble_eq_true rfl⟩)).run (fun r1 h_r1 => ?_)
  have h_r1 : (r1 = 0 ∨ r1 = 1) ∧ ((r1.toInt = 1 ∧ 0 ≤ a1.toInt ∧ a1.toInt < a0_6_8.toInt) ∨ r1.toInt = 0) := h_r1
  have b_r1 := z01 (show r1 = 0 ∨ r1 = 1 from h_r1.1)
  refine lv_if_eq (tgt := 30) hx hb dX8_review_8 (by decide) (fun c8_2 => ?_) (fun c8_2 => ?_)
  · have c8_2 : r1.toInt = 0 := (cv_eq rfl (by decide)).mp c8_2
    refine lv_iconst (v := (-1)) hx hb dX8_review_30 (by decide) ?_
    have qcm1 : ((-1) : Int32).toInt = (-1) := by decide
    refine W.widen (k := 0) (n := 0) (Nat.le_of_ble_eq_true rfl) (Nat.le_of_ble_eq_true rfl) ?_
    have hP9 := hP
    have hD9 := hD
    have hK9 := (rgK7_1b59772 hK)
    have hf9_0 : (0 ≤ a0_3_3.toInt ∧ a0_3_3.toInt ≤ 12) := by omega
    have hf9_1 : vr 0 5 a0_8_3_f := h_a0_8_3_f
    have hf9_2 : RS g.2.2.2.2.1 rows rows := hRS
    have hf9_3 : (JA a0_3_0_f a0_3_1_f a0_3_2_f a0_3_3) := by assumption
    have hf9_4 : (JC a0_3_0_f a0_3_1_f a0_3_3 a0_8_3_f) := hjc
    exact W.iret (v := (-1)) hx hb hr (fun t ht hW => ⟨⟨(-1), (-1), rfl, rfl, a0_10, a0_3_3, a0_3_0_f, a0_3_1_f, a0_3_2_f, a0_8_3_f, rows, hf9_0, hf9_1, hf9_2, hf9_3, hf9_4, atB ht hP9, va_K.moved hW.alike hK9, hD9⟩, hS.F ht⟩) hS.2.2 dX8_review_31
  · have c8_2 : ¬ (r1.toInt = 0) := mt (cv_eq rfl (by decide)).mpr c8_2
    refine lv_iload_n hx hb dX8_review_11 rfl (lv_at hl 2 rfl) ?_
    have hPc := (rgP10_1e42bb6 hP)
    have hKc := (rgK7_1b59772 hK)
    refine vp_callSi ((va_runSN (As := [.int a2]) (rest := []) ⟨hx, hb, hml, hown, hts⟩ (k_X0_has l dC dI g (a2) ) ⟨va_cnB 1 hts (gwC qw_251) rfl rfl rfl (nm_19 hN) (hts (.initialized RX0) qw_3) (by decide +kernel) ⟨Nat.le_of_ble_eq_true rfl, Nat.le_of_ble_eq_true rfl⟩, (hts (.static yX0_has) qw_252), trivial⟩ ⟨fun a U g9 mk q => ⟨q.1, q.2.1, va_K.moved (u := U) (U := U.calling g9 mk a) (Vm.Alike.refl U.vm) q.2.2.1, Ev.bl q.2.2.2⟩, fun U hU hW => ⟨rfl, atB hU hPc, va_K.moved hW.alike hKc, hE.go hS (fun _ h => h.elim) hU hW⟩⟩ rfl rfl hl.1 rfl (lv_room (Nat.le_of_ble_eq_true rfl)) dX8_review_12 ⟨Nat.le_of_ble_eq_true rfl, Nat.le_of_ble_eq_true rfl⟩)).run (fun r3 h_r3 => ?_)
    have h_r3 : (r3 = 0 ∨ r3 = 1) := h_r3
    have b_r3 := z01 (show r3 = 0 ∨ r3 = 1 from h_r3)
    refine lv_if_eq (tgt := 30) hx hb dX8_review_15 (by decide) (fun c15_4 => ?_) (fun c15_4 => ?_)
    · have c15_4 : r3.toInt = 0 := (cv_eq rfl (by decide)).mp c15_4
      refine lv_iconst (v := (-1)) hx hb dX8_review_30 (by decide) ?_
      have qcm1 : ((-1) : Int32).toInt = (-1) := by decide
      refine W.widen (k := 0) (n := 0) (Nat.le_of_ble_eq_true rfl) (Nat.le_of_ble_eq_true rfl) ?_
      have hP9 := hP
      have hD9 := hD
      have hK9 := (rgK7_1b59772 hK)
      have hf9_0 : (0 ≤ a0_3_3.toInt ∧ a0_3_3.toInt ≤ 12) := by omega
      have hf9_1 : vr 0 5 a0_8_3_f := h_a0_8_3_f
      have hf9_2 : RS g.2.2.2.2.1 rows rows := hRS
      have hf9_3 : (JA a0_3_0_f a0_3_1_f a0_3_2_f a0_3_3) := by assumption
      have hf9_4 : (JC a0_3_0_f a0_3_1_f a0_3_3 a0_8_3_f) := hjc
      exact W.iret (v := (-1)) hx hb hr (fun t ht hW => ⟨⟨(-1), (-1), rfl, rfl, a0_10, a0_3_3, a0_3_0_f, a0_3_1_f, a0_3_2_f, a0_8_3_f, rows, hf9_0, hf9_1, hf9_2, hf9_3, hf9_4, atB ht hP9, va_K.moved hW.alike hK9, hD9⟩, hS.F ht⟩) hS.2.2 dX8_review_31
    · have c15_4 : ¬ (r3.toInt = 0) := mt (cv_eq rfl (by decide)).mpr c15_4
      refine lv_iload_n hx hb dX8_review_18 rfl (lv_at hl 3 rfl) ?_
      refine lv_bipush (v := (-50)) hx hb dX8_review_19 (by decide) ?_
      refine lv_icmp_lt (tgt := 30) hx hb dX8_review_21 (by decide) (fun c21_5 => ?_) (fun c21_5 => ?_)
      · have c21_5 : a3.toInt < (-50) := (cv_lt rfl (by decide)).mp c21_5
        refine lv_iconst (v := (-1)) hx hb dX8_review_30 (by decide) ?_
        have qcm1 : ((-1) : Int32).toInt = (-1) := by decide
        refine W.widen (k := 0) (n := 0) (Nat.le_of_ble_eq_true rfl) (Nat.le_of_ble_eq_true rfl) ?_
        have hP9 := hP
        have hD9 := hD
        have hK9 := (rgK7_1b59772 hK)
        have hf9_0 : (0 ≤ a0_3_3.toInt ∧ a0_3_3.toInt ≤ 12) := by omega
        have hf9_1 : vr 0 5 a0_8_3_f := h_a0_8_3_f
        have hf9_2 : RS g.2.2.2.2.1 rows rows := hRS
        have hf9_3 : (JA a0_3_0_f a0_3_1_f a0_3_2_f a0_3_3) := by assumption
        have hf9_4 : (JC a0_3_0_f a0_3_1_f a0_3_3 a0_8_3_f) := hjc
        exact W.iret (v := (-1)) hx hb hr (fun t ht hW => ⟨⟨(-1), (-1), rfl, rfl, a0_10, a0_3_3, a0_3_0_f, a0_3_1_f, a0_3_2_f, a0_8_3_f, rows, hf9_0, hf9_1, hf9_2, hf9_3, hf9_4, atB ht hP9, va_K.moved hW.alike hK9, hD9⟩, hS.F ht⟩) hS.2.2 dX8_review_31
      · have c21_5 : ¬ (a3.toInt < (-50)) := mt (cv_lt rfl (by decide)).mpr c21_5
        refine lv_iload_n hx hb dX8_review_24 rfl (lv_at hl 3 rfl) ?_
        refine lv_bipush (v := 50) hx hb dX8_review_25 (by decide) ?_
        refine lv_icmp_le (tgt := 32) hx hb dX8_review_27 (by decide) (fun c27_6 => ?_) (fun c27_6 => ?_)
        · have c27_6 : a3.toInt ≤ 50 := (cv_le rfl (by decide)).mp c27_6
          refine lv_aload_n hx hb dX8_review_32 rfl (lv_at hl 0 rfl) ?_
          refine va_get (D := (dC, dI)) (ci := 7) (v := .ref a0_8) (C := RX8) (T := TX8) (N := 11) hx hb hts inlX8 hown hK hP 0 rgL10_ed6c27a rfl 8 (by decide) (hts (.fieldLink RX8 58 "ClosedUntil" "now" "LClosedUntil$State;") qw_266) (fun _ h9 => h9) rfl dX8_review_33 ?_
          refine va_getN (D := (dC, dI)) (ci := 2) (v := .ref a0_8_3) (C := RX3) (T := TX3) (N := 6) hx hb hts inlX3 hown hK hP 6 rgL10_de5b6f1 rfl 3 (by decide) (va_Nw.use rfl (nf_23 hN)) (fun _ h9 => h9) rfl dX8_review_36 ?_
          refine lv_iload_n hx hb dX8_review_39 rfl (lv_at hl 1 rfl) ?_
          refine va_iald hx hb hK hP 7 3 rgL10_50db701 rgT7_31013df (vinI (by omega) (by omega)) dX8_review_40 ?_
          refine lv_topi (fun x7 e_x7 => ?_)
          have b_x7 : 0 ≤ x7.toInt ∧ x7.toInt ≤ 5 := vr_at (lo := 0) (hi := 5) (f := a0_8_3_f) h_a0_8_3_f e_x7
          refine lv_iconst (v := 5) hx hb dX8_review_41 (by decide) ?_
          refine lv_icmp_lt (tgt := 47) hx hb dX8_review_42 (by decide) (fun c42_8 => ?_) (fun c42_8 => ?_)
          · have c42_8 : x7.toInt < 5 := (cv_lt rfl (by decide)).mp c42_8
            have hrv9 : (a0_8_3_f a1.toNatClampNeg).toInt ≤ 4 := by rw [← e_x7]; omega
            refine lv_aload_n hx hb dX8_review_47 rfl (lv_at hl 0 rfl) ?_
            refine va_get (D := (dC, dI)) (ci := 7) (v := .ref a0_8) (C := RX8) (T := TX8) (N := 11) hx hb hts inlX8 hown hK hP 0 rgL10_ed6c27a rfl 8 (by decide) (hts (.fieldLink RX8 58 "ClosedUntil" "now" "LClosedUntil$State;") qw_266) (fun _ h9 => h9) rfl dX8_review_48 ?_
            refine lv_iload_n hx hb dX8_review_51 rfl (lv_at hl 1 rfl) ?_
            refine lv_iload_n hx hb dX8_review_52 rfl (lv_at hl 2 rfl) ?_
            refine lv_iload_n hx hb dX8_review_53 rfl (lv_at hl 3 rfl) ?_
            have hPc := (rgP10_bf90e08 hP)
            have hKc := (rgK7_71979b9 hK)
            have hDc := (rgD10_24f7209 hD)
            have hFc := freeW hDc hS hA
            refine va_calli (va_runVN (As := [.int a1, .int a2, .int a3]) (rest := []) ⟨hx, hb, hml, hown, hts⟩ (k_X3_addReview l dC dI g s.heap.size (a0_8) (a1) (a2) (a3) (a0_8_0) (a0_8_1) (a0_8_2) (a0_8_3) (a0_8_4) (a0_8_5) (a0_8_3_c) (a0_8_3_f) (a0_8_4_c) (a0_8_4_f) (a0_8_5_c) (a0_8_5_f) (rows) h_a0_8_3_f (RS.gr hRS h_a0_8_4_f) (RS.gr hRS h_a0_8_5_f) (by omega) (by first | assumption | omega)) ⟨va_cnB 3 hts (gwC qw_284) rfl rfl rfl (nm_43 hN) (hts (.initialized RX3) qw_57) (by decide +kernel) ⟨Nat.le_of_ble_eq_true rfl, Nat.le_of_ble_eq_true rfl⟩, (hts (.instanceMethod yX3_addReview) qw_285), (hts (.selects RX3 yX3_addReview yX3_addReview) qw_286)⟩ ⟨fun a U g9 mk q => ⟨q.1, q.2.1, q.2.2.1, va_K.moved (u := U) (U := U.calling g9 mk a) (Vm.Alike.refl U.vm) q.2.2.2.1, q.2.2.2.2.1, Ev.bl q.2.2.2.2.2⟩, va_recv hK hP (ci := 2) (q0 := 6) rfl rgL10_de5b6f1, fun U hU hW => ⟨rfl, by rw [hU], atB hU hPc, va_K.moved hW.alike hKc, hDc.weaken (fun _ _ _ _ => trivial), hE.go hS hFc hU hW⟩⟩ rfl rfl hl.1 rfl (lv_room (Nat.le_of_ble_eq_true rfl)) dX8_review_54 ⟨Nat.le_of_ble_eq_true rfl, Nat.le_of_ble_eq_true rfl⟩) hS (fun q _ h => hFc q h) hFc (fun r10 u9 t H1 locs ht hvm h_u9 hB hz1 hk1 hS => ?_)
            obtain ⟨za0_3_f_11, zrows_12, hF13, hF14, hF15, hF16, hP1, hK1, hD1⟩ := hB
            have hK1 := va_K.moved hvm.symm hK1
            have hJ9 := rgJ10_91ff9b1 hP hD hk1 hFc (atH ht hP1) hD1
            clear hP hD hPc hKc hDc hFc hP1 hD1 hk1 hz1
            obtain ⟨hP, hD⟩ := hJ9
            clear hK1
            generalize H1 = H at hP hS ⊢
            refine W.widen (k := 0) (n := 0) (Nat.le_of_ble_eq_true rfl) (Nat.le_of_ble_eq_true rfl) ?_
            have hRS := RS.tr hRS hF14
            have h_r10 := congrArg Int32.toInt h_u9
            have b_r10 := i32b r10
            refine lv_istore (lv' := [(4, .int r10), (0, .ref a0), (1, .int a1), (2, .int a2), (3, .int a3)]) hx hb dX8_review_57 hl (by decide) rfl (fun ls hl => ?_)
            refine lv_aload_n hx hb dX8_review_59 rfl (lv_at hl 1 rfl) ?_
            refine lv_iconst (v := 0) hx hb dX8_review_60 (by decide) ?_
            refine lv_iload_n hx hb dX8_review_61 rfl (lv_at hl 2 rfl) ?_
            refine lv_iload hx hb dX8_review_62 (lv_at hl 0 rfl) ?_
            have qc0 : (0 : Int32).toInt = 0 := by decide
            have hPc := (rgP10_893b47b hP)
            have hKc := (rgK7_b547fd3 hK)
            have hDc := (rgD10_1b14b07 hD)
            have hFc := freeW hDc hS hA
            refine va_callv (va_runV (As := [.int 0, .int a1, .int r10]) (rest := []) ⟨hx, hb, hml, hown, hts⟩ (k_X8_remember l dC dI g H.size (a0) (0) (a1) (r10) (a0_0) (a0_1) (a0_2) (a0_3) (a0_4) (a0_5) (a0_6) (a0_7) (a0_8) (a0_9) (a0_10) (a0_3_0) (a0_3_1) (a0_3_2) (a0_3_3) (a0_3_0_c) (a0_3_0_f) (a0_3_1_c) (a0_3_1_f) (a0_3_2_c) (a0_3_2_f) (by omega) (by assumption) (by unfold JE; omega)) (cwV 3 hts (gwV qw_288 qw_289 qw_290 qw_28 qw_287) rfl rfl rfl (by decide +kernel) ⟨Nat.le_of_ble_eq_true rfl, Nat.le_of_ble_eq_true rfl⟩) ⟨fun a U g9 mk q => ⟨q.1, q.2.1, q.2.2.1, va_K.moved (u := U) (U := U.calling g9 mk a) (Vm.Alike.refl U.vm) q.2.2.2.1, q.2.2.2.2.1, Ev.bl q.2.2.2.2.2⟩, va_recv hK hP (ci := 7) (q0 := 0) rfl rgL10_ed6c27a, fun U hU hW => ⟨rfl, by rw [hU], atB hU hPc, va_K.moved hW.alike hKc, hDc.weaken (fun _ _ _ _ => trivial), hE.go hS hFc hU hW⟩⟩ rfl rfl hl.1 rfl (lv_room (Nat.le_of_ble_eq_true rfl)) dX8_review_64 ⟨Nat.le_of_ble_eq_true rfl, Nat.le_of_ble_eq_true rfl⟩) hS (fun q _ h => hFc q h) hFc (fun u17 t H1 locs ht hvm h_u17 hB hz1 hk1 hS => ?_)
            obtain ⟨za0_10_19, za0_3_3_20, za0_3_0_f_21, za0_3_1_f_22, za0_3_2_f_23, hF24, hF25, hF26, hP1, hK1, hD1⟩ := hB
            have hK1 := va_K.moved hvm.symm hK1
            have hJ9 := rgJ10_d6acd95 hP hD hk1 hFc (atH ht hP1) hD1
            clear hP hD hPc hKc hDc hFc hP1 hD1 hk1 hz1
            obtain ⟨hP, hD⟩ := hJ9
            clear hK1
            generalize H1 = H at hP hS ⊢
            refine W.widen (k := 0) (n := 0) (Nat.le_of_ble_eq_true rfl) (Nat.le_of_ble_eq_true rfl) ?_
            refine lv_aload_n hx hb dX8_review_67 rfl (lv_at hl 1 rfl) ?_
            refine va_get (D := (dC, dI)) (ci := 7) (v := .ref a0_8) (C := RX8) (T := TX8) (N := 11) hx hb hts inlX8 hown hK hP 0 rgL10_ed6c27a rfl 8 (by decide) (hts (.fieldLink RX8 58 "ClosedUntil" "now" "LClosedUntil$State;") qw_266) (fun _ h9 => h9) rfl dX8_review_68 ?_
            refine va_getN (D := (dC, dI)) (ci := 2) (v := .ref a0_8_3) (C := RX3) (T := TX3) (N := 6) hx hb hts inlX3 hown hK hP 6 rgL10_de5b6f1 rfl 3 (by decide) (va_Nw.use rfl (nf_23 hN)) (fun _ h9 => h9) rfl dX8_review_71 ?_
            refine lv_iload_n hx hb dX8_review_74 rfl (lv_at hl 2 rfl) ?_
            refine va_iald hx hb hK hP 7 3 rgL10_50db701 rgT7_31013df (vinI (by omega) (by omega)) dX8_review_75 ?_
            refine lv_topi (fun x27 e_x27 => ?_)
            have b_x27 : 0 ≤ x27.toInt ∧ x27.toInt ≤ 5 := vr_at (lo := 0) (hi := 5) (f := za0_3_f_11) hF13 e_x27
            refine W.widen (k := 0) (n := 0) (Nat.le_of_ble_eq_true rfl) (Nat.le_of_ble_eq_true rfl) ?_
            have hP9 := hP
            have hD9 := hD
            have hK9 := (rgK7_1b59772 hK)
            have hf9_0 : (0 ≤ za0_3_3_20.toInt ∧ za0_3_3_20.toInt ≤ 12) := by omega
            have hf9_1 : vr 0 5 za0_3_f_11 := hF13
            have hf9_2 : RS g.2.2.2.2.1 rows zrows_12 := hRS
            have hf9_3 : (JA za0_3_0_f_21 za0_3_1_f_22 za0_3_2_f_23 za0_3_3_20) := by assumption
            have hf9_4 : (JC za0_3_0_f_21 za0_3_1_f_22 za0_3_3_20 za0_3_f_11) := JC.rev hjc (by assumption) (by omega) (by assumption)
            exact W.iret (v := x27) hx hb hr (fun t ht hW => ⟨⟨x27, x27, rfl, rfl, za0_10_19, za0_3_3_20, za0_3_0_f_21, za0_3_1_f_22, za0_3_2_f_23, za0_3_f_11, zrows_12, hf9_0, hf9_1, hf9_2, hf9_3, hf9_4, atB ht hP9, va_K.moved hW.alike hK9, hD9⟩, hS.F ht⟩) hS.2.2 dX8_review_76
          · have c42_8 : ¬ (x7.toInt < 5) := mt (cv_lt rfl (by decide)).mpr c42_8
            refine lv_iconst (v := (-1)) hx hb dX8_review_45 (by decide) ?_
            have qcm1 : ((-1) : Int32).toInt = (-1) := by decide
            refine W.widen (k := 0) (n := 0) (Nat.le_of_ble_eq_true rfl) (Nat.le_of_ble_eq_true rfl) ?_
            have hP9 := hP
            have hD9 := hD
            have hK9 := (rgK7_1b59772 hK)
            have hf9_0 : (0 ≤ a0_3_3.toInt ∧ a0_3_3.toInt ≤ 12) := by omega
            have hf9_1 : vr 0 5 a0_8_3_f := h_a0_8_3_f
            have hf9_2 : RS g.2.2.2.2.1 rows rows := hRS
            have hf9_3 : (JA a0_3_0_f a0_3_1_f a0_3_2_f a0_3_3) := by assumption
            have hf9_4 : (JC a0_3_0_f a0_3_1_f a0_3_3 a0_8_3_f) := hjc
            exact W.iret (v := (-1)) hx hb hr (fun t ht hW => ⟨⟨(-1), (-1), rfl, rfl, a0_10, a0_3_3, a0_3_0_f, a0_3_1_f, a0_3_2_f, a0_8_3_f, rows, hf9_0, hf9_1, hf9_2, hf9_3, hf9_4, atB ht hP9, va_K.moved hW.alike hK9, hD9⟩, hS.F ht⟩) hS.2.2 dX8_review_46
        · have c27_6 : ¬ (a3.toInt ≤ 50) := mt (cv_le rfl (by decide)).mpr c27_6
          refine lv_iconst (v := (-1)) hx hb dX8_review_30 (by decide) ?_
          have qcm1 : ((-1) : Int32).toInt = (-1) := by decide
          refine W.widen (k := 0) (n := 0) (Nat.le_of_ble_eq_true rfl) (Nat.le_of_ble_eq_true rfl) ?_
          have hP9 := hP
          have hD9 := hD
          have hK9 := (rgK7_1b59772 hK)
          have hf9_0 : (0 ≤ a0_3_3.toInt ∧ a0_3_3.toInt ≤ 12) := by omega
          have hf9_1 : vr 0 5 a0_8_3_f := h_a0_8_3_f
          have hf9_2 : RS g.2.2.2.2.1 rows rows := hRS
          have hf9_3 : (JA a0_3_0_f a0_3_1_f a0_3_2_f a0_3_3) := by assumption
          have hf9_4 : (JC a0_3_0_f a0_3_1_f a0_3_3 a0_8_3_f) := hjc
          exact W.iret (v := (-1)) hx hb hr (fun t ht hW => ⟨⟨(-1), (-1), rfl, rfl, a0_10, a0_3_3, a0_3_0_f, a0_3_1_f, a0_3_2_f, a0_8_3_f, rows, hf9_0, hf9_1, hf9_2, hf9_3, hf9_4, atB ht hP9, va_K.moved hW.alike hK9, hD9⟩, hS.F ht⟩) hS.2.2 dX8_review_31
set_option maxHeartbeats 4000000 in
set_option maxRecDepth 100000 in
theorem k_X8_lift (l : Launch) (dC : Nat → ClassId) (dI : Nat → Nat → Nat) (g : Gv) (sz : Nat) (a0 : Nat) (a1 : Int32) (a2 : Int32) (a0_0 : Nat) (a0_1 : Nat) (a0_2 : Nat) (a0_3 : Nat) (a0_4 : Nat) (a0_5 : Nat) (a0_6 : Nat) (a0_7 : Nat) (a0_8 : Nat) (a0_9 : Nat) (a0_10 : Int32) (a0_3_0 : Nat) (a0_3_1 : Nat) (a0_3_2 : Nat) (a0_3_3 : Int32) (a0_3_0_c : ClassId) (a0_3_0_f : Nat → Int32) (a0_3_1_c : ClassId) (a0_3_1_f : Nat → Int32) (a0_3_2_c : ClassId) (a0_3_2_f : Nat → Int32) (a0_6_0 : Int32) (a0_6_1 : Nat) (a0_6_2 : Int32) (a0_6_3 : Nat) (a0_6_4 : Int32) (a0_6_5 : Nat) (a0_6_6 : Nat) (a0_6_7 : Nat) (a0_6_8 : Int32) (a0_6_9 : Nat) (a0_6_10 : Nat) (a0_6_11 : Nat) (a0_6_12 : Nat) (a0_6_13 : Nat) (a0_8_0 : Nat) (a0_8_1 : Nat) (a0_8_2 : Nat) (a0_8_3 : Nat) (a0_8_4 : Nat) (a0_8_5 : Nat) (a0_8_2_c : ClassId) (a0_8_2_f : Nat → Int32) (a0_8_3_c : ClassId) (a0_8_3_f : Nat → Int32) (h_a0_3_3 : 0 ≤ a0_3_3.toInt ∧ a0_3_3.toInt ≤ 12) (h_a0_6_0 : 0 ≤ a0_6_0.toInt ∧ a0_6_0.toInt ≤ 8) (h_a0_6_2 : 0 ≤ a0_6_2.toInt ∧ a0_6_2.toInt ≤ 4) (h_a0_6_4 : 0 ≤ a0_6_4.toInt ∧ a0_6_4.toInt ≤ 24) (h_a0_6_8 : 0 ≤ a0_6_8.toInt ∧ a0_6_8.toInt ≤ 12) (h_a0_8_3_f : vr 0 5 a0_8_3_f) (hja : JA a0_3_0_f a0_3_1_f a0_3_2_f a0_3_3) (hjc : JC a0_3_0_f a0_3_1_f a0_3_3 a0_8_3_f) : Met l yX8_lift (.code yX8_lift cX8_lift 5 (some .int) :: TBL) ({ frames := 4, cells := 0, slots := 0, locals := 116 }) (va_Pc [.ref a0, .int a1, .int a2] (fun U => U.heap.size = sz ∧ va_P (dC, dI) vwCl [(a0, .inr (7, [.ref a0_0, .ref a0_1, .ref a0_2, .ref a0_3, .ref a0_4, .ref a0_5, .ref a0_6, .ref a0_7, .ref a0_8, .ref a0_9, .int a0_10])), (a0_3, .inr (1, [.ref a0_3_0, .ref a0_3_1, .ref a0_3_2, .int a0_3_3])), (a0_3_0, .inl (a0_3_0_c, 12, .inl a0_3_0_f)), (a0_3_1, .inl (a0_3_1_c, 12, .inl a0_3_1_f)), (a0_3_2, .inl (a0_3_2_c, 12, .inl a0_3_2_f)), (a0_6, .inr (0, [.int a0_6_0, .ref a0_6_1, .int a0_6_2, .ref a0_6_3, .int a0_6_4, .ref a0_6_5, .ref a0_6_6, .ref a0_6_7, .int a0_6_8, .ref a0_6_9, .ref a0_6_10, .ref a0_6_11, .ref a0_6_12, .ref a0_6_13])), (a0_8, .inr (2, [.ref a0_8_0, .ref a0_8_1, .ref a0_8_2, .ref a0_8_3, .ref a0_8_4, .ref a0_8_5])), (a0_8_2, .inl (a0_8_2_c, 12, .inl a0_8_2_f)), (a0_8_3, .inl (a0_8_3_c, 12, .inl a0_8_3_f))] U.heap ∧ va_K (dC, dI) vwCl [(a0_3_0_c, .int), (a0_3_1_c, .int), (a0_3_2_c, .int), (a0_8_2_c, .int), (a0_8_3_c, .int)] U ∧ va_D (fun _ => True) [(a0, .inr (7, [.ref a0_0, .ref a0_1, .ref a0_2, .ref a0_3, .ref a0_4, .ref a0_5, .ref a0_6, .ref a0_7, .ref a0_8, .ref a0_9, .int a0_10])), (a0_3, .inr (1, [.ref a0_3_0, .ref a0_3_1, .ref a0_3_2, .int a0_3_3])), (a0_3_0, .inl (a0_3_0_c, 12, .inl a0_3_0_f)), (a0_3_1, .inl (a0_3_1_c, 12, .inl a0_3_1_f)), (a0_3_2, .inl (a0_3_2_c, 12, .inl a0_3_2_f)), (a0_6, .inr (0, [.int a0_6_0, .ref a0_6_1, .int a0_6_2, .ref a0_6_3, .int a0_6_4, .ref a0_6_5, .ref a0_6_6, .ref a0_6_7, .int a0_6_8, .ref a0_6_9, .ref a0_6_10, .ref a0_6_11, .ref a0_6_12, .ref a0_6_13])), (a0_8, .inr (2, [.ref a0_8_0, .ref a0_8_1, .ref a0_8_2, .ref a0_8_3, .ref a0_8_4, .ref a0_8_5])), (a0_8_2, .inl (a0_8_2_c, 12, .inl a0_8_2_f)), (a0_8_3, .inl (a0_8_3_c, 12, .inl a0_8_3_f))] ∧ Ev g (va_A [(a0, .inr (7, [.ref a0_0, .ref a0_1, .ref a0_2, .ref a0_3, .ref a0_4, .ref a0_5, .ref a0_6, .ref a0_7, .ref a0_8, .ref a0_9, .int a0_10])), (a0_3, .inr (1, [.ref a0_3_0, .ref a0_3_1, .ref a0_3_2, .int a0_3_3])), (a0_3_0, .inl (a0_3_0_c, 12, .inl a0_3_0_f)), (a0_3_1, .inl (a0_3_1_c, 12, .inl a0_3_1_f)), (a0_3_2, .inl (a0_3_2_c, 12, .inl a0_3_2_f)), (a0_6, .inr (0, [.int a0_6_0, .ref a0_6_1, .int a0_6_2, .ref a0_6_3, .int a0_6_4, .ref a0_6_5, .ref a0_6_6, .ref a0_6_7, .int a0_6_8, .ref a0_6_9, .ref a0_6_10, .ref a0_6_11, .ref a0_6_12, .ref a0_6_13])), (a0_8, .inr (2, [.ref a0_8_0, .ref a0_8_1, .ref a0_8_2, .ref a0_8_3, .ref a0_8_4, .ref a0_8_5])), (a0_8_2, .inl (a0_8_2_c, 12, .inl a0_8_2_f)), (a0_8_3, .inl (a0_8_3_c, 12, .inl a0_8_3_f))] sz) U)) (va_Qi (fun (r : Int32) (u : Int32) => u = r) (fun (u : Int32) (t : State) => ∃ (za0_10 : Int32) (za0_3_3 : Int32) (za0_3_0_f : Nat → Int32) (za0_3_1_f : Nat → Int32) (za0_3_2_f : Nat → Int32) (za0_8_2_f : Nat → Int32), (0 ≤ za0_3_3.toInt ∧ za0_3_3.toInt ≤ 12) ∧ (JA za0_3_0_f za0_3_1_f za0_3_2_f za0_3_3) ∧ (JC za0_3_0_f za0_3_1_f za0_3_3 a0_8_3_f) ∧ va_P (dC, dI) vwCl [(a0, .inr (7, [.ref a0_0, .ref a0_1, .ref a0_2, .ref a0_3, .ref a0_4, .ref a0_5, .ref a0_6, .ref a0_7, .ref a0_8, .ref a0_9, .int za0_10])), (a0_3, .inr (1, [.ref a0_3_0, .ref a0_3_1, .ref a0_3_2, .int za0_3_3])), (a0_3_0, .inl (a0_3_0_c, 12, .inl za0_3_0_f)), (a0_3_1, .inl (a0_3_1_c, 12, .inl za0_3_1_f)), (a0_3_2, .inl (a0_3_2_c, 12, .inl za0_3_2_f)), (a0_6, .inr (0, [.int a0_6_0, .ref a0_6_1, .int a0_6_2, .ref a0_6_3, .int a0_6_4, .ref a0_6_5, .ref a0_6_6, .ref a0_6_7, .int a0_6_8, .ref a0_6_9, .ref a0_6_10, .ref a0_6_11, .ref a0_6_12, .ref a0_6_13])), (a0_8, .inr (2, [.ref a0_8_0, .ref a0_8_1, .ref a0_8_2, .ref a0_8_3, .ref a0_8_4, .ref a0_8_5])), (a0_8_2, .inl (a0_8_2_c, 12, .inl za0_8_2_f)), (a0_8_3, .inl (a0_8_3_c, 12, .inl a0_8_3_f))] t.heap ∧ va_K (dC, dI) vwCl [] t ∧ va_D (va_A [(a0, .inr (7, [.ref a0_0, .ref a0_1, .ref a0_2, .ref a0_3, .ref a0_4, .ref a0_5, .ref a0_6, .ref a0_7, .ref a0_8, .ref a0_9, .int a0_10])), (a0_3, .inr (1, [.ref a0_3_0, .ref a0_3_1, .ref a0_3_2, .int a0_3_3])), (a0_3_0, .inl (a0_3_0_c, 12, .inl a0_3_0_f)), (a0_3_1, .inl (a0_3_1_c, 12, .inl a0_3_1_f)), (a0_3_2, .inl (a0_3_2_c, 12, .inl a0_3_2_f)), (a0_6, .inr (0, [.int a0_6_0, .ref a0_6_1, .int a0_6_2, .ref a0_6_3, .int a0_6_4, .ref a0_6_5, .ref a0_6_6, .ref a0_6_7, .int a0_6_8, .ref a0_6_9, .ref a0_6_10, .ref a0_6_11, .ref a0_6_12, .ref a0_6_13])), (a0_8, .inr (2, [.ref a0_8_0, .ref a0_8_1, .ref a0_8_2, .ref a0_8_3, .ref a0_8_4, .ref a0_8_5])), (a0_8_2, .inl (a0_8_2_c, 12, .inl a0_8_2_f)), (a0_8_3, .inl (a0_8_3_c, 12, .inl a0_8_3_f))] sz) [(a0, .inr (7, [.ref a0_0, .ref a0_1, .ref a0_2, .ref a0_3, .ref a0_4, .ref a0_5, .ref a0_6, .ref a0_7, .ref a0_8, .ref a0_9, .int za0_10])), (a0_3, .inr (1, [.ref a0_3_0, .ref a0_3_1, .ref a0_3_2, .int za0_3_3])), (a0_3_0, .inl (a0_3_0_c, 12, .inl za0_3_0_f)), (a0_3_1, .inl (a0_3_1_c, 12, .inl za0_3_1_f)), (a0_3_2, .inl (a0_3_2_c, 12, .inl za0_3_2_f)), (a0_6, .inr (0, [.int a0_6_0, .ref a0_6_1, .int a0_6_2, .ref a0_6_3, .int a0_6_4, .ref a0_6_5, .ref a0_6_6, .ref a0_6_7, .int a0_6_8, .ref a0_6_9, .ref a0_6_10, .ref a0_6_11, .ref a0_6_12, .ref a0_6_13])), (a0_8, .inr (2, [.ref a0_8_0, .ref a0_8_1, .ref a0_8_2, .ref a0_8_3, .ref a0_8_4, .ref a0_8_5])), (a0_8_2, .inl (a0_8_2_c, 12, .inl za0_8_2_f)), (a0_8_3, .inl (a0_8_3_c, 12, .inl a0_8_3_f))]) (va_A [(a0, .inr (7, [.ref a0_0, .ref a0_1, .ref a0_2, .ref a0_3, .ref a0_4, .ref a0_5, .ref a0_6, .ref a0_7, .ref a0_8, .ref a0_9, .int a0_10])), (a0_3, .inr (1, [.ref a0_3_0, .ref a0_3_1, .ref a0_3_2, .int a0_3_3])), (a0_3_0, .inl (a0_3_0_c, 12, .inl a0_3_0_f)), (a0_3_1, .inl (a0_3_1_c, 12, .inl a0_3_1_f)), (a0_3_2, .inl (a0_3_2_c, 12, .inl a0_3_2_f)), (a0_6, .inr (0, [.int a0_6_0, .ref a0_6_1, .int a0_6_2, .ref a0_6_3, .int a0_6_4, .ref a0_6_5, .ref a0_6_6, .ref a0_6_7, .int a0_6_8, .ref a0_6_9, .ref a0_6_10, .ref a0_6_11, .ref a0_6_12, .ref a0_6_13])), (a0_8, .inr (2, [.ref a0_8_0, .ref a0_8_1, .ref a0_8_2, .ref a0_8_3, .ref a0_8_4, .ref a0_8_5])), (a0_8_2, .inl (a0_8_2_c, 12, .inl a0_8_2_f)), (a0_8_3, .inl (a0_8_3_c, 12, .inl a0_8_3_f))] sz)) 0 0 (va_A [(a0, .inr (7, [.ref a0_0, .ref a0_1, .ref a0_2, .ref a0_3, .ref a0_4, .ref a0_5, .ref a0_6, .ref a0_7, .ref a0_8, .ref a0_9, .int a0_10])), (a0_3, .inr (1, [.ref a0_3_0, .ref a0_3_1, .ref a0_3_2, .int a0_3_3])), (a0_3_0, .inl (a0_3_0_c, 12, .inl a0_3_0_f)), (a0_3_1, .inl (a0_3_1_c, 12, .inl a0_3_1_f)), (a0_3_2, .inl (a0_3_2_c, 12, .inl a0_3_2_f)), (a0_6, .inr (0, [.int a0_6_0, .ref a0_6_1, .int a0_6_2, .ref a0_6_3, .int a0_6_4, .ref a0_6_5, .ref a0_6_6, .ref a0_6_7, .int a0_6_8, .ref a0_6_9, .ref a0_6_10, .ref a0_6_11, .ref a0_6_12, .ref a0_6_13])), (a0_8, .inr (2, [.ref a0_8_0, .ref a0_8_1, .ref a0_8_2, .ref a0_8_3, .ref a0_8_4, .ref a0_8_5])), (a0_8_2, .inl (a0_8_2_c, 12, .inl a0_8_2_f)), (a0_8_3, .inl (a0_8_3_c, 12, .inl a0_8_3_f))] sz) := by
  refine Met.ofW (cc := cX8_lift) (maxL := 5) (ret := (some .int)) (by decide) rfl ?_
  intro p e s m args below meth c s₁ B hml hv
  obtain ⟨rfl, hsz, hP, hK, hD0, hE⟩ := hv
  have hx := B.exec
  have hb := B.bytes
  have hr := B.returns
  have hts0 := atoms_spec (ws := (.code yX8_lift cX8_lift 5 (some .int) :: TBL)) B.pre
  have hts := fun (w : Cond) (h : w ∈ TBL) => hts0 w (List.mem_cons_of_mem _ h)
  have hown : s.vm.findClass RX8 = some m.cls := findClass_of_methodNamed B.named
  have hlocks := B.notSynchronized
  have hN := hE.1
  subst hsz
  have hD := hD0.self (sz := s.heap.size)
  generalize hAe : va_A [(a0, .inr (7, [.ref a0_0, .ref a0_1, .ref a0_2, .ref a0_3, .ref a0_4, .ref a0_5, .ref a0_6, .ref a0_7, .ref a0_8, .ref a0_9, .int a0_10])), (a0_3, .inr (1, [.ref a0_3_0, .ref a0_3_1, .ref a0_3_2, .int a0_3_3])), (a0_3_0, .inl (a0_3_0_c, 12, .inl a0_3_0_f)), (a0_3_1, .inl (a0_3_1_c, 12, .inl a0_3_1_f)), (a0_3_2, .inl (a0_3_2_c, 12, .inl a0_3_2_f)), (a0_6, .inr (0, [.int a0_6_0, .ref a0_6_1, .int a0_6_2, .ref a0_6_3, .int a0_6_4, .ref a0_6_5, .ref a0_6_6, .ref a0_6_7, .int a0_6_8, .ref a0_6_9, .ref a0_6_10, .ref a0_6_11, .ref a0_6_12, .ref a0_6_13])), (a0_8, .inr (2, [.ref a0_8_0, .ref a0_8_1, .ref a0_8_2, .ref a0_8_3, .ref a0_8_4, .ref a0_8_5])), (a0_8_2, .inl (a0_8_2_c, 12, .inl a0_8_2_f)), (a0_8_3, .inl (a0_8_3_c, 12, .inl a0_8_3_f))] s.heap.size = A at hD hE ⊢
  have hA : ∀ q : Nat, s.heap.size ≤ q → A q := fun q h => by rw [← hAe]; exact Or.inr h
  have hS : va_S A s.heap s.heap [] := va_S.rf
  replace hP : va_P (dC, dI) vwCl [(a0, .inr (7, [.ref a0_0, .ref a0_1, .ref a0_2, .ref a0_3, .ref a0_4, .ref a0_5, .ref a0_6, .ref a0_7, .ref a0_8, .ref a0_9, .int a0_10])), (a0_3, .inr (1, [.ref a0_3_0, .ref a0_3_1, .ref a0_3_2, .int a0_3_3])), (a0_3_0, .inl (a0_3_0_c, 12, .inl a0_3_0_f)), (a0_3_1, .inl (a0_3_1_c, 12, .inl a0_3_1_f)), (a0_3_2, .inl (a0_3_2_c, 12, .inl a0_3_2_f)), (a0_6, .inr (0, [.int a0_6_0, .ref a0_6_1, .int a0_6_2, .ref a0_6_3, .int a0_6_4, .ref a0_6_5, .ref a0_6_6, .ref a0_6_7, .int a0_6_8, .ref a0_6_9, .ref a0_6_10, .ref a0_6_11, .ref a0_6_12, .ref a0_6_13])), (a0_8, .inr (2, [.ref a0_8_0, .ref a0_8_1, .ref a0_8_2, .ref a0_8_3, .ref a0_8_4, .ref a0_8_5])), (a0_8_2, .inl (a0_8_2_c, 12, .inl a0_8_2_f)), (a0_8_3, .inl (a0_8_3_c, 12, .inl a0_8_3_f))] s.heap := hP
  have hl := lv_entry ([.ref a0, .int a1, .int a2]) (n := 5) (Nat.le_of_ble_eq_true rfl)
  rw [lg_entry_eq]
  generalize (lg_sl ([.ref a0, .int a1, .int a2]) ++ List.replicate (5 - (lg_sl ([.ref a0, .int a1, .int a2])).length) Slot.unset).toArray = ls at hl ⊢
  have hl : lv_has ls 5 [(0, .ref a0), (1, .int a1), (2, .int a2)] := hl
  have b_a1 := i32b a1
  have b_a2 := i32b a2
  have b_a0_10 := i32b a0_10
  refine lv_iload_n hx hb dX8_lift_0 rfl (lv_at hl 2 rfl) ?_
  refine lv_iconst (v := (-1)) hx hb dX8_lift_1 (by decide) ?_
  refine lv_icmp_eq (tgt := 12) hx hb dX8_lift_2 (by decide) (fun c2_1 => ?_) (fun c2_1 => ?_)
  · have c2_1 : a2.toInt = (-1) := (cv_eq rfl (by decide)).mp c2_1
    refine lv_iconst (v := 1) hx hb dX8_lift_12 (by decide) ?_
    refine lv_goto (tgt := 17) hx hb dX8_lift_13 (by decide) ?_
    refine lv_istore_n (lv' := [(3, .int 1), (0, .ref a0), (1, .int a1), (2, .int a2)]) hx hb dX8_lift_17 rfl hl (by decide) rfl (fun ls hl => ?_)
    refine lv_iload_n hx hb dX8_lift_18 rfl (lv_at hl 0 rfl) ?_
    refine lv_if_eq (tgt := 33) hx hb dX8_lift_19 (by decide) (fun c19_2 => by exfalso; exact absurd c19_2 (by decide)) (fun c19_2 => ?_)
    refine lv_aload_n hx hb dX8_lift_22 rfl (lv_at hl 1 rfl) ?_
    refine va_get (D := (dC, dI)) (ci := 7) (v := .ref a0_6) (C := RX8) (T := TX8) (N := 11) hx hb hts inlX8 hown hK hP 0 rgL9_97de23c rfl 6 (by decide) (hts (.fieldLink RX8 51 "ClosedUntil" "told" "LClosedUntil$Holdings;") qw_262) (fun _ h9 => h9) rfl dX8_lift_23 ?_
    refine lv_iload_n hx hb dX8_lift_26 rfl (lv_at hl 2 rfl) ?_
    have hPc := (rgP9_10fd189 hP)
    have hKc := (rgK5_6e78cbf hK)
    refine vp_callSi ((va_runVN (As := [.int a1]) (rest := []) ⟨hx, hb, hml, hown, hts⟩ (k_X1_hasClosure l dC dI g (a0_6) (a1) (a0_6_0) (a0_6_1) (a0_6_2) (a0_6_3) (a0_6_4) (a0_6_5) (a0_6_6) (a0_6_7) (a0_6_8) (a0_6_9) (a0_6_10) (a0_6_11) (a0_6_12) (a0_6_13) (by omega) (by omega) (by omega) (by omega)) ⟨va_cnB 1 hts (gwC qw_281) rfl rfl rfl (nm_33 hN) (hts (.initialized RX1) qw_183) (by decide +kernel) ⟨Nat.le_of_ble_eq_true rfl, Nat.le_of_ble_eq_true rfl⟩, (hts (.instanceMethod yX1_hasClosure) qw_282), (hts (.selects RX1 yX1_hasClosure yX1_hasClosure) qw_283)⟩ ⟨fun a U g9 mk q => ⟨q.1, q.2.1, va_K.moved (u := U) (U := U.calling g9 mk a) (Vm.Alike.refl U.vm) q.2.2.1, Ev.bl q.2.2.2⟩, va_recv hK hP (ci := 0) (q0 := 5) rfl rgL9_ebd720b, fun U hU hW => ⟨rfl, atB hU hPc, va_K.moved hW.alike hKc, hE.go hS (fun _ h => h.elim) hU hW⟩⟩ rfl rfl hl.1 rfl (lv_room (Nat.le_of_ble_eq_true rfl)) dX8_lift_27 ⟨Nat.le_of_ble_eq_true rfl, Nat.le_of_ble_eq_true rfl⟩)).run (fun r3 h_r3 => ?_)
    have h_r3 : (r3 = 0 ∨ r3 = 1) ∧ ((r3.toInt = 1 ∧ 0 ≤ a1.toInt ∧ a1.toInt < a0_6_8.toInt) ∨ r3.toInt = 0) := h_r3
    have b_r3 := z01 (show r3 = 0 ∨ r3 = 1 from h_r3.1)
    refine lv_if_ne (tgt := 36) hx hb dX8_lift_30 (by decide) (fun c30_4 => ?_) (fun c30_4 => ?_)
    · have c30_4 : ¬ (r3.toInt = 0) := mt (cv_eq rfl (by decide)).mpr c30_4
      refine lv_aload_n hx hb dX8_lift_36 rfl (lv_at hl 1 rfl) ?_
      refine va_get (D := (dC, dI)) (ci := 7) (v := .ref a0_8) (C := RX8) (T := TX8) (N := 11) hx hb hts inlX8 hown hK hP 0 rgL9_97de23c rfl 8 (by decide) (hts (.fieldLink RX8 58 "ClosedUntil" "now" "LClosedUntil$State;") qw_266) (fun _ h9 => h9) rfl dX8_lift_37 ?_
      refine va_getN (D := (dC, dI)) (ci := 2) (v := .ref a0_8_2) (C := RX3) (T := TX3) (N := 6) hx hb hts inlX3 hown hK hP 6 rgL9_84147e0 rfl 2 (by decide) (va_Nw.use rfl (nf_21 hN)) (fun _ h9 => h9) rfl dX8_lift_40 ?_
      refine lv_iload_n hx hb dX8_lift_43 rfl (lv_at hl 2 rfl) ?_
      refine va_iald hx hb hK hP 7 3 rgL9_1eb08b1 rgT5_5f7a9a6 (vinI (by omega) (by omega)) dX8_lift_44 ?_
      refine lv_topi (fun x5 e_x5 => ?_)
      have b_x5 := i32b x5
      refine lv_istore (lv' := [(4, .int x5), (3, .int 1), (0, .ref a0), (1, .int a1), (2, .int a2)]) hx hb dX8_lift_45 hl (by decide) rfl (fun ls hl => ?_)
      refine lv_aload_n hx hb dX8_lift_47 rfl (lv_at hl 2 rfl) ?_
      refine va_get (D := (dC, dI)) (ci := 7) (v := .ref a0_8) (C := RX8) (T := TX8) (N := 11) hx hb hts inlX8 hown hK hP 0 rgL9_97de23c rfl 8 (by decide) (hts (.fieldLink RX8 58 "ClosedUntil" "now" "LClosedUntil$State;") qw_266) (fun _ h9 => h9) rfl dX8_lift_48 ?_
      refine va_getN (D := (dC, dI)) (ci := 2) (v := .ref a0_8_2) (C := RX3) (T := TX3) (N := 6) hx hb hts inlX3 hown hK hP 6 rgL9_84147e0 rfl 2 (by decide) (va_Nw.use rfl (nf_21 hN)) (fun _ h9 => h9) rfl dX8_lift_51 ?_
      refine lv_iload_n hx hb dX8_lift_54 rfl (lv_at hl 3 rfl) ?_
      refine lv_iload_n hx hb dX8_lift_55 rfl (lv_at hl 4 rfl) ?_
      refine va_iast hx hb hK hP hD hS 7 3 rgL9_1eb08b1 rgT5_5f7a9a6 (vinI (by omega) (by omega)) dX8_lift_56 (fun H locs hP9 hD9 hS9 => ?_)
      obtain ⟨y6, e_y6⟩ : ∃ y, (upd a0_8_2_f a1.toNatClampNeg a2) = y := ⟨_, rfl⟩
      clear hP hD hS
      obtain ⟨hP, hD⟩ := rgS9_55c93b5 (e := (a0_8_2, .inl (a0_8_2_c, 12, .inl y6))) hP9 hD9 (congrArg (fun z9 => (((a0_8_2, .inl (a0_8_2_c, 12, .inl z9)) : Nat × va_E))) e_y6)
      have hS := hS9; clear hP9 hD9 hS9
      refine lv_aload_n hx hb dX8_lift_57 rfl (lv_at hl 2 rfl) ?_
      refine lv_iconst (v := 1) hx hb dX8_lift_58 (by decide) ?_
      refine lv_iload_n hx hb dX8_lift_59 rfl (lv_at hl 3 rfl) ?_
      refine lv_iload hx hb dX8_lift_60 (lv_at hl 0 rfl) ?_
      have qc1 : (1 : Int32).toInt = 1 := by decide
      have hPc := (rgP9_60efad1 hP)
      have hKc := (rgK5_4ca432a hK)
      have hDc := (rgD9_c0d146e hD)
      have hFc := freeW hDc hS hA
      refine va_callv (va_runV (As := [.int 1, .int a1, .int x5]) (rest := []) ⟨hx, hb, hml, hown, hts⟩ (k_X8_remember l dC dI g H.size (a0) (1) (a1) (x5) (a0_0) (a0_1) (a0_2) (a0_3) (a0_4) (a0_5) (a0_6) (a0_7) (a0_8) (a0_9) (a0_10) (a0_3_0) (a0_3_1) (a0_3_2) (a0_3_3) (a0_3_0_c) (a0_3_0_f) (a0_3_1_c) (a0_3_1_f) (a0_3_2_c) (a0_3_2_f) (by omega) (by assumption) (by unfold JE; omega)) (cwV 3 hts (gwV qw_288 qw_289 qw_290 qw_28 qw_287) rfl rfl rfl (by decide +kernel) ⟨Nat.le_of_ble_eq_true rfl, Nat.le_of_ble_eq_true rfl⟩) ⟨fun a U g9 mk q => ⟨q.1, q.2.1, q.2.2.1, va_K.moved (u := U) (U := U.calling g9 mk a) (Vm.Alike.refl U.vm) q.2.2.2.1, q.2.2.2.2.1, Ev.bl q.2.2.2.2.2⟩, va_recv hK hP (ci := 7) (q0 := 0) rfl rgL9_97de23c, fun U hU hW => ⟨rfl, by rw [hU], atB hU hPc, va_K.moved hW.alike hKc, hDc.weaken (fun _ _ _ _ => trivial), hE.go hS hFc hU hW⟩⟩ rfl rfl hl.1 rfl (lv_room (Nat.le_of_ble_eq_true rfl)) dX8_lift_62 ⟨Nat.le_of_ble_eq_true rfl, Nat.le_of_ble_eq_true rfl⟩) hS (fun q _ h => hFc q h) hFc (fun u7 t H1 locs ht hvm h_u7 hB hz1 hk1 hS => ?_)
      obtain ⟨za0_10_9, za0_3_3_10, za0_3_0_f_11, za0_3_1_f_12, za0_3_2_f_13, hF14, hF15, hF16, hP1, hK1, hD1⟩ := hB
      have hK1 := va_K.moved hvm.symm hK1
      have hJ9 := rgJ9_35323dd hP hD hk1 hFc (atH ht hP1) hD1
      clear hP hD hPc hKc hDc hFc hP1 hD1 hk1 hz1
      obtain ⟨hP, hD⟩ := hJ9
      clear hK1
      generalize H1 = H at hP hS ⊢
      refine W.widen (k := 0) (n := 0) (Nat.le_of_ble_eq_true rfl) (Nat.le_of_ble_eq_true rfl) ?_
      refine lv_iload hx hb dX8_lift_65 (lv_at hl 0 rfl) ?_
      refine W.widen (k := 0) (n := 0) (Nat.le_of_ble_eq_true rfl) (Nat.le_of_ble_eq_true rfl) ?_
      have hP9 := hP
      have hD9 := hD
      have hK9 := (rgK5_6e78cbf hK)
      have hf9_0 : (0 ≤ za0_3_3_10.toInt ∧ za0_3_3_10.toInt ≤ 12) := by omega
      have hf9_1 : (JA za0_3_0_f_11 za0_3_1_f_12 za0_3_2_f_13 za0_3_3_10) := by assumption
      have hf9_2 : (JC za0_3_0_f_11 za0_3_1_f_12 za0_3_3_10 a0_8_3_f) := JC.act hjc (by assumption) (by omega)
      exact W.iret (v := x5) hx hb hr (fun t ht hW => ⟨⟨x5, x5, rfl, rfl, za0_10_9, za0_3_3_10, za0_3_0_f_11, za0_3_1_f_12, za0_3_2_f_13, y6, hf9_0, hf9_1, hf9_2, atB ht hP9, va_K.moved hW.alike hK9, hD9⟩, hS.F ht⟩) hS.2.2 dX8_lift_67
    · have c30_4 : r3.toInt = 0 := (cv_eq rfl (by decide)).mp c30_4
      refine lv_bipush (v := (-2)) hx hb dX8_lift_33 (by decide) ?_
      have qcm2 : ((-2) : Int32).toInt = (-2) := by decide
      refine W.widen (k := 0) (n := 0) (Nat.le_of_ble_eq_true rfl) (Nat.le_of_ble_eq_true rfl) ?_
      have hP9 := hP
      have hD9 := hD
      have hK9 := (rgK5_6e78cbf hK)
      have hf9_0 : (0 ≤ a0_3_3.toInt ∧ a0_3_3.toInt ≤ 12) := by omega
      have hf9_1 : (JA a0_3_0_f a0_3_1_f a0_3_2_f a0_3_3) := by assumption
      have hf9_2 : (JC a0_3_0_f a0_3_1_f a0_3_3 a0_8_3_f) := hjc
      exact W.iret (v := (-2)) hx hb hr (fun t ht hW => ⟨⟨(-2), (-2), rfl, rfl, a0_10, a0_3_3, a0_3_0_f, a0_3_1_f, a0_3_2_f, a0_8_2_f, hf9_0, hf9_1, hf9_2, atB ht hP9, va_K.moved hW.alike hK9, hD9⟩, hS.F ht⟩) hS.2.2 dX8_lift_35
  · have c2_1 : ¬ (a2.toInt = (-1)) := mt (cv_eq rfl (by decide)).mpr c2_1
    refine lv_iload_n hx hb dX8_lift_5 rfl (lv_at hl 2 rfl) ?_
    have hPc := (rgP9_f3370ea hP)
    have hKc := (rgK5_6e78cbf hK)
    refine vp_callSi ((va_runSN (As := [.int a2]) (rest := []) ⟨hx, hb, hml, hown, hts⟩ (k_X0_has l dC dI g (a2) ) ⟨va_cnB 1 hts (gwC qw_251) rfl rfl rfl (nm_19 hN) (hts (.initialized RX0) qw_3) (by decide +kernel) ⟨Nat.le_of_ble_eq_true rfl, Nat.le_of_ble_eq_true rfl⟩, (hts (.static yX0_has) qw_252), trivial⟩ ⟨fun a U g9 mk q => ⟨q.1, q.2.1, va_K.moved (u := U) (U := U.calling g9 mk a) (Vm.Alike.refl U.vm) q.2.2.1, Ev.bl q.2.2.2⟩, fun U hU hW => ⟨rfl, atB hU hPc, va_K.moved hW.alike hKc, hE.go hS (fun _ h => h.elim) hU hW⟩⟩ rfl rfl hl.1 rfl (lv_room (Nat.le_of_ble_eq_true rfl)) dX8_lift_6 ⟨Nat.le_of_ble_eq_true rfl, Nat.le_of_ble_eq_true rfl⟩)).run (fun r17 h_r17 => ?_)
    have h_r17 : (r17 = 0 ∨ r17 = 1) := h_r17
    have b_r17 := z01 (show r17 = 0 ∨ r17 = 1 from h_r17)
    refine lv_if_eq (tgt := 16) hx hb dX8_lift_9 (by decide) (fun c9_18 => ?_) (fun c9_18 => ?_)
    · have c9_18 : r17.toInt = 0 := (cv_eq rfl (by decide)).mp c9_18
      refine lv_iconst (v := 0) hx hb dX8_lift_16 (by decide) ?_
      refine lv_istore_n (lv' := [(3, .int 0), (0, .ref a0), (1, .int a1), (2, .int a2)]) hx hb dX8_lift_17 rfl hl (by decide) rfl (fun ls hl => ?_)
      refine lv_iload_n hx hb dX8_lift_18 rfl (lv_at hl 0 rfl) ?_
      refine lv_if_eq (tgt := 33) hx hb dX8_lift_19 (by decide) (fun c19_19 => ?_) (fun c19_19 => by exfalso; exact absurd c19_19 (by decide))
      refine lv_bipush (v := (-2)) hx hb dX8_lift_33 (by decide) ?_
      have qcm2 : ((-2) : Int32).toInt = (-2) := by decide
      refine W.widen (k := 0) (n := 0) (Nat.le_of_ble_eq_true rfl) (Nat.le_of_ble_eq_true rfl) ?_
      have hP9 := hP
      have hD9 := hD
      have hK9 := (rgK5_6e78cbf hK)
      have hf9_0 : (0 ≤ a0_3_3.toInt ∧ a0_3_3.toInt ≤ 12) := by omega
      have hf9_1 : (JA a0_3_0_f a0_3_1_f a0_3_2_f a0_3_3) := by assumption
      have hf9_2 : (JC a0_3_0_f a0_3_1_f a0_3_3 a0_8_3_f) := hjc
      exact W.iret (v := (-2)) hx hb hr (fun t ht hW => ⟨⟨(-2), (-2), rfl, rfl, a0_10, a0_3_3, a0_3_0_f, a0_3_1_f, a0_3_2_f, a0_8_2_f, hf9_0, hf9_1, hf9_2, atB ht hP9, va_K.moved hW.alike hK9, hD9⟩, hS.F ht⟩) hS.2.2 dX8_lift_35
    · have c9_18 : ¬ (r17.toInt = 0) := mt (cv_eq rfl (by decide)).mpr c9_18
      refine lv_iconst (v := 1) hx hb dX8_lift_12 (by decide) ?_
      refine lv_goto (tgt := 17) hx hb dX8_lift_13 (by decide) ?_
      refine lv_istore_n (lv' := [(3, .int 1), (0, .ref a0), (1, .int a1), (2, .int a2)]) hx hb dX8_lift_17 rfl hl (by decide) rfl (fun ls hl => ?_)
      refine lv_iload_n hx hb dX8_lift_18 rfl (lv_at hl 0 rfl) ?_
      refine lv_if_eq (tgt := 33) hx hb dX8_lift_19 (by decide) (fun c19_20 => by exfalso; exact absurd c19_20 (by decide)) (fun c19_20 => ?_)
      refine lv_aload_n hx hb dX8_lift_22 rfl (lv_at hl 1 rfl) ?_
      refine va_get (D := (dC, dI)) (ci := 7) (v := .ref a0_6) (C := RX8) (T := TX8) (N := 11) hx hb hts inlX8 hown hK hP 0 rgL9_97de23c rfl 6 (by decide) (hts (.fieldLink RX8 51 "ClosedUntil" "told" "LClosedUntil$Holdings;") qw_262) (fun _ h9 => h9) rfl dX8_lift_23 ?_
      refine lv_iload_n hx hb dX8_lift_26 rfl (lv_at hl 2 rfl) ?_
      have hPc := (rgP9_10fd189 hP)
      have hKc := (rgK5_6e78cbf hK)
      refine vp_callSi ((va_runVN (As := [.int a1]) (rest := []) ⟨hx, hb, hml, hown, hts⟩ (k_X1_hasClosure l dC dI g (a0_6) (a1) (a0_6_0) (a0_6_1) (a0_6_2) (a0_6_3) (a0_6_4) (a0_6_5) (a0_6_6) (a0_6_7) (a0_6_8) (a0_6_9) (a0_6_10) (a0_6_11) (a0_6_12) (a0_6_13) (by omega) (by omega) (by omega) (by omega)) ⟨va_cnB 1 hts (gwC qw_281) rfl rfl rfl (nm_33 hN) (hts (.initialized RX1) qw_183) (by decide +kernel) ⟨Nat.le_of_ble_eq_true rfl, Nat.le_of_ble_eq_true rfl⟩, (hts (.instanceMethod yX1_hasClosure) qw_282), (hts (.selects RX1 yX1_hasClosure yX1_hasClosure) qw_283)⟩ ⟨fun a U g9 mk q => ⟨q.1, q.2.1, va_K.moved (u := U) (U := U.calling g9 mk a) (Vm.Alike.refl U.vm) q.2.2.1, Ev.bl q.2.2.2⟩, va_recv hK hP (ci := 0) (q0 := 5) rfl rgL9_ebd720b, fun U hU hW => ⟨rfl, atB hU hPc, va_K.moved hW.alike hKc, hE.go hS (fun _ h => h.elim) hU hW⟩⟩ rfl rfl hl.1 rfl (lv_room (Nat.le_of_ble_eq_true rfl)) dX8_lift_27 ⟨Nat.le_of_ble_eq_true rfl, Nat.le_of_ble_eq_true rfl⟩)).run (fun r21 h_r21 => ?_)
      have h_r21 : (r21 = 0 ∨ r21 = 1) ∧ ((r21.toInt = 1 ∧ 0 ≤ a1.toInt ∧ a1.toInt < a0_6_8.toInt) ∨ r21.toInt = 0) := h_r21
      have b_r21 := z01 (show r21 = 0 ∨ r21 = 1 from h_r21.1)
      refine lv_if_ne (tgt := 36) hx hb dX8_lift_30 (by decide) (fun c30_22 => ?_) (fun c30_22 => ?_)
      · have c30_22 : ¬ (r21.toInt = 0) := mt (cv_eq rfl (by decide)).mpr c30_22
        refine lv_aload_n hx hb dX8_lift_36 rfl (lv_at hl 1 rfl) ?_
        refine va_get (D := (dC, dI)) (ci := 7) (v := .ref a0_8) (C := RX8) (T := TX8) (N := 11) hx hb hts inlX8 hown hK hP 0 rgL9_97de23c rfl 8 (by decide) (hts (.fieldLink RX8 58 "ClosedUntil" "now" "LClosedUntil$State;") qw_266) (fun _ h9 => h9) rfl dX8_lift_37 ?_
        refine va_getN (D := (dC, dI)) (ci := 2) (v := .ref a0_8_2) (C := RX3) (T := TX3) (N := 6) hx hb hts inlX3 hown hK hP 6 rgL9_84147e0 rfl 2 (by decide) (va_Nw.use rfl (nf_21 hN)) (fun _ h9 => h9) rfl dX8_lift_40 ?_
        refine lv_iload_n hx hb dX8_lift_43 rfl (lv_at hl 2 rfl) ?_
        refine va_iald hx hb hK hP 7 3 rgL9_1eb08b1 rgT5_5f7a9a6 (vinI (by omega) (by omega)) dX8_lift_44 ?_
        refine lv_topi (fun x23 e_x23 => ?_)
        have b_x23 := i32b x23
        refine lv_istore (lv' := [(4, .int x23), (3, .int 1), (0, .ref a0), (1, .int a1), (2, .int a2)]) hx hb dX8_lift_45 hl (by decide) rfl (fun ls hl => ?_)
        refine lv_aload_n hx hb dX8_lift_47 rfl (lv_at hl 2 rfl) ?_
        refine va_get (D := (dC, dI)) (ci := 7) (v := .ref a0_8) (C := RX8) (T := TX8) (N := 11) hx hb hts inlX8 hown hK hP 0 rgL9_97de23c rfl 8 (by decide) (hts (.fieldLink RX8 58 "ClosedUntil" "now" "LClosedUntil$State;") qw_266) (fun _ h9 => h9) rfl dX8_lift_48 ?_
        refine va_getN (D := (dC, dI)) (ci := 2) (v := .ref a0_8_2) (C := RX3) (T := TX3) (N := 6) hx hb hts inlX3 hown hK hP 6 rgL9_84147e0 rfl 2 (by decide) (va_Nw.use rfl (nf_21 hN)) (fun _ h9 => h9) rfl dX8_lift_51 ?_
        refine lv_iload_n hx hb dX8_lift_54 rfl (lv_at hl 3 rfl) ?_
        refine lv_iload_n hx hb dX8_lift_55 rfl (lv_at hl 4 rfl) ?_
        refine va_iast hx hb hK hP hD hS 7 3 rgL9_1eb08b1 rgT5_5f7a9a6 (vinI (by omega) (by omega)) dX8_lift_56 (fun H locs hP9 hD9 hS9 => ?_)
        obtain ⟨y24, e_y24⟩ : ∃ y, (upd a0_8_2_f a1.toNatClampNeg a2) = y := ⟨_, rfl⟩
        clear hP hD hS
        obtain ⟨hP, hD⟩ := rgS9_55c93b5 (e := (a0_8_2, .inl (a0_8_2_c, 12, .inl y24))) hP9 hD9 (congrArg (fun z9 => (((a0_8_2, .inl (a0_8_2_c, 12, .inl z9)) : Nat × va_E))) e_y24)
        have hS := hS9; clear hP9 hD9 hS9
        refine lv_aload_n hx hb dX8_lift_57 rfl (lv_at hl 2 rfl) ?_
        refine lv_iconst (v := 1) hx hb dX8_lift_58 (by decide) ?_
        refine lv_iload_n hx hb dX8_lift_59 rfl (lv_at hl 3 rfl) ?_
        refine lv_iload hx hb dX8_lift_60 (lv_at hl 0 rfl) ?_
        have qc1 : (1 : Int32).toInt = 1 := by decide
        have hPc := (rgP9_60efad1 hP)
        have hKc := (rgK5_4ca432a hK)
        have hDc := (rgD9_c0d146e hD)
        have hFc := freeW hDc hS hA
        refine va_callv (va_runV (As := [.int 1, .int a1, .int x23]) (rest := []) ⟨hx, hb, hml, hown, hts⟩ (k_X8_remember l dC dI g H.size (a0) (1) (a1) (x23) (a0_0) (a0_1) (a0_2) (a0_3) (a0_4) (a0_5) (a0_6) (a0_7) (a0_8) (a0_9) (a0_10) (a0_3_0) (a0_3_1) (a0_3_2) (a0_3_3) (a0_3_0_c) (a0_3_0_f) (a0_3_1_c) (a0_3_1_f) (a0_3_2_c) (a0_3_2_f) (by omega) (by assumption) (by unfold JE; omega)) (cwV 3 hts (gwV qw_288 qw_289 qw_290 qw_28 qw_287) rfl rfl rfl (by decide +kernel) ⟨Nat.le_of_ble_eq_true rfl, Nat.le_of_ble_eq_true rfl⟩) ⟨fun a U g9 mk q => ⟨q.1, q.2.1, q.2.2.1, va_K.moved (u := U) (U := U.calling g9 mk a) (Vm.Alike.refl U.vm) q.2.2.2.1, q.2.2.2.2.1, Ev.bl q.2.2.2.2.2⟩, va_recv hK hP (ci := 7) (q0 := 0) rfl rgL9_97de23c, fun U hU hW => ⟨rfl, by rw [hU], atB hU hPc, va_K.moved hW.alike hKc, hDc.weaken (fun _ _ _ _ => trivial), hE.go hS hFc hU hW⟩⟩ rfl rfl hl.1 rfl (lv_room (Nat.le_of_ble_eq_true rfl)) dX8_lift_62 ⟨Nat.le_of_ble_eq_true rfl, Nat.le_of_ble_eq_true rfl⟩) hS (fun q _ h => hFc q h) hFc (fun u25 t H1 locs ht hvm h_u25 hB hz1 hk1 hS => ?_)
        obtain ⟨za0_10_27, za0_3_3_28, za0_3_0_f_29, za0_3_1_f_30, za0_3_2_f_31, hF32, hF33, hF34, hP1, hK1, hD1⟩ := hB
        have hK1 := va_K.moved hvm.symm hK1
        have hJ9 := rgJ9_35323dd hP hD hk1 hFc (atH ht hP1) hD1
        clear hP hD hPc hKc hDc hFc hP1 hD1 hk1 hz1
        obtain ⟨hP, hD⟩ := hJ9
        clear hK1
        generalize H1 = H at hP hS ⊢
        refine W.widen (k := 0) (n := 0) (Nat.le_of_ble_eq_true rfl) (Nat.le_of_ble_eq_true rfl) ?_
        refine lv_iload hx hb dX8_lift_65 (lv_at hl 0 rfl) ?_
        refine W.widen (k := 0) (n := 0) (Nat.le_of_ble_eq_true rfl) (Nat.le_of_ble_eq_true rfl) ?_
        have hP9 := hP
        have hD9 := hD
        have hK9 := (rgK5_6e78cbf hK)
        have hf9_0 : (0 ≤ za0_3_3_28.toInt ∧ za0_3_3_28.toInt ≤ 12) := by omega
        have hf9_1 : (JA za0_3_0_f_29 za0_3_1_f_30 za0_3_2_f_31 za0_3_3_28) := by assumption
        have hf9_2 : (JC za0_3_0_f_29 za0_3_1_f_30 za0_3_3_28 a0_8_3_f) := JC.act hjc (by assumption) (by omega)
        exact W.iret (v := x23) hx hb hr (fun t ht hW => ⟨⟨x23, x23, rfl, rfl, za0_10_27, za0_3_3_28, za0_3_0_f_29, za0_3_1_f_30, za0_3_2_f_31, y24, hf9_0, hf9_1, hf9_2, atB ht hP9, va_K.moved hW.alike hK9, hD9⟩, hS.F ht⟩) hS.2.2 dX8_lift_67
      · have c30_22 : r21.toInt = 0 := (cv_eq rfl (by decide)).mp c30_22
        refine lv_bipush (v := (-2)) hx hb dX8_lift_33 (by decide) ?_
        have qcm2 : ((-2) : Int32).toInt = (-2) := by decide
        refine W.widen (k := 0) (n := 0) (Nat.le_of_ble_eq_true rfl) (Nat.le_of_ble_eq_true rfl) ?_
        have hP9 := hP
        have hD9 := hD
        have hK9 := (rgK5_6e78cbf hK)
        have hf9_0 : (0 ≤ a0_3_3.toInt ∧ a0_3_3.toInt ≤ 12) := by omega
        have hf9_1 : (JA a0_3_0_f a0_3_1_f a0_3_2_f a0_3_3) := by assumption
        have hf9_2 : (JC a0_3_0_f a0_3_1_f a0_3_3 a0_8_3_f) := hjc
        exact W.iret (v := (-2)) hx hb hr (fun t ht hW => ⟨⟨(-2), (-2), rfl, rfl, a0_10, a0_3_3, a0_3_0_f, a0_3_1_f, a0_3_2_f, a0_8_2_f, hf9_0, hf9_1, hf9_2, atB ht hP9, va_K.moved hW.alike hK9, hD9⟩, hS.F ht⟩) hS.2.2 dX8_lift_35
set_option maxHeartbeats 4000000 in
set_option maxRecDepth 100000 in
theorem k_X8_died (l : Launch) (dC : Nat → ClassId) (dI : Nat → Nat → Nat) (g : Gv) (sz : Nat) (a0 : Nat) (a1 : Int32) (a2 : Int32) (a0_0 : Nat) (a0_1 : Nat) (a0_2 : Nat) (a0_3 : Nat) (a0_4 : Nat) (a0_5 : Nat) (a0_6 : Nat) (a0_7 : Nat) (a0_8 : Nat) (a0_9 : Nat) (a0_10 : Int32) (a0_3_0 : Nat) (a0_3_1 : Nat) (a0_3_2 : Nat) (a0_3_3 : Int32) (a0_3_0_c : ClassId) (a0_3_0_f : Nat → Int32) (a0_3_1_c : ClassId) (a0_3_1_f : Nat → Int32) (a0_3_2_c : ClassId) (a0_3_2_f : Nat → Int32) (a0_6_0 : Int32) (a0_6_1 : Nat) (a0_6_2 : Int32) (a0_6_3 : Nat) (a0_6_4 : Int32) (a0_6_5 : Nat) (a0_6_6 : Nat) (a0_6_7 : Nat) (a0_6_8 : Int32) (a0_6_9 : Nat) (a0_6_10 : Nat) (a0_6_11 : Nat) (a0_6_12 : Nat) (a0_6_13 : Nat) (a0_6_1_c : ClassId) (a0_6_1_f : Nat → Int32) (a0_8_0 : Nat) (a0_8_1 : Nat) (a0_8_2 : Nat) (a0_8_3 : Nat) (a0_8_4 : Nat) (a0_8_5 : Nat) (a0_8_1_c : ClassId) (a0_8_1_f : Nat → Int32) (a0_8_3_c : ClassId) (a0_8_3_f : Nat → Int32) (h_a0_3_3 : 0 ≤ a0_3_3.toInt ∧ a0_3_3.toInt ≤ 12) (h_a0_6_0 : 0 ≤ a0_6_0.toInt ∧ a0_6_0.toInt ≤ 8) (h_a0_6_2 : 0 ≤ a0_6_2.toInt ∧ a0_6_2.toInt ≤ 4) (h_a0_6_4 : 0 ≤ a0_6_4.toInt ∧ a0_6_4.toInt ≤ 24) (h_a0_6_8 : 0 ≤ a0_6_8.toInt ∧ a0_6_8.toInt ≤ 12) (h_a0_8_3_f : vr 0 5 a0_8_3_f) (hja : JA a0_3_0_f a0_3_1_f a0_3_2_f a0_3_3) (hjc : JC a0_3_0_f a0_3_1_f a0_3_3 a0_8_3_f) : Met l yX8_died (.code yX8_died cX8_died 5 (some .int) :: TBL) ({ frames := 4, cells := 0, slots := 0, locals := 116 }) (va_Pc [.ref a0, .int a1, .int a2] (fun U => U.heap.size = sz ∧ va_P (dC, dI) vwCl [(a0, .inr (7, [.ref a0_0, .ref a0_1, .ref a0_2, .ref a0_3, .ref a0_4, .ref a0_5, .ref a0_6, .ref a0_7, .ref a0_8, .ref a0_9, .int a0_10])), (a0_3, .inr (1, [.ref a0_3_0, .ref a0_3_1, .ref a0_3_2, .int a0_3_3])), (a0_3_0, .inl (a0_3_0_c, 12, .inl a0_3_0_f)), (a0_3_1, .inl (a0_3_1_c, 12, .inl a0_3_1_f)), (a0_3_2, .inl (a0_3_2_c, 12, .inl a0_3_2_f)), (a0_6, .inr (0, [.int a0_6_0, .ref a0_6_1, .int a0_6_2, .ref a0_6_3, .int a0_6_4, .ref a0_6_5, .ref a0_6_6, .ref a0_6_7, .int a0_6_8, .ref a0_6_9, .ref a0_6_10, .ref a0_6_11, .ref a0_6_12, .ref a0_6_13])), (a0_6_1, .inl (a0_6_1_c, 8, .inl a0_6_1_f)), (a0_8, .inr (2, [.ref a0_8_0, .ref a0_8_1, .ref a0_8_2, .ref a0_8_3, .ref a0_8_4, .ref a0_8_5])), (a0_8_1, .inl (a0_8_1_c, 8, .inl a0_8_1_f)), (a0_8_3, .inl (a0_8_3_c, 12, .inl a0_8_3_f))] U.heap ∧ va_K (dC, dI) vwCl [(a0_3_0_c, .int), (a0_3_1_c, .int), (a0_3_2_c, .int), (a0_6_1_c, .int), (a0_8_1_c, .int), (a0_8_3_c, .int)] U ∧ va_D (fun _ => True) [(a0, .inr (7, [.ref a0_0, .ref a0_1, .ref a0_2, .ref a0_3, .ref a0_4, .ref a0_5, .ref a0_6, .ref a0_7, .ref a0_8, .ref a0_9, .int a0_10])), (a0_3, .inr (1, [.ref a0_3_0, .ref a0_3_1, .ref a0_3_2, .int a0_3_3])), (a0_3_0, .inl (a0_3_0_c, 12, .inl a0_3_0_f)), (a0_3_1, .inl (a0_3_1_c, 12, .inl a0_3_1_f)), (a0_3_2, .inl (a0_3_2_c, 12, .inl a0_3_2_f)), (a0_6, .inr (0, [.int a0_6_0, .ref a0_6_1, .int a0_6_2, .ref a0_6_3, .int a0_6_4, .ref a0_6_5, .ref a0_6_6, .ref a0_6_7, .int a0_6_8, .ref a0_6_9, .ref a0_6_10, .ref a0_6_11, .ref a0_6_12, .ref a0_6_13])), (a0_6_1, .inl (a0_6_1_c, 8, .inl a0_6_1_f)), (a0_8, .inr (2, [.ref a0_8_0, .ref a0_8_1, .ref a0_8_2, .ref a0_8_3, .ref a0_8_4, .ref a0_8_5])), (a0_8_1, .inl (a0_8_1_c, 8, .inl a0_8_1_f)), (a0_8_3, .inl (a0_8_3_c, 12, .inl a0_8_3_f))] ∧ Ev g (va_A [(a0, .inr (7, [.ref a0_0, .ref a0_1, .ref a0_2, .ref a0_3, .ref a0_4, .ref a0_5, .ref a0_6, .ref a0_7, .ref a0_8, .ref a0_9, .int a0_10])), (a0_3, .inr (1, [.ref a0_3_0, .ref a0_3_1, .ref a0_3_2, .int a0_3_3])), (a0_3_0, .inl (a0_3_0_c, 12, .inl a0_3_0_f)), (a0_3_1, .inl (a0_3_1_c, 12, .inl a0_3_1_f)), (a0_3_2, .inl (a0_3_2_c, 12, .inl a0_3_2_f)), (a0_6, .inr (0, [.int a0_6_0, .ref a0_6_1, .int a0_6_2, .ref a0_6_3, .int a0_6_4, .ref a0_6_5, .ref a0_6_6, .ref a0_6_7, .int a0_6_8, .ref a0_6_9, .ref a0_6_10, .ref a0_6_11, .ref a0_6_12, .ref a0_6_13])), (a0_6_1, .inl (a0_6_1_c, 8, .inl a0_6_1_f)), (a0_8, .inr (2, [.ref a0_8_0, .ref a0_8_1, .ref a0_8_2, .ref a0_8_3, .ref a0_8_4, .ref a0_8_5])), (a0_8_1, .inl (a0_8_1_c, 8, .inl a0_8_1_f)), (a0_8_3, .inl (a0_8_3_c, 12, .inl a0_8_3_f))] sz) U)) (va_Qi (fun (r : Int32) (u : Int32) => u = r) (fun (u : Int32) (t : State) => ∃ (za0_10 : Int32) (za0_3_3 : Int32) (za0_3_0_f : Nat → Int32) (za0_3_1_f : Nat → Int32) (za0_3_2_f : Nat → Int32) (za0_8_1_f : Nat → Int32), (0 ≤ za0_3_3.toInt ∧ za0_3_3.toInt ≤ 12) ∧ (JA za0_3_0_f za0_3_1_f za0_3_2_f za0_3_3) ∧ (JC za0_3_0_f za0_3_1_f za0_3_3 a0_8_3_f) ∧ va_P (dC, dI) vwCl [(a0, .inr (7, [.ref a0_0, .ref a0_1, .ref a0_2, .ref a0_3, .ref a0_4, .ref a0_5, .ref a0_6, .ref a0_7, .ref a0_8, .ref a0_9, .int za0_10])), (a0_3, .inr (1, [.ref a0_3_0, .ref a0_3_1, .ref a0_3_2, .int za0_3_3])), (a0_3_0, .inl (a0_3_0_c, 12, .inl za0_3_0_f)), (a0_3_1, .inl (a0_3_1_c, 12, .inl za0_3_1_f)), (a0_3_2, .inl (a0_3_2_c, 12, .inl za0_3_2_f)), (a0_6, .inr (0, [.int a0_6_0, .ref a0_6_1, .int a0_6_2, .ref a0_6_3, .int a0_6_4, .ref a0_6_5, .ref a0_6_6, .ref a0_6_7, .int a0_6_8, .ref a0_6_9, .ref a0_6_10, .ref a0_6_11, .ref a0_6_12, .ref a0_6_13])), (a0_6_1, .inl (a0_6_1_c, 8, .inl a0_6_1_f)), (a0_8, .inr (2, [.ref a0_8_0, .ref a0_8_1, .ref a0_8_2, .ref a0_8_3, .ref a0_8_4, .ref a0_8_5])), (a0_8_1, .inl (a0_8_1_c, 8, .inl za0_8_1_f)), (a0_8_3, .inl (a0_8_3_c, 12, .inl a0_8_3_f))] t.heap ∧ va_K (dC, dI) vwCl [] t ∧ va_D (va_A [(a0, .inr (7, [.ref a0_0, .ref a0_1, .ref a0_2, .ref a0_3, .ref a0_4, .ref a0_5, .ref a0_6, .ref a0_7, .ref a0_8, .ref a0_9, .int a0_10])), (a0_3, .inr (1, [.ref a0_3_0, .ref a0_3_1, .ref a0_3_2, .int a0_3_3])), (a0_3_0, .inl (a0_3_0_c, 12, .inl a0_3_0_f)), (a0_3_1, .inl (a0_3_1_c, 12, .inl a0_3_1_f)), (a0_3_2, .inl (a0_3_2_c, 12, .inl a0_3_2_f)), (a0_6, .inr (0, [.int a0_6_0, .ref a0_6_1, .int a0_6_2, .ref a0_6_3, .int a0_6_4, .ref a0_6_5, .ref a0_6_6, .ref a0_6_7, .int a0_6_8, .ref a0_6_9, .ref a0_6_10, .ref a0_6_11, .ref a0_6_12, .ref a0_6_13])), (a0_6_1, .inl (a0_6_1_c, 8, .inl a0_6_1_f)), (a0_8, .inr (2, [.ref a0_8_0, .ref a0_8_1, .ref a0_8_2, .ref a0_8_3, .ref a0_8_4, .ref a0_8_5])), (a0_8_1, .inl (a0_8_1_c, 8, .inl a0_8_1_f)), (a0_8_3, .inl (a0_8_3_c, 12, .inl a0_8_3_f))] sz) [(a0, .inr (7, [.ref a0_0, .ref a0_1, .ref a0_2, .ref a0_3, .ref a0_4, .ref a0_5, .ref a0_6, .ref a0_7, .ref a0_8, .ref a0_9, .int za0_10])), (a0_3, .inr (1, [.ref a0_3_0, .ref a0_3_1, .ref a0_3_2, .int za0_3_3])), (a0_3_0, .inl (a0_3_0_c, 12, .inl za0_3_0_f)), (a0_3_1, .inl (a0_3_1_c, 12, .inl za0_3_1_f)), (a0_3_2, .inl (a0_3_2_c, 12, .inl za0_3_2_f)), (a0_6, .inr (0, [.int a0_6_0, .ref a0_6_1, .int a0_6_2, .ref a0_6_3, .int a0_6_4, .ref a0_6_5, .ref a0_6_6, .ref a0_6_7, .int a0_6_8, .ref a0_6_9, .ref a0_6_10, .ref a0_6_11, .ref a0_6_12, .ref a0_6_13])), (a0_6_1, .inl (a0_6_1_c, 8, .inl a0_6_1_f)), (a0_8, .inr (2, [.ref a0_8_0, .ref a0_8_1, .ref a0_8_2, .ref a0_8_3, .ref a0_8_4, .ref a0_8_5])), (a0_8_1, .inl (a0_8_1_c, 8, .inl za0_8_1_f)), (a0_8_3, .inl (a0_8_3_c, 12, .inl a0_8_3_f))]) (va_A [(a0, .inr (7, [.ref a0_0, .ref a0_1, .ref a0_2, .ref a0_3, .ref a0_4, .ref a0_5, .ref a0_6, .ref a0_7, .ref a0_8, .ref a0_9, .int a0_10])), (a0_3, .inr (1, [.ref a0_3_0, .ref a0_3_1, .ref a0_3_2, .int a0_3_3])), (a0_3_0, .inl (a0_3_0_c, 12, .inl a0_3_0_f)), (a0_3_1, .inl (a0_3_1_c, 12, .inl a0_3_1_f)), (a0_3_2, .inl (a0_3_2_c, 12, .inl a0_3_2_f)), (a0_6, .inr (0, [.int a0_6_0, .ref a0_6_1, .int a0_6_2, .ref a0_6_3, .int a0_6_4, .ref a0_6_5, .ref a0_6_6, .ref a0_6_7, .int a0_6_8, .ref a0_6_9, .ref a0_6_10, .ref a0_6_11, .ref a0_6_12, .ref a0_6_13])), (a0_6_1, .inl (a0_6_1_c, 8, .inl a0_6_1_f)), (a0_8, .inr (2, [.ref a0_8_0, .ref a0_8_1, .ref a0_8_2, .ref a0_8_3, .ref a0_8_4, .ref a0_8_5])), (a0_8_1, .inl (a0_8_1_c, 8, .inl a0_8_1_f)), (a0_8_3, .inl (a0_8_3_c, 12, .inl a0_8_3_f))] sz)) 0 0 (va_A [(a0, .inr (7, [.ref a0_0, .ref a0_1, .ref a0_2, .ref a0_3, .ref a0_4, .ref a0_5, .ref a0_6, .ref a0_7, .ref a0_8, .ref a0_9, .int a0_10])), (a0_3, .inr (1, [.ref a0_3_0, .ref a0_3_1, .ref a0_3_2, .int a0_3_3])), (a0_3_0, .inl (a0_3_0_c, 12, .inl a0_3_0_f)), (a0_3_1, .inl (a0_3_1_c, 12, .inl a0_3_1_f)), (a0_3_2, .inl (a0_3_2_c, 12, .inl a0_3_2_f)), (a0_6, .inr (0, [.int a0_6_0, .ref a0_6_1, .int a0_6_2, .ref a0_6_3, .int a0_6_4, .ref a0_6_5, .ref a0_6_6, .ref a0_6_7, .int a0_6_8, .ref a0_6_9, .ref a0_6_10, .ref a0_6_11, .ref a0_6_12, .ref a0_6_13])), (a0_6_1, .inl (a0_6_1_c, 8, .inl a0_6_1_f)), (a0_8, .inr (2, [.ref a0_8_0, .ref a0_8_1, .ref a0_8_2, .ref a0_8_3, .ref a0_8_4, .ref a0_8_5])), (a0_8_1, .inl (a0_8_1_c, 8, .inl a0_8_1_f)), (a0_8_3, .inl (a0_8_3_c, 12, .inl a0_8_3_f))] sz) := by
  refine Met.ofW (cc := cX8_died) (maxL := 5) (ret := (some .int)) (by decide) rfl ?_
  intro p e s m args below meth c s₁ B hml hv
  obtain ⟨rfl, hsz, hP, hK, hD0, hE⟩ := hv
  have hx := B.exec
  have hb := B.bytes
  have hr := B.returns
  have hts0 := atoms_spec (ws := (.code yX8_died cX8_died 5 (some .int) :: TBL)) B.pre
  have hts := fun (w : Cond) (h : w ∈ TBL) => hts0 w (List.mem_cons_of_mem _ h)
  have hown : s.vm.findClass RX8 = some m.cls := findClass_of_methodNamed B.named
  have hlocks := B.notSynchronized
  have hN := hE.1
  subst hsz
  have hD := hD0.self (sz := s.heap.size)
  generalize hAe : va_A [(a0, .inr (7, [.ref a0_0, .ref a0_1, .ref a0_2, .ref a0_3, .ref a0_4, .ref a0_5, .ref a0_6, .ref a0_7, .ref a0_8, .ref a0_9, .int a0_10])), (a0_3, .inr (1, [.ref a0_3_0, .ref a0_3_1, .ref a0_3_2, .int a0_3_3])), (a0_3_0, .inl (a0_3_0_c, 12, .inl a0_3_0_f)), (a0_3_1, .inl (a0_3_1_c, 12, .inl a0_3_1_f)), (a0_3_2, .inl (a0_3_2_c, 12, .inl a0_3_2_f)), (a0_6, .inr (0, [.int a0_6_0, .ref a0_6_1, .int a0_6_2, .ref a0_6_3, .int a0_6_4, .ref a0_6_5, .ref a0_6_6, .ref a0_6_7, .int a0_6_8, .ref a0_6_9, .ref a0_6_10, .ref a0_6_11, .ref a0_6_12, .ref a0_6_13])), (a0_6_1, .inl (a0_6_1_c, 8, .inl a0_6_1_f)), (a0_8, .inr (2, [.ref a0_8_0, .ref a0_8_1, .ref a0_8_2, .ref a0_8_3, .ref a0_8_4, .ref a0_8_5])), (a0_8_1, .inl (a0_8_1_c, 8, .inl a0_8_1_f)), (a0_8_3, .inl (a0_8_3_c, 12, .inl a0_8_3_f))] s.heap.size = A at hD hE ⊢
  have hA : ∀ q : Nat, s.heap.size ≤ q → A q := fun q h => by rw [← hAe]; exact Or.inr h
  have hS : va_S A s.heap s.heap [] := va_S.rf
  replace hP : va_P (dC, dI) vwCl [(a0, .inr (7, [.ref a0_0, .ref a0_1, .ref a0_2, .ref a0_3, .ref a0_4, .ref a0_5, .ref a0_6, .ref a0_7, .ref a0_8, .ref a0_9, .int a0_10])), (a0_3, .inr (1, [.ref a0_3_0, .ref a0_3_1, .ref a0_3_2, .int a0_3_3])), (a0_3_0, .inl (a0_3_0_c, 12, .inl a0_3_0_f)), (a0_3_1, .inl (a0_3_1_c, 12, .inl a0_3_1_f)), (a0_3_2, .inl (a0_3_2_c, 12, .inl a0_3_2_f)), (a0_6, .inr (0, [.int a0_6_0, .ref a0_6_1, .int a0_6_2, .ref a0_6_3, .int a0_6_4, .ref a0_6_5, .ref a0_6_6, .ref a0_6_7, .int a0_6_8, .ref a0_6_9, .ref a0_6_10, .ref a0_6_11, .ref a0_6_12, .ref a0_6_13])), (a0_6_1, .inl (a0_6_1_c, 8, .inl a0_6_1_f)), (a0_8, .inr (2, [.ref a0_8_0, .ref a0_8_1, .ref a0_8_2, .ref a0_8_3, .ref a0_8_4, .ref a0_8_5])), (a0_8_1, .inl (a0_8_1_c, 8, .inl a0_8_1_f)), (a0_8_3, .inl (a0_8_3_c, 12, .inl a0_8_3_f))] s.heap := hP
  have hl := lv_entry ([.ref a0, .int a1, .int a2]) (n := 5) (Nat.le_of_ble_eq_true rfl)
  rw [lg_entry_eq]
  generalize (lg_sl ([.ref a0, .int a1, .int a2]) ++ List.replicate (5 - (lg_sl ([.ref a0, .int a1, .int a2])).length) Slot.unset).toArray = ls at hl ⊢
  have hl : lv_has ls 5 [(0, .ref a0), (1, .int a1), (2, .int a2)] := hl
  have b_a1 := i32b a1
  have b_a2 := i32b a2
  have b_a0_10 := i32b a0_10
  refine lv_iload_n hx hb dX8_died_0 rfl (lv_at hl 2 rfl) ?_
  refine lv_iconst (v := (-1)) hx hb dX8_died_1 (by decide) ?_
  refine lv_icmp_eq (tgt := 12) hx hb dX8_died_2 (by decide) (fun c2_1 => ?_) (fun c2_1 => ?_)
  · have c2_1 : a2.toInt = (-1) := (cv_eq rfl (by decide)).mp c2_1
    refine lv_iconst (v := 1) hx hb dX8_died_12 (by decide) ?_
    refine lv_goto (tgt := 17) hx hb dX8_died_13 (by decide) ?_
    refine lv_istore_n (lv' := [(3, .int 1), (0, .ref a0), (1, .int a1), (2, .int a2)]) hx hb dX8_died_17 rfl hl (by decide) rfl (fun ls hl => ?_)
    refine lv_iload_n hx hb dX8_died_18 rfl (lv_at hl 0 rfl) ?_
    refine lv_if_eq (tgt := 33) hx hb dX8_died_19 (by decide) (fun c19_2 => by exfalso; exact absurd c19_2 (by decide)) (fun c19_2 => ?_)
    refine lv_aload_n hx hb dX8_died_22 rfl (lv_at hl 1 rfl) ?_
    refine va_get (D := (dC, dI)) (ci := 7) (v := .ref a0_6) (C := RX8) (T := TX8) (N := 11) hx hb hts inlX8 hown hK hP 0 rgL10_6790d07 rfl 6 (by decide) (hts (.fieldLink RX8 51 "ClosedUntil" "told" "LClosedUntil$Holdings;") qw_262) (fun _ h9 => h9) rfl dX8_died_23 ?_
    refine lv_iload_n hx hb dX8_died_26 rfl (lv_at hl 2 rfl) ?_
    have hPc := (rgP10_c285bf6 hP)
    have hKc := (rgK6_eadb845 hK)
    refine vp_callSi ((va_runVN (As := [.int a1]) (rest := []) ⟨hx, hb, hml, hown, hts⟩ (k_X1_hasPerson l dC dI g (a0_6) (a1) (a0_6_0) (a0_6_1) (a0_6_2) (a0_6_3) (a0_6_4) (a0_6_5) (a0_6_6) (a0_6_7) (a0_6_8) (a0_6_9) (a0_6_10) (a0_6_11) (a0_6_12) (a0_6_13) (by omega) (by omega) (by omega) (by omega)) ⟨va_cnB 1 hts (gwC qw_263) rfl rfl rfl (nm_31 hN) (hts (.initialized RX1) qw_183) (by decide +kernel) ⟨Nat.le_of_ble_eq_true rfl, Nat.le_of_ble_eq_true rfl⟩, (hts (.instanceMethod yX1_hasPerson) qw_264), (hts (.selects RX1 yX1_hasPerson yX1_hasPerson) qw_265)⟩ ⟨fun a U g9 mk q => ⟨q.1, q.2.1, va_K.moved (u := U) (U := U.calling g9 mk a) (Vm.Alike.refl U.vm) q.2.2.1, Ev.bl q.2.2.2⟩, va_recv hK hP (ci := 0) (q0 := 5) rfl rgL10_adf45ab, fun U hU hW => ⟨rfl, atB hU hPc, va_K.moved hW.alike hKc, hE.go hS (fun _ h => h.elim) hU hW⟩⟩ rfl rfl hl.1 rfl (lv_room (Nat.le_of_ble_eq_true rfl)) dX8_died_27 ⟨Nat.le_of_ble_eq_true rfl, Nat.le_of_ble_eq_true rfl⟩)).run (fun r3 h_r3 => ?_)
    have h_r3 : (r3 = 0 ∨ r3 = 1) ∧ ((r3.toInt = 1 ∧ 0 ≤ a1.toInt ∧ a1.toInt < a0_6_0.toInt) ∨ r3.toInt = 0) := h_r3
    have b_r3 := z01 (show r3 = 0 ∨ r3 = 1 from h_r3.1)
    refine lv_if_ne (tgt := 36) hx hb dX8_died_30 (by decide) (fun c30_4 => ?_) (fun c30_4 => ?_)
    · have c30_4 : ¬ (r3.toInt = 0) := mt (cv_eq rfl (by decide)).mpr c30_4
      refine lv_iload_n hx hb dX8_died_36 rfl (lv_at hl 3 rfl) ?_
      refine lv_iconst (v := (-1)) hx hb dX8_died_37 (by decide) ?_
      refine lv_icmp_eq (tgt := 57) hx hb dX8_died_38 (by decide) (fun c38_5 => ?_) (fun c38_5 => ?_)
      · have c38_5 : a2.toInt = (-1) := (cv_eq rfl (by decide)).mp c38_5
        refine lv_aload_n hx hb dX8_died_57 rfl (lv_at hl 1 rfl) ?_
        refine va_get (D := (dC, dI)) (ci := 7) (v := .ref a0_8) (C := RX8) (T := TX8) (N := 11) hx hb hts inlX8 hown hK hP 0 rgL10_6790d07 rfl 8 (by decide) (hts (.fieldLink RX8 58 "ClosedUntil" "now" "LClosedUntil$State;") qw_266) (fun _ h9 => h9) rfl dX8_died_58 ?_
        refine va_getN (D := (dC, dI)) (ci := 2) (v := .ref a0_8_1) (C := RX3) (T := TX3) (N := 6) hx hb hts inlX3 hown hK hP 7 rgL10_4409b10 rfl 1 (by decide) (va_Nw.use rfl (nf_18 hN)) (fun _ h9 => h9) rfl dX8_died_61 ?_
        refine lv_iload_n hx hb dX8_died_64 rfl (lv_at hl 2 rfl) ?_
        refine va_iald hx hb hK hP 8 4 rgL10_eedba4b rgT6_434bf82 (vinI (by omega) (by omega)) dX8_died_65 ?_
        refine lv_topi (fun x6 e_x6 => ?_)
        have b_x6 := i32b x6
        refine lv_istore (lv' := [(4, .int x6), (3, .int 1), (0, .ref a0), (1, .int a1), (2, .int a2)]) hx hb dX8_died_66 hl (by decide) rfl (fun ls hl => ?_)
        refine lv_aload_n hx hb dX8_died_68 rfl (lv_at hl 2 rfl) ?_
        refine va_get (D := (dC, dI)) (ci := 7) (v := .ref a0_8) (C := RX8) (T := TX8) (N := 11) hx hb hts inlX8 hown hK hP 0 rgL10_6790d07 rfl 8 (by decide) (hts (.fieldLink RX8 58 "ClosedUntil" "now" "LClosedUntil$State;") qw_266) (fun _ h9 => h9) rfl dX8_died_69 ?_
        refine va_getN (D := (dC, dI)) (ci := 2) (v := .ref a0_8_1) (C := RX3) (T := TX3) (N := 6) hx hb hts inlX3 hown hK hP 7 rgL10_4409b10 rfl 1 (by decide) (va_Nw.use rfl (nf_18 hN)) (fun _ h9 => h9) rfl dX8_died_72 ?_
        refine lv_iload_n hx hb dX8_died_75 rfl (lv_at hl 3 rfl) ?_
        refine lv_iload_n hx hb dX8_died_76 rfl (lv_at hl 4 rfl) ?_
        refine va_iast hx hb hK hP hD hS 8 4 rgL10_eedba4b rgT6_434bf82 (vinI (by omega) (by omega)) dX8_died_77 (fun H locs hP9 hD9 hS9 => ?_)
        obtain ⟨y7, e_y7⟩ : ∃ y, (upd a0_8_1_f a1.toNatClampNeg a2) = y := ⟨_, rfl⟩
        clear hP hD hS
        obtain ⟨hP, hD⟩ := rgS10_7521bbf (e := (a0_8_1, .inl (a0_8_1_c, 8, .inl y7))) hP9 hD9 (congrArg (fun z9 => (((a0_8_1, .inl (a0_8_1_c, 8, .inl z9)) : Nat × va_E))) e_y7)
        have hS := hS9; clear hP9 hD9 hS9
        refine lv_aload_n hx hb dX8_died_78 rfl (lv_at hl 2 rfl) ?_
        refine lv_iconst (v := 2) hx hb dX8_died_79 (by decide) ?_
        refine lv_iload_n hx hb dX8_died_80 rfl (lv_at hl 3 rfl) ?_
        refine lv_iload hx hb dX8_died_81 (lv_at hl 0 rfl) ?_
        have qc2 : (2 : Int32).toInt = 2 := by decide
        have hPc := (rgP10_1ee03f1 hP)
        have hKc := (rgK6_96ec0d8 hK)
        have hDc := (rgD10_02479d5 hD)
        have hFc := freeW hDc hS hA
        refine va_callv (va_runV (As := [.int 2, .int a1, .int x6]) (rest := []) ⟨hx, hb, hml, hown, hts⟩ (k_X8_remember l dC dI g H.size (a0) (2) (a1) (x6) (a0_0) (a0_1) (a0_2) (a0_3) (a0_4) (a0_5) (a0_6) (a0_7) (a0_8) (a0_9) (a0_10) (a0_3_0) (a0_3_1) (a0_3_2) (a0_3_3) (a0_3_0_c) (a0_3_0_f) (a0_3_1_c) (a0_3_1_f) (a0_3_2_c) (a0_3_2_f) (by omega) (by assumption) (by unfold JE; omega)) (cwV 3 hts (gwV qw_288 qw_289 qw_290 qw_28 qw_287) rfl rfl rfl (by decide +kernel) ⟨Nat.le_of_ble_eq_true rfl, Nat.le_of_ble_eq_true rfl⟩) ⟨fun a U g9 mk q => ⟨q.1, q.2.1, q.2.2.1, va_K.moved (u := U) (U := U.calling g9 mk a) (Vm.Alike.refl U.vm) q.2.2.2.1, q.2.2.2.2.1, Ev.bl q.2.2.2.2.2⟩, va_recv hK hP (ci := 7) (q0 := 0) rfl rgL10_6790d07, fun U hU hW => ⟨rfl, by rw [hU], atB hU hPc, va_K.moved hW.alike hKc, hDc.weaken (fun _ _ _ _ => trivial), hE.go hS hFc hU hW⟩⟩ rfl rfl hl.1 rfl (lv_room (Nat.le_of_ble_eq_true rfl)) dX8_died_83 ⟨Nat.le_of_ble_eq_true rfl, Nat.le_of_ble_eq_true rfl⟩) hS (fun q _ h => hFc q h) hFc (fun u8 t H1 locs ht hvm h_u8 hB hz1 hk1 hS => ?_)
        obtain ⟨za0_10_10, za0_3_3_11, za0_3_0_f_12, za0_3_1_f_13, za0_3_2_f_14, hF15, hF16, hF17, hP1, hK1, hD1⟩ := hB
        have hK1 := va_K.moved hvm.symm hK1
        have hJ9 := rgJ10_f235054 hP hD hk1 hFc (atH ht hP1) hD1
        clear hP hD hPc hKc hDc hFc hP1 hD1 hk1 hz1
        obtain ⟨hP, hD⟩ := hJ9
        clear hK1
        generalize H1 = H at hP hS ⊢
        refine W.widen (k := 0) (n := 0) (Nat.le_of_ble_eq_true rfl) (Nat.le_of_ble_eq_true rfl) ?_
        refine lv_iload hx hb dX8_died_86 (lv_at hl 0 rfl) ?_
        refine W.widen (k := 0) (n := 0) (Nat.le_of_ble_eq_true rfl) (Nat.le_of_ble_eq_true rfl) ?_
        have hP9 := hP
        have hD9 := hD
        have hK9 := (rgK6_eadb845 hK)
        have hf9_0 : (0 ≤ za0_3_3_11.toInt ∧ za0_3_3_11.toInt ≤ 12) := by omega
        have hf9_1 : (JA za0_3_0_f_12 za0_3_1_f_13 za0_3_2_f_14 za0_3_3_11) := by assumption
        have hf9_2 : (JC za0_3_0_f_12 za0_3_1_f_13 za0_3_3_11 a0_8_3_f) := JC.act hjc (by assumption) (by omega)
        exact W.iret (v := x6) hx hb hr (fun t ht hW => ⟨⟨x6, x6, rfl, rfl, za0_10_10, za0_3_3_11, za0_3_0_f_12, za0_3_1_f_13, za0_3_2_f_14, y7, hf9_0, hf9_1, hf9_2, atB ht hP9, va_K.moved hW.alike hK9, hD9⟩, hS.F ht⟩) hS.2.2 dX8_died_88
      · have c38_5 : ¬ (a2.toInt = (-1)) := mt (cv_eq rfl (by decide)).mpr c38_5
        refine lv_iload_n hx hb dX8_died_41 rfl (lv_at hl 3 rfl) ?_
        refine lv_aload_n hx hb dX8_died_42 rfl (lv_at hl 1 rfl) ?_
        refine va_get (D := (dC, dI)) (ci := 7) (v := .ref a0_6) (C := RX8) (T := TX8) (N := 11) hx hb hts inlX8 hown hK hP 0 rgL10_6790d07 rfl 6 (by decide) (hts (.fieldLink RX8 51 "ClosedUntil" "told" "LClosedUntil$Holdings;") qw_262) (fun _ h9 => h9) rfl dX8_died_43 ?_
        refine va_getN (D := (dC, dI)) (ci := 0) (v := .ref a0_6_1) (C := RX1) (T := TX1) (N := 14) hx hb hts inlX1 hown hK hP 5 rgL10_adf45ab rfl 1 (by decide) (va_Nw.use rfl (nf_30 hN)) (fun _ h9 => h9) rfl dX8_died_46 ?_
        refine lv_iload_n hx hb dX8_died_49 rfl (lv_at hl 2 rfl) ?_
        refine va_iald hx hb hK hP 6 3 rgL10_d919974 rgT6_ad58e03 (vinI (by omega) (by omega)) dX8_died_50 ?_
        refine lv_topi (fun x18 e_x18 => ?_)
        have b_x18 := i32b x18
        refine lv_icmp_ge (tgt := 57) hx hb dX8_died_51 (by decide) (fun c51_19 => ?_) (fun c51_19 => ?_)
        · have c51_19 : x18.toInt ≤ a2.toInt := (cv_le rfl rfl).mp c51_19
          refine lv_aload_n hx hb dX8_died_57 rfl (lv_at hl 1 rfl) ?_
          refine va_get (D := (dC, dI)) (ci := 7) (v := .ref a0_8) (C := RX8) (T := TX8) (N := 11) hx hb hts inlX8 hown hK hP 0 rgL10_6790d07 rfl 8 (by decide) (hts (.fieldLink RX8 58 "ClosedUntil" "now" "LClosedUntil$State;") qw_266) (fun _ h9 => h9) rfl dX8_died_58 ?_
          refine va_getN (D := (dC, dI)) (ci := 2) (v := .ref a0_8_1) (C := RX3) (T := TX3) (N := 6) hx hb hts inlX3 hown hK hP 7 rgL10_4409b10 rfl 1 (by decide) (va_Nw.use rfl (nf_18 hN)) (fun _ h9 => h9) rfl dX8_died_61 ?_
          refine lv_iload_n hx hb dX8_died_64 rfl (lv_at hl 2 rfl) ?_
          refine va_iald hx hb hK hP 8 4 rgL10_eedba4b rgT6_434bf82 (vinI (by omega) (by omega)) dX8_died_65 ?_
          refine lv_topi (fun x20 e_x20 => ?_)
          have b_x20 := i32b x20
          refine lv_istore (lv' := [(4, .int x20), (3, .int 1), (0, .ref a0), (1, .int a1), (2, .int a2)]) hx hb dX8_died_66 hl (by decide) rfl (fun ls hl => ?_)
          refine lv_aload_n hx hb dX8_died_68 rfl (lv_at hl 2 rfl) ?_
          refine va_get (D := (dC, dI)) (ci := 7) (v := .ref a0_8) (C := RX8) (T := TX8) (N := 11) hx hb hts inlX8 hown hK hP 0 rgL10_6790d07 rfl 8 (by decide) (hts (.fieldLink RX8 58 "ClosedUntil" "now" "LClosedUntil$State;") qw_266) (fun _ h9 => h9) rfl dX8_died_69 ?_
          refine va_getN (D := (dC, dI)) (ci := 2) (v := .ref a0_8_1) (C := RX3) (T := TX3) (N := 6) hx hb hts inlX3 hown hK hP 7 rgL10_4409b10 rfl 1 (by decide) (va_Nw.use rfl (nf_18 hN)) (fun _ h9 => h9) rfl dX8_died_72 ?_
          refine lv_iload_n hx hb dX8_died_75 rfl (lv_at hl 3 rfl) ?_
          refine lv_iload_n hx hb dX8_died_76 rfl (lv_at hl 4 rfl) ?_
          refine va_iast hx hb hK hP hD hS 8 4 rgL10_eedba4b rgT6_434bf82 (vinI (by omega) (by omega)) dX8_died_77 (fun H locs hP9 hD9 hS9 => ?_)
          obtain ⟨y21, e_y21⟩ : ∃ y, (upd a0_8_1_f a1.toNatClampNeg a2) = y := ⟨_, rfl⟩
          clear hP hD hS
          obtain ⟨hP, hD⟩ := rgS10_7521bbf (e := (a0_8_1, .inl (a0_8_1_c, 8, .inl y21))) hP9 hD9 (congrArg (fun z9 => (((a0_8_1, .inl (a0_8_1_c, 8, .inl z9)) : Nat × va_E))) e_y21)
          have hS := hS9; clear hP9 hD9 hS9
          refine lv_aload_n hx hb dX8_died_78 rfl (lv_at hl 2 rfl) ?_
          refine lv_iconst (v := 2) hx hb dX8_died_79 (by decide) ?_
          refine lv_iload_n hx hb dX8_died_80 rfl (lv_at hl 3 rfl) ?_
          refine lv_iload hx hb dX8_died_81 (lv_at hl 0 rfl) ?_
          have qc2 : (2 : Int32).toInt = 2 := by decide
          have hPc := (rgP10_1ee03f1 hP)
          have hKc := (rgK6_96ec0d8 hK)
          have hDc := (rgD10_02479d5 hD)
          have hFc := freeW hDc hS hA
          refine va_callv (va_runV (As := [.int 2, .int a1, .int x20]) (rest := []) ⟨hx, hb, hml, hown, hts⟩ (k_X8_remember l dC dI g H.size (a0) (2) (a1) (x20) (a0_0) (a0_1) (a0_2) (a0_3) (a0_4) (a0_5) (a0_6) (a0_7) (a0_8) (a0_9) (a0_10) (a0_3_0) (a0_3_1) (a0_3_2) (a0_3_3) (a0_3_0_c) (a0_3_0_f) (a0_3_1_c) (a0_3_1_f) (a0_3_2_c) (a0_3_2_f) (by omega) (by assumption) (by unfold JE; omega)) (cwV 3 hts (gwV qw_288 qw_289 qw_290 qw_28 qw_287) rfl rfl rfl (by decide +kernel) ⟨Nat.le_of_ble_eq_true rfl, Nat.le_of_ble_eq_true rfl⟩) ⟨fun a U g9 mk q => ⟨q.1, q.2.1, q.2.2.1, va_K.moved (u := U) (U := U.calling g9 mk a) (Vm.Alike.refl U.vm) q.2.2.2.1, q.2.2.2.2.1, Ev.bl q.2.2.2.2.2⟩, va_recv hK hP (ci := 7) (q0 := 0) rfl rgL10_6790d07, fun U hU hW => ⟨rfl, by rw [hU], atB hU hPc, va_K.moved hW.alike hKc, hDc.weaken (fun _ _ _ _ => trivial), hE.go hS hFc hU hW⟩⟩ rfl rfl hl.1 rfl (lv_room (Nat.le_of_ble_eq_true rfl)) dX8_died_83 ⟨Nat.le_of_ble_eq_true rfl, Nat.le_of_ble_eq_true rfl⟩) hS (fun q _ h => hFc q h) hFc (fun u22 t H1 locs ht hvm h_u22 hB hz1 hk1 hS => ?_)
          obtain ⟨za0_10_24, za0_3_3_25, za0_3_0_f_26, za0_3_1_f_27, za0_3_2_f_28, hF29, hF30, hF31, hP1, hK1, hD1⟩ := hB
          have hK1 := va_K.moved hvm.symm hK1
          have hJ9 := rgJ10_f235054 hP hD hk1 hFc (atH ht hP1) hD1
          clear hP hD hPc hKc hDc hFc hP1 hD1 hk1 hz1
          obtain ⟨hP, hD⟩ := hJ9
          clear hK1
          generalize H1 = H at hP hS ⊢
          refine W.widen (k := 0) (n := 0) (Nat.le_of_ble_eq_true rfl) (Nat.le_of_ble_eq_true rfl) ?_
          refine lv_iload hx hb dX8_died_86 (lv_at hl 0 rfl) ?_
          refine W.widen (k := 0) (n := 0) (Nat.le_of_ble_eq_true rfl) (Nat.le_of_ble_eq_true rfl) ?_
          have hP9 := hP
          have hD9 := hD
          have hK9 := (rgK6_eadb845 hK)
          have hf9_0 : (0 ≤ za0_3_3_25.toInt ∧ za0_3_3_25.toInt ≤ 12) := by omega
          have hf9_1 : (JA za0_3_0_f_26 za0_3_1_f_27 za0_3_2_f_28 za0_3_3_25) := by assumption
          have hf9_2 : (JC za0_3_0_f_26 za0_3_1_f_27 za0_3_3_25 a0_8_3_f) := JC.act hjc (by assumption) (by omega)
          exact W.iret (v := x20) hx hb hr (fun t ht hW => ⟨⟨x20, x20, rfl, rfl, za0_10_24, za0_3_3_25, za0_3_0_f_26, za0_3_1_f_27, za0_3_2_f_28, y21, hf9_0, hf9_1, hf9_2, atB ht hP9, va_K.moved hW.alike hK9, hD9⟩, hS.F ht⟩) hS.2.2 dX8_died_88
        · have c51_19 : ¬ (x18.toInt ≤ a2.toInt) := mt (cv_le rfl rfl).mpr c51_19
          refine lv_bipush (v := (-2)) hx hb dX8_died_54 (by decide) ?_
          have qcm2 : ((-2) : Int32).toInt = (-2) := by decide
          refine W.widen (k := 0) (n := 0) (Nat.le_of_ble_eq_true rfl) (Nat.le_of_ble_eq_true rfl) ?_
          have hP9 := hP
          have hD9 := hD
          have hK9 := (rgK6_eadb845 hK)
          have hf9_0 : (0 ≤ a0_3_3.toInt ∧ a0_3_3.toInt ≤ 12) := by omega
          have hf9_1 : (JA a0_3_0_f a0_3_1_f a0_3_2_f a0_3_3) := by assumption
          have hf9_2 : (JC a0_3_0_f a0_3_1_f a0_3_3 a0_8_3_f) := hjc
          exact W.iret (v := (-2)) hx hb hr (fun t ht hW => ⟨⟨(-2), (-2), rfl, rfl, a0_10, a0_3_3, a0_3_0_f, a0_3_1_f, a0_3_2_f, a0_8_1_f, hf9_0, hf9_1, hf9_2, atB ht hP9, va_K.moved hW.alike hK9, hD9⟩, hS.F ht⟩) hS.2.2 dX8_died_56
    · have c30_4 : r3.toInt = 0 := (cv_eq rfl (by decide)).mp c30_4
      refine lv_bipush (v := (-2)) hx hb dX8_died_33 (by decide) ?_
      have qcm2 : ((-2) : Int32).toInt = (-2) := by decide
      refine W.widen (k := 0) (n := 0) (Nat.le_of_ble_eq_true rfl) (Nat.le_of_ble_eq_true rfl) ?_
      have hP9 := hP
      have hD9 := hD
      have hK9 := (rgK6_eadb845 hK)
      have hf9_0 : (0 ≤ a0_3_3.toInt ∧ a0_3_3.toInt ≤ 12) := by omega
      have hf9_1 : (JA a0_3_0_f a0_3_1_f a0_3_2_f a0_3_3) := by assumption
      have hf9_2 : (JC a0_3_0_f a0_3_1_f a0_3_3 a0_8_3_f) := hjc
      exact W.iret (v := (-2)) hx hb hr (fun t ht hW => ⟨⟨(-2), (-2), rfl, rfl, a0_10, a0_3_3, a0_3_0_f, a0_3_1_f, a0_3_2_f, a0_8_1_f, hf9_0, hf9_1, hf9_2, atB ht hP9, va_K.moved hW.alike hK9, hD9⟩, hS.F ht⟩) hS.2.2 dX8_died_35
  · have c2_1 : ¬ (a2.toInt = (-1)) := mt (cv_eq rfl (by decide)).mpr c2_1
    refine lv_iload_n hx hb dX8_died_5 rfl (lv_at hl 2 rfl) ?_
    have hPc := (rgP10_ad8e293 hP)
    have hKc := (rgK6_eadb845 hK)
    refine vp_callSi ((va_runSN (As := [.int a2]) (rest := []) ⟨hx, hb, hml, hown, hts⟩ (k_X0_has l dC dI g (a2) ) ⟨va_cnB 1 hts (gwC qw_251) rfl rfl rfl (nm_19 hN) (hts (.initialized RX0) qw_3) (by decide +kernel) ⟨Nat.le_of_ble_eq_true rfl, Nat.le_of_ble_eq_true rfl⟩, (hts (.static yX0_has) qw_252), trivial⟩ ⟨fun a U g9 mk q => ⟨q.1, q.2.1, va_K.moved (u := U) (U := U.calling g9 mk a) (Vm.Alike.refl U.vm) q.2.2.1, Ev.bl q.2.2.2⟩, fun U hU hW => ⟨rfl, atB hU hPc, va_K.moved hW.alike hKc, hE.go hS (fun _ h => h.elim) hU hW⟩⟩ rfl rfl hl.1 rfl (lv_room (Nat.le_of_ble_eq_true rfl)) dX8_died_6 ⟨Nat.le_of_ble_eq_true rfl, Nat.le_of_ble_eq_true rfl⟩)).run (fun r32 h_r32 => ?_)
    have h_r32 : (r32 = 0 ∨ r32 = 1) := h_r32
    have b_r32 := z01 (show r32 = 0 ∨ r32 = 1 from h_r32)
    refine lv_if_eq (tgt := 16) hx hb dX8_died_9 (by decide) (fun c9_33 => ?_) (fun c9_33 => ?_)
    · have c9_33 : r32.toInt = 0 := (cv_eq rfl (by decide)).mp c9_33
      refine lv_iconst (v := 0) hx hb dX8_died_16 (by decide) ?_
      refine lv_istore_n (lv' := [(3, .int 0), (0, .ref a0), (1, .int a1), (2, .int a2)]) hx hb dX8_died_17 rfl hl (by decide) rfl (fun ls hl => ?_)
      refine lv_iload_n hx hb dX8_died_18 rfl (lv_at hl 0 rfl) ?_
      refine lv_if_eq (tgt := 33) hx hb dX8_died_19 (by decide) (fun c19_34 => ?_) (fun c19_34 => by exfalso; exact absurd c19_34 (by decide))
      refine lv_bipush (v := (-2)) hx hb dX8_died_33 (by decide) ?_
      have qcm2 : ((-2) : Int32).toInt = (-2) := by decide
      refine W.widen (k := 0) (n := 0) (Nat.le_of_ble_eq_true rfl) (Nat.le_of_ble_eq_true rfl) ?_
      have hP9 := hP
      have hD9 := hD
      have hK9 := (rgK6_eadb845 hK)
      have hf9_0 : (0 ≤ a0_3_3.toInt ∧ a0_3_3.toInt ≤ 12) := by omega
      have hf9_1 : (JA a0_3_0_f a0_3_1_f a0_3_2_f a0_3_3) := by assumption
      have hf9_2 : (JC a0_3_0_f a0_3_1_f a0_3_3 a0_8_3_f) := hjc
      exact W.iret (v := (-2)) hx hb hr (fun t ht hW => ⟨⟨(-2), (-2), rfl, rfl, a0_10, a0_3_3, a0_3_0_f, a0_3_1_f, a0_3_2_f, a0_8_1_f, hf9_0, hf9_1, hf9_2, atB ht hP9, va_K.moved hW.alike hK9, hD9⟩, hS.F ht⟩) hS.2.2 dX8_died_35
    · have c9_33 : ¬ (r32.toInt = 0) := mt (cv_eq rfl (by decide)).mpr c9_33
      refine lv_iconst (v := 1) hx hb dX8_died_12 (by decide) ?_
      refine lv_goto (tgt := 17) hx hb dX8_died_13 (by decide) ?_
      refine lv_istore_n (lv' := [(3, .int 1), (0, .ref a0), (1, .int a1), (2, .int a2)]) hx hb dX8_died_17 rfl hl (by decide) rfl (fun ls hl => ?_)
      refine lv_iload_n hx hb dX8_died_18 rfl (lv_at hl 0 rfl) ?_
      refine lv_if_eq (tgt := 33) hx hb dX8_died_19 (by decide) (fun c19_35 => by exfalso; exact absurd c19_35 (by decide)) (fun c19_35 => ?_)
      refine lv_aload_n hx hb dX8_died_22 rfl (lv_at hl 1 rfl) ?_
      refine va_get (D := (dC, dI)) (ci := 7) (v := .ref a0_6) (C := RX8) (T := TX8) (N := 11) hx hb hts inlX8 hown hK hP 0 rgL10_6790d07 rfl 6 (by decide) (hts (.fieldLink RX8 51 "ClosedUntil" "told" "LClosedUntil$Holdings;") qw_262) (fun _ h9 => h9) rfl dX8_died_23 ?_
      refine lv_iload_n hx hb dX8_died_26 rfl (lv_at hl 2 rfl) ?_
      have hPc := (rgP10_c285bf6 hP)
      have hKc := (rgK6_eadb845 hK)
      refine vp_callSi ((va_runVN (As := [.int a1]) (rest := []) ⟨hx, hb, hml, hown, hts⟩ (k_X1_hasPerson l dC dI g (a0_6) (a1) (a0_6_0) (a0_6_1) (a0_6_2) (a0_6_3) (a0_6_4) (a0_6_5) (a0_6_6) (a0_6_7) (a0_6_8) (a0_6_9) (a0_6_10) (a0_6_11) (a0_6_12) (a0_6_13) (by omega) (by omega) (by omega) (by omega)) ⟨va_cnB 1 hts (gwC qw_263) rfl rfl rfl (nm_31 hN) (hts (.initialized RX1) qw_183) (by decide +kernel) ⟨Nat.le_of_ble_eq_true rfl, Nat.le_of_ble_eq_true rfl⟩, (hts (.instanceMethod yX1_hasPerson) qw_264), (hts (.selects RX1 yX1_hasPerson yX1_hasPerson) qw_265)⟩ ⟨fun a U g9 mk q => ⟨q.1, q.2.1, va_K.moved (u := U) (U := U.calling g9 mk a) (Vm.Alike.refl U.vm) q.2.2.1, Ev.bl q.2.2.2⟩, va_recv hK hP (ci := 0) (q0 := 5) rfl rgL10_adf45ab, fun U hU hW => ⟨rfl, atB hU hPc, va_K.moved hW.alike hKc, hE.go hS (fun _ h => h.elim) hU hW⟩⟩ rfl rfl hl.1 rfl (lv_room (Nat.le_of_ble_eq_true rfl)) dX8_died_27 ⟨Nat.le_of_ble_eq_true rfl, Nat.le_of_ble_eq_true rfl⟩)).run (fun r36 h_r36 => ?_)
      have h_r36 : (r36 = 0 ∨ r36 = 1) ∧ ((r36.toInt = 1 ∧ 0 ≤ a1.toInt ∧ a1.toInt < a0_6_0.toInt) ∨ r36.toInt = 0) := h_r36
      have b_r36 := z01 (show r36 = 0 ∨ r36 = 1 from h_r36.1)
      refine lv_if_ne (tgt := 36) hx hb dX8_died_30 (by decide) (fun c30_37 => ?_) (fun c30_37 => ?_)
      · have c30_37 : ¬ (r36.toInt = 0) := mt (cv_eq rfl (by decide)).mpr c30_37
        refine lv_iload_n hx hb dX8_died_36 rfl (lv_at hl 3 rfl) ?_
        refine lv_iconst (v := (-1)) hx hb dX8_died_37 (by decide) ?_
        refine lv_icmp_eq (tgt := 57) hx hb dX8_died_38 (by decide) (fun c38_38 => ?_) (fun c38_38 => ?_)
        · have c38_38 : a2.toInt = (-1) := (cv_eq rfl (by decide)).mp c38_38
          refine lv_aload_n hx hb dX8_died_57 rfl (lv_at hl 1 rfl) ?_
          refine va_get (D := (dC, dI)) (ci := 7) (v := .ref a0_8) (C := RX8) (T := TX8) (N := 11) hx hb hts inlX8 hown hK hP 0 rgL10_6790d07 rfl 8 (by decide) (hts (.fieldLink RX8 58 "ClosedUntil" "now" "LClosedUntil$State;") qw_266) (fun _ h9 => h9) rfl dX8_died_58 ?_
          refine va_getN (D := (dC, dI)) (ci := 2) (v := .ref a0_8_1) (C := RX3) (T := TX3) (N := 6) hx hb hts inlX3 hown hK hP 7 rgL10_4409b10 rfl 1 (by decide) (va_Nw.use rfl (nf_18 hN)) (fun _ h9 => h9) rfl dX8_died_61 ?_
          refine lv_iload_n hx hb dX8_died_64 rfl (lv_at hl 2 rfl) ?_
          refine va_iald hx hb hK hP 8 4 rgL10_eedba4b rgT6_434bf82 (vinI (by omega) (by omega)) dX8_died_65 ?_
          refine lv_topi (fun x39 e_x39 => ?_)
          have b_x39 := i32b x39
          refine lv_istore (lv' := [(4, .int x39), (3, .int 1), (0, .ref a0), (1, .int a1), (2, .int a2)]) hx hb dX8_died_66 hl (by decide) rfl (fun ls hl => ?_)
          refine lv_aload_n hx hb dX8_died_68 rfl (lv_at hl 2 rfl) ?_
          refine va_get (D := (dC, dI)) (ci := 7) (v := .ref a0_8) (C := RX8) (T := TX8) (N := 11) hx hb hts inlX8 hown hK hP 0 rgL10_6790d07 rfl 8 (by decide) (hts (.fieldLink RX8 58 "ClosedUntil" "now" "LClosedUntil$State;") qw_266) (fun _ h9 => h9) rfl dX8_died_69 ?_
          refine va_getN (D := (dC, dI)) (ci := 2) (v := .ref a0_8_1) (C := RX3) (T := TX3) (N := 6) hx hb hts inlX3 hown hK hP 7 rgL10_4409b10 rfl 1 (by decide) (va_Nw.use rfl (nf_18 hN)) (fun _ h9 => h9) rfl dX8_died_72 ?_
          refine lv_iload_n hx hb dX8_died_75 rfl (lv_at hl 3 rfl) ?_
          refine lv_iload_n hx hb dX8_died_76 rfl (lv_at hl 4 rfl) ?_
          refine va_iast hx hb hK hP hD hS 8 4 rgL10_eedba4b rgT6_434bf82 (vinI (by omega) (by omega)) dX8_died_77 (fun H locs hP9 hD9 hS9 => ?_)
          obtain ⟨y40, e_y40⟩ : ∃ y, (upd a0_8_1_f a1.toNatClampNeg a2) = y := ⟨_, rfl⟩
          clear hP hD hS
          obtain ⟨hP, hD⟩ := rgS10_7521bbf (e := (a0_8_1, .inl (a0_8_1_c, 8, .inl y40))) hP9 hD9 (congrArg (fun z9 => (((a0_8_1, .inl (a0_8_1_c, 8, .inl z9)) : Nat × va_E))) e_y40)
          have hS := hS9; clear hP9 hD9 hS9
          refine lv_aload_n hx hb dX8_died_78 rfl (lv_at hl 2 rfl) ?_
          refine lv_iconst (v := 2) hx hb dX8_died_79 (by decide) ?_
          refine lv_iload_n hx hb dX8_died_80 rfl (lv_at hl 3 rfl) ?_
          refine lv_iload hx hb dX8_died_81 (lv_at hl 0 rfl) ?_
          have qc2 : (2 : Int32).toInt = 2 := by decide
          have hPc := (rgP10_1ee03f1 hP)
          have hKc := (rgK6_96ec0d8 hK)
          have hDc := (rgD10_02479d5 hD)
          have hFc := freeW hDc hS hA
          refine va_callv (va_runV (As := [.int 2, .int a1, .int x39]) (rest := []) ⟨hx, hb, hml, hown, hts⟩ (k_X8_remember l dC dI g H.size (a0) (2) (a1) (x39) (a0_0) (a0_1) (a0_2) (a0_3) (a0_4) (a0_5) (a0_6) (a0_7) (a0_8) (a0_9) (a0_10) (a0_3_0) (a0_3_1) (a0_3_2) (a0_3_3) (a0_3_0_c) (a0_3_0_f) (a0_3_1_c) (a0_3_1_f) (a0_3_2_c) (a0_3_2_f) (by omega) (by assumption) (by unfold JE; omega)) (cwV 3 hts (gwV qw_288 qw_289 qw_290 qw_28 qw_287) rfl rfl rfl (by decide +kernel) ⟨Nat.le_of_ble_eq_true rfl, Nat.le_of_ble_eq_true rfl⟩) ⟨fun a U g9 mk q => ⟨q.1, q.2.1, q.2.2.1, va_K.moved (u := U) (U := U.calling g9 mk a) (Vm.Alike.refl U.vm) q.2.2.2.1, q.2.2.2.2.1, Ev.bl q.2.2.2.2.2⟩, va_recv hK hP (ci := 7) (q0 := 0) rfl rgL10_6790d07, fun U hU hW => ⟨rfl, by rw [hU], atB hU hPc, va_K.moved hW.alike hKc, hDc.weaken (fun _ _ _ _ => trivial), hE.go hS hFc hU hW⟩⟩ rfl rfl hl.1 rfl (lv_room (Nat.le_of_ble_eq_true rfl)) dX8_died_83 ⟨Nat.le_of_ble_eq_true rfl, Nat.le_of_ble_eq_true rfl⟩) hS (fun q _ h => hFc q h) hFc (fun u41 t H1 locs ht hvm h_u41 hB hz1 hk1 hS => ?_)
          obtain ⟨za0_10_43, za0_3_3_44, za0_3_0_f_45, za0_3_1_f_46, za0_3_2_f_47, hF48, hF49, hF50, hP1, hK1, hD1⟩ := hB
          have hK1 := va_K.moved hvm.symm hK1
          have hJ9 := rgJ10_f235054 hP hD hk1 hFc (atH ht hP1) hD1
          clear hP hD hPc hKc hDc hFc hP1 hD1 hk1 hz1
          obtain ⟨hP, hD⟩ := hJ9
          clear hK1
          generalize H1 = H at hP hS ⊢
          refine W.widen (k := 0) (n := 0) (Nat.le_of_ble_eq_true rfl) (Nat.le_of_ble_eq_true rfl) ?_
          refine lv_iload hx hb dX8_died_86 (lv_at hl 0 rfl) ?_
          refine W.widen (k := 0) (n := 0) (Nat.le_of_ble_eq_true rfl) (Nat.le_of_ble_eq_true rfl) ?_
          have hP9 := hP
          have hD9 := hD
          have hK9 := (rgK6_eadb845 hK)
          have hf9_0 : (0 ≤ za0_3_3_44.toInt ∧ za0_3_3_44.toInt ≤ 12) := by omega
          have hf9_1 : (JA za0_3_0_f_45 za0_3_1_f_46 za0_3_2_f_47 za0_3_3_44) := by assumption
          have hf9_2 : (JC za0_3_0_f_45 za0_3_1_f_46 za0_3_3_44 a0_8_3_f) := JC.act hjc (by assumption) (by omega)
          exact W.iret (v := x39) hx hb hr (fun t ht hW => ⟨⟨x39, x39, rfl, rfl, za0_10_43, za0_3_3_44, za0_3_0_f_45, za0_3_1_f_46, za0_3_2_f_47, y40, hf9_0, hf9_1, hf9_2, atB ht hP9, va_K.moved hW.alike hK9, hD9⟩, hS.F ht⟩) hS.2.2 dX8_died_88
        · have c38_38 : ¬ (a2.toInt = (-1)) := mt (cv_eq rfl (by decide)).mpr c38_38
          refine lv_iload_n hx hb dX8_died_41 rfl (lv_at hl 3 rfl) ?_
          refine lv_aload_n hx hb dX8_died_42 rfl (lv_at hl 1 rfl) ?_
          refine va_get (D := (dC, dI)) (ci := 7) (v := .ref a0_6) (C := RX8) (T := TX8) (N := 11) hx hb hts inlX8 hown hK hP 0 rgL10_6790d07 rfl 6 (by decide) (hts (.fieldLink RX8 51 "ClosedUntil" "told" "LClosedUntil$Holdings;") qw_262) (fun _ h9 => h9) rfl dX8_died_43 ?_
          refine va_getN (D := (dC, dI)) (ci := 0) (v := .ref a0_6_1) (C := RX1) (T := TX1) (N := 14) hx hb hts inlX1 hown hK hP 5 rgL10_adf45ab rfl 1 (by decide) (va_Nw.use rfl (nf_30 hN)) (fun _ h9 => h9) rfl dX8_died_46 ?_
          refine lv_iload_n hx hb dX8_died_49 rfl (lv_at hl 2 rfl) ?_
          refine va_iald hx hb hK hP 6 3 rgL10_d919974 rgT6_ad58e03 (vinI (by omega) (by omega)) dX8_died_50 ?_
          refine lv_topi (fun x51 e_x51 => ?_)
          have b_x51 := i32b x51
          refine lv_icmp_ge (tgt := 57) hx hb dX8_died_51 (by decide) (fun c51_52 => ?_) (fun c51_52 => ?_)
          · have c51_52 : x51.toInt ≤ a2.toInt := (cv_le rfl rfl).mp c51_52
            refine lv_aload_n hx hb dX8_died_57 rfl (lv_at hl 1 rfl) ?_
            refine va_get (D := (dC, dI)) (ci := 7) (v := .ref a0_8) (C := RX8) (T := TX8) (N := 11) hx hb hts inlX8 hown hK hP 0 rgL10_6790d07 rfl 8 (by decide) (hts (.fieldLink RX8 58 "ClosedUntil" "now" "LClosedUntil$State;") qw_266) (fun _ h9 => h9) rfl dX8_died_58 ?_
            refine va_getN (D := (dC, dI)) (ci := 2) (v := .ref a0_8_1) (C := RX3) (T := TX3) (N := 6) hx hb hts inlX3 hown hK hP 7 rgL10_4409b10 rfl 1 (by decide) (va_Nw.use rfl (nf_18 hN)) (fun _ h9 => h9) rfl dX8_died_61 ?_
            refine lv_iload_n hx hb dX8_died_64 rfl (lv_at hl 2 rfl) ?_
            refine va_iald hx hb hK hP 8 4 rgL10_eedba4b rgT6_434bf82 (vinI (by omega) (by omega)) dX8_died_65 ?_
            refine lv_topi (fun x53 e_x53 => ?_)
            have b_x53 := i32b x53
            refine lv_istore (lv' := [(4, .int x53), (3, .int 1), (0, .ref a0), (1, .int a1), (2, .int a2)]) hx hb dX8_died_66 hl (by decide) rfl (fun ls hl => ?_)
            refine lv_aload_n hx hb dX8_died_68 rfl (lv_at hl 2 rfl) ?_
            refine va_get (D := (dC, dI)) (ci := 7) (v := .ref a0_8) (C := RX8) (T := TX8) (N := 11) hx hb hts inlX8 hown hK hP 0 rgL10_6790d07 rfl 8 (by decide) (hts (.fieldLink RX8 58 "ClosedUntil" "now" "LClosedUntil$State;") qw_266) (fun _ h9 => h9) rfl dX8_died_69 ?_
            refine va_getN (D := (dC, dI)) (ci := 2) (v := .ref a0_8_1) (C := RX3) (T := TX3) (N := 6) hx hb hts inlX3 hown hK hP 7 rgL10_4409b10 rfl 1 (by decide) (va_Nw.use rfl (nf_18 hN)) (fun _ h9 => h9) rfl dX8_died_72 ?_
            refine lv_iload_n hx hb dX8_died_75 rfl (lv_at hl 3 rfl) ?_
            refine lv_iload_n hx hb dX8_died_76 rfl (lv_at hl 4 rfl) ?_
            refine va_iast hx hb hK hP hD hS 8 4 rgL10_eedba4b rgT6_434bf82 (vinI (by omega) (by omega)) dX8_died_77 (fun H locs hP9 hD9 hS9 => ?_)
            obtain ⟨y54, e_y54⟩ : ∃ y, (upd a0_8_1_f a1.toNatClampNeg a2) = y := ⟨_, rfl⟩
            clear hP hD hS
            obtain ⟨hP, hD⟩ := rgS10_7521bbf (e := (a0_8_1, .inl (a0_8_1_c, 8, .inl y54))) hP9 hD9 (congrArg (fun z9 => (((a0_8_1, .inl (a0_8_1_c, 8, .inl z9)) : Nat × va_E))) e_y54)
            have hS := hS9; clear hP9 hD9 hS9
            refine lv_aload_n hx hb dX8_died_78 rfl (lv_at hl 2 rfl) ?_
            refine lv_iconst (v := 2) hx hb dX8_died_79 (by decide) ?_
            refine lv_iload_n hx hb dX8_died_80 rfl (lv_at hl 3 rfl) ?_
            refine lv_iload hx hb dX8_died_81 (lv_at hl 0 rfl) ?_
            have qc2 : (2 : Int32).toInt = 2 := by decide
            have hPc := (rgP10_1ee03f1 hP)
            have hKc := (rgK6_96ec0d8 hK)
            have hDc := (rgD10_02479d5 hD)
            have hFc := freeW hDc hS hA
            refine va_callv (va_runV (As := [.int 2, .int a1, .int x53]) (rest := []) ⟨hx, hb, hml, hown, hts⟩ (k_X8_remember l dC dI g H.size (a0) (2) (a1) (x53) (a0_0) (a0_1) (a0_2) (a0_3) (a0_4) (a0_5) (a0_6) (a0_7) (a0_8) (a0_9) (a0_10) (a0_3_0) (a0_3_1) (a0_3_2) (a0_3_3) (a0_3_0_c) (a0_3_0_f) (a0_3_1_c) (a0_3_1_f) (a0_3_2_c) (a0_3_2_f) (by omega) (by assumption) (by unfold JE; omega)) (cwV 3 hts (gwV qw_288 qw_289 qw_290 qw_28 qw_287) rfl rfl rfl (by decide +kernel) ⟨Nat.le_of_ble_eq_true rfl, Nat.le_of_ble_eq_true rfl⟩) ⟨fun a U g9 mk q => ⟨q.1, q.2.1, q.2.2.1, va_K.moved (u := U) (U := U.calling g9 mk a) (Vm.Alike.refl U.vm) q.2.2.2.1, q.2.2.2.2.1, Ev.bl q.2.2.2.2.2⟩, va_recv hK hP (ci := 7) (q0 := 0) rfl rgL10_6790d07, fun U hU hW => ⟨rfl, by rw [hU], atB hU hPc, va_K.moved hW.alike hKc, hDc.weaken (fun _ _ _ _ => trivial), hE.go hS hFc hU hW⟩⟩ rfl rfl hl.1 rfl (lv_room (Nat.le_of_ble_eq_true rfl)) dX8_died_83 ⟨Nat.le_of_ble_eq_true rfl, Nat.le_of_ble_eq_true rfl⟩) hS (fun q _ h => hFc q h) hFc (fun u55 t H1 locs ht hvm h_u55 hB hz1 hk1 hS => ?_)
            obtain ⟨za0_10_57, za0_3_3_58, za0_3_0_f_59, za0_3_1_f_60, za0_3_2_f_61, hF62, hF63, hF64, hP1, hK1, hD1⟩ := hB
            have hK1 := va_K.moved hvm.symm hK1
            have hJ9 := rgJ10_f235054 hP hD hk1 hFc (atH ht hP1) hD1
            clear hP hD hPc hKc hDc hFc hP1 hD1 hk1 hz1
            obtain ⟨hP, hD⟩ := hJ9
            clear hK1
            generalize H1 = H at hP hS ⊢
            refine W.widen (k := 0) (n := 0) (Nat.le_of_ble_eq_true rfl) (Nat.le_of_ble_eq_true rfl) ?_
            refine lv_iload hx hb dX8_died_86 (lv_at hl 0 rfl) ?_
            refine W.widen (k := 0) (n := 0) (Nat.le_of_ble_eq_true rfl) (Nat.le_of_ble_eq_true rfl) ?_
            have hP9 := hP
            have hD9 := hD
            have hK9 := (rgK6_eadb845 hK)
            have hf9_0 : (0 ≤ za0_3_3_58.toInt ∧ za0_3_3_58.toInt ≤ 12) := by omega
            have hf9_1 : (JA za0_3_0_f_59 za0_3_1_f_60 za0_3_2_f_61 za0_3_3_58) := by assumption
            have hf9_2 : (JC za0_3_0_f_59 za0_3_1_f_60 za0_3_3_58 a0_8_3_f) := JC.act hjc (by assumption) (by omega)
            exact W.iret (v := x53) hx hb hr (fun t ht hW => ⟨⟨x53, x53, rfl, rfl, za0_10_57, za0_3_3_58, za0_3_0_f_59, za0_3_1_f_60, za0_3_2_f_61, y54, hf9_0, hf9_1, hf9_2, atB ht hP9, va_K.moved hW.alike hK9, hD9⟩, hS.F ht⟩) hS.2.2 dX8_died_88
          · have c51_52 : ¬ (x51.toInt ≤ a2.toInt) := mt (cv_le rfl rfl).mpr c51_52
            refine lv_bipush (v := (-2)) hx hb dX8_died_54 (by decide) ?_
            have qcm2 : ((-2) : Int32).toInt = (-2) := by decide
            refine W.widen (k := 0) (n := 0) (Nat.le_of_ble_eq_true rfl) (Nat.le_of_ble_eq_true rfl) ?_
            have hP9 := hP
            have hD9 := hD
            have hK9 := (rgK6_eadb845 hK)
            have hf9_0 : (0 ≤ a0_3_3.toInt ∧ a0_3_3.toInt ≤ 12) := by omega
            have hf9_1 : (JA a0_3_0_f a0_3_1_f a0_3_2_f a0_3_3) := by assumption
            have hf9_2 : (JC a0_3_0_f a0_3_1_f a0_3_3 a0_8_3_f) := hjc
            exact W.iret (v := (-2)) hx hb hr (fun t ht hW => ⟨⟨(-2), (-2), rfl, rfl, a0_10, a0_3_3, a0_3_0_f, a0_3_1_f, a0_3_2_f, a0_8_1_f, hf9_0, hf9_1, hf9_2, atB ht hP9, va_K.moved hW.alike hK9, hD9⟩, hS.F ht⟩) hS.2.2 dX8_died_56
      · have c30_37 : r36.toInt = 0 := (cv_eq rfl (by decide)).mp c30_37
        refine lv_bipush (v := (-2)) hx hb dX8_died_33 (by decide) ?_
        have qcm2 : ((-2) : Int32).toInt = (-2) := by decide
        refine W.widen (k := 0) (n := 0) (Nat.le_of_ble_eq_true rfl) (Nat.le_of_ble_eq_true rfl) ?_
        have hP9 := hP
        have hD9 := hD
        have hK9 := (rgK6_eadb845 hK)
        have hf9_0 : (0 ≤ a0_3_3.toInt ∧ a0_3_3.toInt ≤ 12) := by omega
        have hf9_1 : (JA a0_3_0_f a0_3_1_f a0_3_2_f a0_3_3) := by assumption
        have hf9_2 : (JC a0_3_0_f a0_3_1_f a0_3_3 a0_8_3_f) := hjc
        exact W.iret (v := (-2)) hx hb hr (fun t ht hW => ⟨⟨(-2), (-2), rfl, rfl, a0_10, a0_3_3, a0_3_0_f, a0_3_1_f, a0_3_2_f, a0_8_1_f, hf9_0, hf9_1, hf9_2, atB ht hP9, va_K.moved hW.alike hK9, hD9⟩, hS.F ht⟩) hS.2.2 dX8_died_35
set_option maxHeartbeats 4000000 in
set_option maxRecDepth 100000 in
theorem k_X8_undo (l : Launch) (dC : Nat → ClassId) (dI : Nat → Nat → Nat) (g : Gv) (sz : Nat) (a0 : Nat) (a0_0 : Nat) (a0_1 : Nat) (a0_2 : Nat) (a0_3 : Nat) (a0_4 : Nat) (a0_5 : Nat) (a0_6 : Nat) (a0_7 : Nat) (a0_8 : Nat) (a0_9 : Nat) (a0_10 : Int32) (a0_3_0 : Nat) (a0_3_1 : Nat) (a0_3_2 : Nat) (a0_3_3 : Int32) (a0_3_0_c : ClassId) (a0_3_0_f : Nat → Int32) (a0_3_1_c : ClassId) (a0_3_1_f : Nat → Int32) (a0_3_2_c : ClassId) (a0_3_2_f : Nat → Int32) (a0_8_0 : Nat) (a0_8_1 : Nat) (a0_8_2 : Nat) (a0_8_3 : Nat) (a0_8_4 : Nat) (a0_8_5 : Nat) (a0_8_0_c : ClassId) (a0_8_0_f : Nat → Int32) (a0_8_1_c : ClassId) (a0_8_1_f : Nat → Int32) (a0_8_2_c : ClassId) (a0_8_2_f : Nat → Int32) (a0_8_3_c : ClassId) (a0_8_3_f : Nat → Int32) (a0_8_4_c : ClassId) (a0_8_4_f : Nat → Option Nat) (a0_8_5_c : ClassId) (a0_8_5_f : Nat → Option Nat) (rows : va_W) (h_a0_3_3 : 0 ≤ a0_3_3.toInt ∧ a0_3_3.toInt ≤ 12) (h_a0_8_3_f : vr 0 5 a0_8_3_f) (h_a0_8_4_f : GR g.2.2.2.2.1 5 12 a0_8_4_f rows) (h_a0_8_5_f : GR g.2.2.2.2.1 5 12 a0_8_5_f rows) (hja : JA a0_3_0_f a0_3_1_f a0_3_2_f a0_3_3) (hjc : JC a0_3_0_f a0_3_1_f a0_3_3 a0_8_3_f) : Met l yX8_undo (.code yX8_undo cX8_undo 1 (some .int) :: TBL) ({ frames := 2, cells := 0, slots := 0, locals := 48 }) (va_Pc [.ref a0] (fun U => U.heap.size = sz ∧ va_P (dC, dI) vwCl (([(a0, .inr (7, [.ref a0_0, .ref a0_1, .ref a0_2, .ref a0_3, .ref a0_4, .ref a0_5, .ref a0_6, .ref a0_7, .ref a0_8, .ref a0_9, .int a0_10])), (a0_3, .inr (1, [.ref a0_3_0, .ref a0_3_1, .ref a0_3_2, .int a0_3_3])), (a0_3_0, .inl (a0_3_0_c, 12, .inl a0_3_0_f)), (a0_3_1, .inl (a0_3_1_c, 12, .inl a0_3_1_f)), (a0_3_2, .inl (a0_3_2_c, 12, .inl a0_3_2_f)), (a0_8, .inr (2, [.ref a0_8_0, .ref a0_8_1, .ref a0_8_2, .ref a0_8_3, .ref a0_8_4, .ref a0_8_5])), (a0_8_0, .inl (a0_8_0_c, 24, .inl a0_8_0_f)), (a0_8_1, .inl (a0_8_1_c, 8, .inl a0_8_1_f)), (a0_8_2, .inl (a0_8_2_c, 12, .inl a0_8_2_f)), (a0_8_3, .inl (a0_8_3_c, 12, .inl a0_8_3_f)), (a0_8_4, .inl (a0_8_4_c, 12, .inr (.inr (.inr (.inr a0_8_4_f))))), (a0_8_5, .inl (a0_8_5_c, 12, .inr (.inr (.inr (.inr a0_8_5_f)))))] : va_W) ++ rows) U.heap ∧ va_K (dC, dI) vwCl [(a0_3_0_c, .int), (a0_3_1_c, .int), (a0_3_2_c, .int), (a0_8_0_c, .int), (a0_8_1_c, .int), (a0_8_2_c, .int), (a0_8_3_c, .int), (a0_8_4_c, .array .int), (a0_8_5_c, .array .int)] U ∧ va_D (fun _ => True) (([(a0, .inr (7, [.ref a0_0, .ref a0_1, .ref a0_2, .ref a0_3, .ref a0_4, .ref a0_5, .ref a0_6, .ref a0_7, .ref a0_8, .ref a0_9, .int a0_10])), (a0_3, .inr (1, [.ref a0_3_0, .ref a0_3_1, .ref a0_3_2, .int a0_3_3])), (a0_3_0, .inl (a0_3_0_c, 12, .inl a0_3_0_f)), (a0_3_1, .inl (a0_3_1_c, 12, .inl a0_3_1_f)), (a0_3_2, .inl (a0_3_2_c, 12, .inl a0_3_2_f)), (a0_8, .inr (2, [.ref a0_8_0, .ref a0_8_1, .ref a0_8_2, .ref a0_8_3, .ref a0_8_4, .ref a0_8_5])), (a0_8_0, .inl (a0_8_0_c, 24, .inl a0_8_0_f)), (a0_8_1, .inl (a0_8_1_c, 8, .inl a0_8_1_f)), (a0_8_2, .inl (a0_8_2_c, 12, .inl a0_8_2_f)), (a0_8_3, .inl (a0_8_3_c, 12, .inl a0_8_3_f)), (a0_8_4, .inl (a0_8_4_c, 12, .inr (.inr (.inr (.inr a0_8_4_f))))), (a0_8_5, .inl (a0_8_5_c, 12, .inr (.inr (.inr (.inr a0_8_5_f)))))] : va_W) ++ rows) ∧ Ev g (va_A (([(a0, .inr (7, [.ref a0_0, .ref a0_1, .ref a0_2, .ref a0_3, .ref a0_4, .ref a0_5, .ref a0_6, .ref a0_7, .ref a0_8, .ref a0_9, .int a0_10])), (a0_3, .inr (1, [.ref a0_3_0, .ref a0_3_1, .ref a0_3_2, .int a0_3_3])), (a0_3_0, .inl (a0_3_0_c, 12, .inl a0_3_0_f)), (a0_3_1, .inl (a0_3_1_c, 12, .inl a0_3_1_f)), (a0_3_2, .inl (a0_3_2_c, 12, .inl a0_3_2_f)), (a0_8, .inr (2, [.ref a0_8_0, .ref a0_8_1, .ref a0_8_2, .ref a0_8_3, .ref a0_8_4, .ref a0_8_5])), (a0_8_0, .inl (a0_8_0_c, 24, .inl a0_8_0_f)), (a0_8_1, .inl (a0_8_1_c, 8, .inl a0_8_1_f)), (a0_8_2, .inl (a0_8_2_c, 12, .inl a0_8_2_f)), (a0_8_3, .inl (a0_8_3_c, 12, .inl a0_8_3_f)), (a0_8_4, .inl (a0_8_4_c, 12, .inr (.inr (.inr (.inr a0_8_4_f))))), (a0_8_5, .inl (a0_8_5_c, 12, .inr (.inr (.inr (.inr a0_8_5_f)))))] : va_W) ++ rows) sz) U)) (va_Qi (fun (r : Int32) (u : Int32) => u = r) (fun (u : Int32) (t : State) => ∃ (za0_10 : Int32) (za0_3_3 : Int32) (za0_8_0_f : Nat → Int32) (za0_8_1_f : Nat → Int32) (za0_8_2_f : Nat → Int32) (za0_8_3_f : Nat → Int32) (zrows : va_W), (0 ≤ za0_3_3.toInt ∧ za0_3_3.toInt ≤ 12) ∧ vr 0 5 za0_8_3_f ∧ RS g.2.2.2.2.1 rows zrows ∧ (JA a0_3_0_f a0_3_1_f a0_3_2_f za0_3_3) ∧ (JC a0_3_0_f a0_3_1_f za0_3_3 za0_8_3_f) ∧ va_P (dC, dI) vwCl (([(a0, .inr (7, [.ref a0_0, .ref a0_1, .ref a0_2, .ref a0_3, .ref a0_4, .ref a0_5, .ref a0_6, .ref a0_7, .ref a0_8, .ref a0_9, .int za0_10])), (a0_3, .inr (1, [.ref a0_3_0, .ref a0_3_1, .ref a0_3_2, .int za0_3_3])), (a0_3_0, .inl (a0_3_0_c, 12, .inl a0_3_0_f)), (a0_3_1, .inl (a0_3_1_c, 12, .inl a0_3_1_f)), (a0_3_2, .inl (a0_3_2_c, 12, .inl a0_3_2_f)), (a0_8, .inr (2, [.ref a0_8_0, .ref a0_8_1, .ref a0_8_2, .ref a0_8_3, .ref a0_8_4, .ref a0_8_5])), (a0_8_0, .inl (a0_8_0_c, 24, .inl za0_8_0_f)), (a0_8_1, .inl (a0_8_1_c, 8, .inl za0_8_1_f)), (a0_8_2, .inl (a0_8_2_c, 12, .inl za0_8_2_f)), (a0_8_3, .inl (a0_8_3_c, 12, .inl za0_8_3_f)), (a0_8_4, .inl (a0_8_4_c, 12, .inr (.inr (.inr (.inr a0_8_4_f))))), (a0_8_5, .inl (a0_8_5_c, 12, .inr (.inr (.inr (.inr a0_8_5_f)))))] : va_W) ++ zrows) t.heap ∧ va_K (dC, dI) vwCl [] t ∧ va_D (va_A (([(a0, .inr (7, [.ref a0_0, .ref a0_1, .ref a0_2, .ref a0_3, .ref a0_4, .ref a0_5, .ref a0_6, .ref a0_7, .ref a0_8, .ref a0_9, .int a0_10])), (a0_3, .inr (1, [.ref a0_3_0, .ref a0_3_1, .ref a0_3_2, .int a0_3_3])), (a0_3_0, .inl (a0_3_0_c, 12, .inl a0_3_0_f)), (a0_3_1, .inl (a0_3_1_c, 12, .inl a0_3_1_f)), (a0_3_2, .inl (a0_3_2_c, 12, .inl a0_3_2_f)), (a0_8, .inr (2, [.ref a0_8_0, .ref a0_8_1, .ref a0_8_2, .ref a0_8_3, .ref a0_8_4, .ref a0_8_5])), (a0_8_0, .inl (a0_8_0_c, 24, .inl a0_8_0_f)), (a0_8_1, .inl (a0_8_1_c, 8, .inl a0_8_1_f)), (a0_8_2, .inl (a0_8_2_c, 12, .inl a0_8_2_f)), (a0_8_3, .inl (a0_8_3_c, 12, .inl a0_8_3_f)), (a0_8_4, .inl (a0_8_4_c, 12, .inr (.inr (.inr (.inr a0_8_4_f))))), (a0_8_5, .inl (a0_8_5_c, 12, .inr (.inr (.inr (.inr a0_8_5_f)))))] : va_W) ++ rows) sz) (([(a0, .inr (7, [.ref a0_0, .ref a0_1, .ref a0_2, .ref a0_3, .ref a0_4, .ref a0_5, .ref a0_6, .ref a0_7, .ref a0_8, .ref a0_9, .int za0_10])), (a0_3, .inr (1, [.ref a0_3_0, .ref a0_3_1, .ref a0_3_2, .int za0_3_3])), (a0_3_0, .inl (a0_3_0_c, 12, .inl a0_3_0_f)), (a0_3_1, .inl (a0_3_1_c, 12, .inl a0_3_1_f)), (a0_3_2, .inl (a0_3_2_c, 12, .inl a0_3_2_f)), (a0_8, .inr (2, [.ref a0_8_0, .ref a0_8_1, .ref a0_8_2, .ref a0_8_3, .ref a0_8_4, .ref a0_8_5])), (a0_8_0, .inl (a0_8_0_c, 24, .inl za0_8_0_f)), (a0_8_1, .inl (a0_8_1_c, 8, .inl za0_8_1_f)), (a0_8_2, .inl (a0_8_2_c, 12, .inl za0_8_2_f)), (a0_8_3, .inl (a0_8_3_c, 12, .inl za0_8_3_f)), (a0_8_4, .inl (a0_8_4_c, 12, .inr (.inr (.inr (.inr a0_8_4_f))))), (a0_8_5, .inl (a0_8_5_c, 12, .inr (.inr (.inr (.inr a0_8_5_f)))))] : va_W) ++ zrows)) (va_A (([(a0, .inr (7, [.ref a0_0, .ref a0_1, .ref a0_2, .ref a0_3, .ref a0_4, .ref a0_5, .ref a0_6, .ref a0_7, .ref a0_8, .ref a0_9, .int a0_10])), (a0_3, .inr (1, [.ref a0_3_0, .ref a0_3_1, .ref a0_3_2, .int a0_3_3])), (a0_3_0, .inl (a0_3_0_c, 12, .inl a0_3_0_f)), (a0_3_1, .inl (a0_3_1_c, 12, .inl a0_3_1_f)), (a0_3_2, .inl (a0_3_2_c, 12, .inl a0_3_2_f)), (a0_8, .inr (2, [.ref a0_8_0, .ref a0_8_1, .ref a0_8_2, .ref a0_8_3, .ref a0_8_4, .ref a0_8_5])), (a0_8_0, .inl (a0_8_0_c, 24, .inl a0_8_0_f)), (a0_8_1, .inl (a0_8_1_c, 8, .inl a0_8_1_f)), (a0_8_2, .inl (a0_8_2_c, 12, .inl a0_8_2_f)), (a0_8_3, .inl (a0_8_3_c, 12, .inl a0_8_3_f)), (a0_8_4, .inl (a0_8_4_c, 12, .inr (.inr (.inr (.inr a0_8_4_f))))), (a0_8_5, .inl (a0_8_5_c, 12, .inr (.inr (.inr (.inr a0_8_5_f)))))] : va_W) ++ rows) sz)) 0 0 (va_A (([(a0, .inr (7, [.ref a0_0, .ref a0_1, .ref a0_2, .ref a0_3, .ref a0_4, .ref a0_5, .ref a0_6, .ref a0_7, .ref a0_8, .ref a0_9, .int a0_10])), (a0_3, .inr (1, [.ref a0_3_0, .ref a0_3_1, .ref a0_3_2, .int a0_3_3])), (a0_3_0, .inl (a0_3_0_c, 12, .inl a0_3_0_f)), (a0_3_1, .inl (a0_3_1_c, 12, .inl a0_3_1_f)), (a0_3_2, .inl (a0_3_2_c, 12, .inl a0_3_2_f)), (a0_8, .inr (2, [.ref a0_8_0, .ref a0_8_1, .ref a0_8_2, .ref a0_8_3, .ref a0_8_4, .ref a0_8_5])), (a0_8_0, .inl (a0_8_0_c, 24, .inl a0_8_0_f)), (a0_8_1, .inl (a0_8_1_c, 8, .inl a0_8_1_f)), (a0_8_2, .inl (a0_8_2_c, 12, .inl a0_8_2_f)), (a0_8_3, .inl (a0_8_3_c, 12, .inl a0_8_3_f)), (a0_8_4, .inl (a0_8_4_c, 12, .inr (.inr (.inr (.inr a0_8_4_f))))), (a0_8_5, .inl (a0_8_5_c, 12, .inr (.inr (.inr (.inr a0_8_5_f)))))] : va_W) ++ rows) sz) := by
  refine Met.ofW (cc := cX8_undo) (maxL := 1) (ret := (some .int)) (by decide) rfl ?_
  intro p e s m args below meth c s₁ B hml hv
  obtain ⟨rfl, hsz, hP, hK, hD0, hE⟩ := hv
  have hx := B.exec
  have hb := B.bytes
  have hr := B.returns
  have hts0 := atoms_spec (ws := (.code yX8_undo cX8_undo 1 (some .int) :: TBL)) B.pre
  have hts := fun (w : Cond) (h : w ∈ TBL) => hts0 w (List.mem_cons_of_mem _ h)
  have hown : s.vm.findClass RX8 = some m.cls := findClass_of_methodNamed B.named
  have hlocks := B.notSynchronized
  have hN := hE.1
  subst hsz
  have hD := hD0.self (sz := s.heap.size)
  generalize hAe : va_A (([(a0, .inr (7, [.ref a0_0, .ref a0_1, .ref a0_2, .ref a0_3, .ref a0_4, .ref a0_5, .ref a0_6, .ref a0_7, .ref a0_8, .ref a0_9, .int a0_10])), (a0_3, .inr (1, [.ref a0_3_0, .ref a0_3_1, .ref a0_3_2, .int a0_3_3])), (a0_3_0, .inl (a0_3_0_c, 12, .inl a0_3_0_f)), (a0_3_1, .inl (a0_3_1_c, 12, .inl a0_3_1_f)), (a0_3_2, .inl (a0_3_2_c, 12, .inl a0_3_2_f)), (a0_8, .inr (2, [.ref a0_8_0, .ref a0_8_1, .ref a0_8_2, .ref a0_8_3, .ref a0_8_4, .ref a0_8_5])), (a0_8_0, .inl (a0_8_0_c, 24, .inl a0_8_0_f)), (a0_8_1, .inl (a0_8_1_c, 8, .inl a0_8_1_f)), (a0_8_2, .inl (a0_8_2_c, 12, .inl a0_8_2_f)), (a0_8_3, .inl (a0_8_3_c, 12, .inl a0_8_3_f)), (a0_8_4, .inl (a0_8_4_c, 12, .inr (.inr (.inr (.inr a0_8_4_f))))), (a0_8_5, .inl (a0_8_5_c, 12, .inr (.inr (.inr (.inr a0_8_5_f)))))] : va_W) ++ rows) s.heap.size = A at hD hE ⊢
  have hA : ∀ q : Nat, s.heap.size ≤ q → A q := fun q h => by rw [← hAe]; exact Or.inr h
  have hS : va_S A s.heap s.heap [] := va_S.rf
  replace hP : va_P (dC, dI) vwCl (([(a0, .inr (7, [.ref a0_0, .ref a0_1, .ref a0_2, .ref a0_3, .ref a0_4, .ref a0_5, .ref a0_6, .ref a0_7, .ref a0_8, .ref a0_9, .int a0_10])), (a0_3, .inr (1, [.ref a0_3_0, .ref a0_3_1, .ref a0_3_2, .int a0_3_3])), (a0_3_0, .inl (a0_3_0_c, 12, .inl a0_3_0_f)), (a0_3_1, .inl (a0_3_1_c, 12, .inl a0_3_1_f)), (a0_3_2, .inl (a0_3_2_c, 12, .inl a0_3_2_f)), (a0_8, .inr (2, [.ref a0_8_0, .ref a0_8_1, .ref a0_8_2, .ref a0_8_3, .ref a0_8_4, .ref a0_8_5])), (a0_8_0, .inl (a0_8_0_c, 24, .inl a0_8_0_f)), (a0_8_1, .inl (a0_8_1_c, 8, .inl a0_8_1_f)), (a0_8_2, .inl (a0_8_2_c, 12, .inl a0_8_2_f)), (a0_8_3, .inl (a0_8_3_c, 12, .inl a0_8_3_f)), (a0_8_4, .inl (a0_8_4_c, 12, .inr (.inr (.inr (.inr a0_8_4_f))))), (a0_8_5, .inl (a0_8_5_c, 12, .inr (.inr (.inr (.inr a0_8_5_f)))))] : va_W) ++ rows) s.heap := hP
  have hl := lv_entry ([.ref a0]) (n := 1) (Nat.le_of_ble_eq_true rfl)
  rw [lg_entry_eq]
  generalize (lg_sl ([.ref a0]) ++ List.replicate (1 - (lg_sl ([.ref a0])).length) Slot.unset).toArray = ls at hl ⊢
  have hl : lv_has ls 1 [(0, .ref a0)] := hl
  have hK := cyK hK (hts (.arrayClass .int) qw_54) hE.2.2.2.2.2.2.2.2.2.2.2.2.1
  replace hK : va_K (dC, dI) vwCl [(a0_3_0_c, .int), (a0_3_1_c, .int), (a0_3_2_c, .int), (a0_8_0_c, .int), (a0_8_1_c, .int), (a0_8_2_c, .int), (a0_8_3_c, .int), (a0_8_4_c, .array .int), (a0_8_5_c, .array .int), (g.2.2.2.2.1, .int)] s := hK
  have b_a0_10 := i32b a0_10
  have hRS : RS g.2.2.2.2.1 rows rows := RS.rf
  refine lv_aload_n hx hb dX8_undo_0 rfl (lv_at hl 0 rfl) ?_
  refine va_get (D := (dC, dI)) (ci := 7) (v := .ref a0_3) (C := RX8) (T := TX8) (N := 11) hx hb hts inlX8 hown hK hP 0 rgL12_9b732f2 rfl 3 (by decide) (hts (.fieldLink RX8 33 "ClosedUntil" "journal" "LClosedUntil$Journal;") qw_276) (fun _ h9 => h9) rfl dX8_undo_1 ?_
  refine va_getN (D := (dC, dI)) (ci := 1) (v := .int a0_3_3) (C := RX2) (T := TX2) (N := 4) hx hb hts inlX2 hown hK hP 1 rgL12_cbfd1cd rfl 3 (by decide) (va_Nw.use rfl (nf_10 hN)) (fun _ h9 => h9) rfl dX8_undo_4 ?_
  refine lv_if_ne (tgt := 12) hx hb dX8_undo_7 (by decide) (fun c7_1 => ?_) (fun c7_1 => ?_)
  · have c7_1 : ¬ (a0_3_3.toInt = 0) := mt (cv_eq rfl (by decide)).mpr c7_1
    refine lv_aload_n hx hb dX8_undo_12 rfl (lv_at hl 0 rfl) ?_
    refine va_get (D := (dC, dI)) (ci := 7) (v := .ref a0_3) (C := RX8) (T := TX8) (N := 11) hx hb hts inlX8 hown hK hP 0 rgL12_9b732f2 rfl 3 (by decide) (hts (.fieldLink RX8 33 "ClosedUntil" "journal" "LClosedUntil$Journal;") qw_276) (fun _ h9 => h9) rfl dX8_undo_13 ?_
    refine lv_aload_n hx hb dX8_undo_16 rfl (lv_at hl 0 rfl) ?_
    refine va_get (D := (dC, dI)) (ci := 7) (v := .ref a0_8) (C := RX8) (T := TX8) (N := 11) hx hb hts inlX8 hown hK hP 0 rgL12_9b732f2 rfl 8 (by decide) (hts (.fieldLink RX8 58 "ClosedUntil" "now" "LClosedUntil$State;") qw_266) (fun _ h9 => h9) rfl dX8_undo_17 ?_
    have hPc := (rgP12_66f778f hP)
    have hKc := (rgK10_cb8ec33 hK)
    have hDc := (rgD12_2c98cea hD)
    have hFc := freeW hDc hS hA
    refine va_callv (va_runVN (As := [.ref a0_8]) (rest := []) ⟨hx, hb, hml, hown, hts⟩ (k_X2_takeBackLatest l dC dI g s.heap.size (a0_3) (a0_8) (a0_3_0) (a0_3_1) (a0_3_2) (a0_3_3) (a0_3_0_c) (a0_3_0_f) (a0_3_1_c) (a0_3_1_f) (a0_3_2_c) (a0_3_2_f) (a0_8_0) (a0_8_1) (a0_8_2) (a0_8_3) (a0_8_4) (a0_8_5) (a0_8_0_c) (a0_8_0_f) (a0_8_1_c) (a0_8_1_f) (a0_8_2_c) (a0_8_2_f) (a0_8_3_c) (a0_8_3_f) (a0_8_4_c) (a0_8_4_f) (a0_8_5_c) (a0_8_5_f) (rows) (by omega) h_a0_8_3_f (RS.gr hRS h_a0_8_4_f) (RS.gr hRS h_a0_8_5_f) (by assumption) (by assumption)) ⟨va_cnB 1 hts (gwC qw_291) rfl rfl rfl (nm_45 hN) (hts (.initialized RX2) qw_42) (by decide +kernel) ⟨Nat.le_of_ble_eq_true rfl, Nat.le_of_ble_eq_true rfl⟩, (hts (.instanceMethod yX2_takeBackLatest) qw_292), (hts (.selects RX2 yX2_takeBackLatest yX2_takeBackLatest) qw_293)⟩ ⟨fun a U g9 mk q => ⟨q.1, q.2.1, q.2.2.1, va_K.moved (u := U) (U := U.calling g9 mk a) (Vm.Alike.refl U.vm) q.2.2.2.1, q.2.2.2.2.1, Ev.bl q.2.2.2.2.2⟩, va_recv hK hP (ci := 1) (q0 := 1) rfl rgL12_cbfd1cd, fun U hU hW => ⟨rfl, by rw [hU], atB hU hPc, va_K.moved hW.alike hKc, hDc.weaken (fun _ _ _ _ => trivial), hE.go hS hFc hU hW⟩⟩ rfl rfl hl.1 rfl (lv_room (Nat.le_of_ble_eq_true rfl)) dX8_undo_20 ⟨Nat.le_of_ble_eq_true rfl, Nat.le_of_ble_eq_true rfl⟩) hS (fun q _ h => hFc q h) hFc (fun u2 t H1 locs ht hvm h_u2 hB hz1 hk1 hS => ?_)
    obtain ⟨za0_3_4, za1_0_f_5, za1_1_f_6, za1_2_f_7, za1_3_f_8, zrows_9, hF10, hF11, hF12, hF13, hF14, hP1, hK1, hD1⟩ := hB
    have hK1 := va_K.moved hvm.symm hK1
    have hJ9 := rgJ12_91f7dab hP hD hk1 hFc (atH ht hP1) hD1
    clear hP hD hPc hKc hDc hFc hP1 hD1 hk1 hz1
    obtain ⟨hP, hD⟩ := hJ9
    clear hK1
    generalize H1 = H at hP hS ⊢
    refine W.widen (k := 0) (n := 0) (Nat.le_of_ble_eq_true rfl) (Nat.le_of_ble_eq_true rfl) ?_
    have hRS := RS.tr hRS hF12
    refine lv_aload_n hx hb dX8_undo_23 rfl (lv_at hl 0 rfl) ?_
    refine lv_iconst (v := 1) hx hb dX8_undo_24 (by decide) ?_
    refine va_put (D := (dC, dI)) (ci := 7) (v := .int 1) (ty := .boolean) (C := RX8) (T := TX8) (N := 11) hx hb hts inlX8 tyX8 tyX8_ok nmX8 hown hK hP hD hS 0 rgL12_9b732f2 rfl 10 (by decide) (hts (.fieldLink RX8 65 "ClosedUntil" "stale" "Z") qw_280) (fun _ h9 => h9) rfl (by decide +kernel) rfl rfl (Nat.le_of_ble_eq_true rfl) dX8_undo_25 (fun H locs hP9 hD9 hS9 => ?_)
    clear hP hD hS
    obtain ⟨hP, hD⟩ := rgS12_a4675f8 (e := (a0, .inr (7, [.ref a0_0, .ref a0_1, .ref a0_2, .ref a0_3, .ref a0_4, .ref a0_5, .ref a0_6, .ref a0_7, .ref a0_8, .ref a0_9, .int 1]))) hP9 hD9 rfl
    have hS := hS9; clear hP9 hD9 hS9
    refine lv_aload_n hx hb dX8_undo_28 rfl (lv_at hl 0 rfl) ?_
    refine va_get (D := (dC, dI)) (ci := 7) (v := .ref a0_3) (C := RX8) (T := TX8) (N := 11) hx hb hts inlX8 hown hK hP 0 rgL12_9b732f2 rfl 3 (by decide) (hts (.fieldLink RX8 33 "ClosedUntil" "journal" "LClosedUntil$Journal;") qw_276) (fun _ h9 => h9) rfl dX8_undo_29 ?_
    refine va_getN (D := (dC, dI)) (ci := 1) (v := .int za0_3_4) (C := RX2) (T := TX2) (N := 4) hx hb hts inlX2 hown hK hP 1 rgL12_cbfd1cd rfl 3 (by decide) (va_Nw.use rfl (nf_10 hN)) (fun _ h9 => h9) rfl dX8_undo_32 ?_
    have qc1 : (1 : Int32).toInt = 1 := by decide
    refine W.widen (k := 0) (n := 0) (Nat.le_of_ble_eq_true rfl) (Nat.le_of_ble_eq_true rfl) ?_
    have hP9 := hP
    have hD9 := hD
    have hK9 := (rgK10_59b8e2b hK)
    have hf9_0 : (0 ≤ za0_3_4.toInt ∧ za0_3_4.toInt ≤ 12) := by omega
    have hf9_1 : vr 0 5 za1_3_f_8 := hF11
    have hf9_2 : RS g.2.2.2.2.1 rows zrows_9 := hRS
    have hf9_3 : (JA a0_3_0_f a0_3_1_f a0_3_2_f za0_3_4) := by assumption
    have hf9_4 : (JC a0_3_0_f a0_3_1_f za0_3_4 za1_3_f_8) := by assumption
    exact W.iret (v := za0_3_4) hx hb hr (fun t ht hW => ⟨⟨za0_3_4, za0_3_4, rfl, rfl, 1, za0_3_4, za1_0_f_5, za1_1_f_6, za1_2_f_7, za1_3_f_8, zrows_9, hf9_0, hf9_1, hf9_2, hf9_3, hf9_4, atB ht hP9, va_K.moved hW.alike hK9, hD9⟩, hS.F ht⟩) hS.2.2 dX8_undo_35
  · have c7_1 : a0_3_3.toInt = 0 := (cv_eq rfl (by decide)).mp c7_1
    refine lv_iconst (v := (-1)) hx hb dX8_undo_10 (by decide) ?_
    have qcm1 : ((-1) : Int32).toInt = (-1) := by decide
    refine W.widen (k := 0) (n := 0) (Nat.le_of_ble_eq_true rfl) (Nat.le_of_ble_eq_true rfl) ?_
    have hP9 := hP
    have hD9 := hD
    have hK9 := (rgK10_59b8e2b hK)
    have hf9_0 : (0 ≤ a0_3_3.toInt ∧ a0_3_3.toInt ≤ 12) := by omega
    have hf9_1 : vr 0 5 a0_8_3_f := h_a0_8_3_f
    have hf9_2 : RS g.2.2.2.2.1 rows rows := hRS
    have hf9_3 : (JA a0_3_0_f a0_3_1_f a0_3_2_f a0_3_3) := by assumption
    have hf9_4 : (JC a0_3_0_f a0_3_1_f a0_3_3 a0_8_3_f) := by assumption
    exact W.iret (v := (-1)) hx hb hr (fun t ht hW => ⟨⟨(-1), (-1), rfl, rfl, a0_10, a0_3_3, a0_8_0_f, a0_8_1_f, a0_8_2_f, a0_8_3_f, rows, hf9_0, hf9_1, hf9_2, hf9_3, hf9_4, atB ht hP9, va_K.moved hW.alike hK9, hD9⟩, hS.F ht⟩) hS.2.2 dX8_undo_11
