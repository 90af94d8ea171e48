theorem dX8_open_0 : decode cX8_open 0 = .ok (.iload_n 1, 1) := by decide +kernel
theorem dX8_open_1 : decode cX8_open 1 = .ok (.invokestatic 118, 3) := by decide +kernel
theorem dX8_open_4 : decode cX8_open 4 = .ok (.ifCond .eq 10, 3) := by decide +kernel
theorem dX8_open_7 : decode cX8_open 7 = .ok (.iload_n 2, 1) := by decide +kernel
theorem dX8_open_8 : decode cX8_open 8 = .ok (.invokestatic 194, 3) := by decide +kernel
theorem dX8_open_11 : decode cX8_open 11 = .ok (.ifCond .ne 5, 3) := by decide +kernel
theorem dX8_open_14 : decode cX8_open 14 = .ok (.iconst (-1), 1) := by decide +kernel
theorem dX8_open_15 : decode cX8_open 15 = .ok (.ireturn, 1) := by decide +kernel
theorem dX8_open_16 : decode cX8_open 16 = .ok (.aload_n 0, 1) := by decide +kernel
theorem dX8_open_17 : decode cX8_open 17 = .ok (.invokevirtual 141, 3) := by decide +kernel
theorem dX8_open_20 : decode cX8_open 20 = .ok (.iload_n 1, 1) := by decide +kernel
theorem dX8_open_21 : decode cX8_open 21 = .ok (.aload_n 0, 1) := by decide +kernel
theorem dX8_open_22 : decode cX8_open 22 = .ok (.getfield 51, 3) := by decide +kernel
theorem dX8_open_25 : decode cX8_open 25 = .ok (.iload_n 2, 1) := by decide +kernel
theorem dX8_open_26 : decode cX8_open 26 = .ok (.invokevirtual 197, 3) := by decide +kernel
theorem dX8_open_29 : decode cX8_open 29 = .ok (.invokevirtual 228, 3) := by decide +kernel
theorem dX8_open_32 : decode cX8_open 32 = .ok (.ireturn, 1) := by decide +kernel
theorem dX8_next_0 : decode cX8_next 0 = .ok (.iload_n 1, 1) := by decide +kernel
theorem dX8_next_1 : decode cX8_next 1 = .ok (.iconst (-1), 1) := by decide +kernel
theorem dX8_next_2 : decode cX8_next 2 = .ok (.if_icmp .eq 10, 3) := by decide +kernel
theorem dX8_next_5 : decode cX8_next 5 = .ok (.iload_n 1, 1) := by decide +kernel
theorem dX8_next_6 : decode cX8_next 6 = .ok (.invokestatic 118, 3) := by decide +kernel
theorem dX8_next_9 : decode cX8_next 9 = .ok (.ifCond .eq 7, 3) := by decide +kernel
theorem dX8_next_12 : decode cX8_next 12 = .ok (.iconst 1, 1) := by decide +kernel
theorem dX8_next_13 : decode cX8_next 13 = .ok (.goto 4, 3) := by decide +kernel
theorem dX8_next_16 : decode cX8_next 16 = .ok (.iconst 0, 1) := by decide +kernel
theorem dX8_next_17 : decode cX8_next 17 = .ok (.istore_n 3, 1) := by decide +kernel
theorem dX8_next_18 : decode cX8_next 18 = .ok (.iload_n 3, 1) := by decide +kernel
theorem dX8_next_19 : decode cX8_next 19 = .ok (.ifCond .eq 10, 3) := by decide +kernel
theorem dX8_next_22 : decode cX8_next 22 = .ok (.iload_n 2, 1) := by decide +kernel
theorem dX8_next_23 : decode cX8_next 23 = .ok (.invokestatic 194, 3) := by decide +kernel
theorem dX8_next_26 : decode cX8_next 26 = .ok (.ifCond .ne 5, 3) := by decide +kernel
theorem dX8_next_29 : decode cX8_next 29 = .ok (.iconst (-1), 1) := by decide +kernel
theorem dX8_next_30 : decode cX8_next 30 = .ok (.ireturn, 1) := by decide +kernel
theorem dX8_next_31 : decode cX8_next 31 = .ok (.aload_n 0, 1) := by decide +kernel
theorem dX8_next_32 : decode cX8_next 32 = .ok (.invokevirtual 141, 3) := by decide +kernel
theorem dX8_next_35 : decode cX8_next 35 = .ok (.astore 4, 2) := by decide +kernel
theorem dX8_next_37 : decode cX8_next 37 = .ok (.aload_n 0, 1) := by decide +kernel
theorem dX8_next_38 : decode cX8_next 38 = .ok (.getfield 51, 3) := by decide +kernel
theorem dX8_next_41 : decode cX8_next 41 = .ok (.iload_n 2, 1) := by decide +kernel
theorem dX8_next_42 : decode cX8_next 42 = .ok (.invokevirtual 197, 3) := by decide +kernel
theorem dX8_next_45 : decode cX8_next 45 = .ok (.istore 5, 2) := by decide +kernel
theorem dX8_next_47 : decode cX8_next 47 = .ok (.iconst (-1), 1) := by decide +kernel
theorem dX8_next_48 : decode cX8_next 48 = .ok (.istore 6, 2) := by decide +kernel
theorem dX8_next_50 : decode cX8_next 50 = .ok (.iconst 0, 1) := by decide +kernel
theorem dX8_next_51 : decode cX8_next 51 = .ok (.istore 7, 2) := by decide +kernel
theorem dX8_next_53 : decode cX8_next 53 = .ok (.iload 7, 2) := by decide +kernel
theorem dX8_next_55 : decode cX8_next 55 = .ok (.aload_n 0, 1) := by decide +kernel
theorem dX8_next_56 : decode cX8_next 56 = .ok (.getfield 51, 3) := by decide +kernel
theorem dX8_next_59 : decode cX8_next 59 = .ok (.getfield 203, 3) := by decide +kernel
theorem dX8_next_62 : decode cX8_next 62 = .ok (.if_icmp .ge 43, 3) := by decide +kernel
theorem dX8_next_65 : decode cX8_next 65 = .ok (.aload 4, 2) := by decide +kernel
theorem dX8_next_67 : decode cX8_next 67 = .ok (.iload 7, 2) := by decide +kernel
theorem dX8_next_69 : decode cX8_next 69 = .ok (.iload 5, 2) := by decide +kernel
theorem dX8_next_71 : decode cX8_next 71 = .ok (.invokevirtual 200, 3) := by decide +kernel
theorem dX8_next_74 : decode cX8_next 74 = .ok (.istore 8, 2) := by decide +kernel
theorem dX8_next_76 : decode cX8_next 76 = .ok (.iload 8, 2) := by decide +kernel
theorem dX8_next_78 : decode cX8_next 78 = .ok (.iload_n 1, 1) := by decide +kernel
theorem dX8_next_79 : decode cX8_next 79 = .ok (.if_icmp .le 20, 3) := by decide +kernel
theorem dX8_next_82 : decode cX8_next 82 = .ok (.iload 6, 2) := by decide +kernel
theorem dX8_next_84 : decode cX8_next 84 = .ok (.iconst (-1), 1) := by decide +kernel
theorem dX8_next_85 : decode cX8_next 85 = .ok (.if_icmp .eq 10, 3) := by decide +kernel
theorem dX8_next_88 : decode cX8_next 88 = .ok (.iload 8, 2) := by decide +kernel
theorem dX8_next_90 : decode cX8_next 90 = .ok (.iload 6, 2) := by decide +kernel
theorem dX8_next_92 : decode cX8_next 92 = .ok (.if_icmp .ge 7, 3) := by decide +kernel
theorem dX8_next_95 : decode cX8_next 95 = .ok (.iload 8, 2) := by decide +kernel
theorem dX8_next_97 : decode cX8_next 97 = .ok (.istore 6, 2) := by decide +kernel
theorem dX8_next_99 : decode cX8_next 99 = .ok (.iinc 7 1, 3) := by decide +kernel
theorem dX8_next_102 : decode cX8_next 102 = .ok (.goto (-49), 3) := by decide +kernel
theorem dX8_next_105 : decode cX8_next 105 = .ok (.iload 6, 2) := by decide +kernel
theorem dX8_next_107 : decode cX8_next 107 = .ok (.ireturn, 1) := by decide +kernel
theorem dX8_best_0 : decode cX8_best 0 = .ok (.iload_n 1, 1) := by decide +kernel
theorem dX8_best_1 : decode cX8_best 1 = .ok (.invokestatic 118, 3) := by decide +kernel
theorem dX8_best_4 : decode cX8_best 4 = .ok (.ifCond .eq 19, 3) := by decide +kernel
theorem dX8_best_7 : decode cX8_best 7 = .ok (.iload_n 2, 1) := by decide +kernel
theorem dX8_best_8 : decode cX8_best 8 = .ok (.invokestatic 194, 3) := by decide +kernel
theorem dX8_best_11 : decode cX8_best 11 = .ok (.ifCond .eq 12, 3) := by decide +kernel
theorem dX8_best_14 : decode cX8_best 14 = .ok (.iload_n 3, 1) := by decide +kernel
theorem dX8_best_15 : decode cX8_best 15 = .ok (.ifCond .lt 8, 3) := by decide +kernel
theorem dX8_best_18 : decode cX8_best 18 = .ok (.iload_n 3, 1) := by decide +kernel
theorem dX8_best_19 : decode cX8_best 19 = .ok (.iconst 3, 1) := by decide +kernel
theorem dX8_best_20 : decode cX8_best 20 = .ok (.if_icmp .le 5, 3) := by decide +kernel
theorem dX8_best_23 : decode cX8_best 23 = .ok (.iconst (-1), 1) := by decide +kernel
theorem dX8_best_24 : decode cX8_best 24 = .ok (.ireturn, 1) := by decide +kernel
theorem dX8_best_25 : decode cX8_best 25 = .ok (.aload_n 0, 1) := by decide +kernel
theorem dX8_best_26 : decode cX8_best 26 = .ok (.invokevirtual 141, 3) := by decide +kernel
theorem dX8_best_29 : decode cX8_best 29 = .ok (.iload_n 1, 1) := by decide +kernel
theorem dX8_best_30 : decode cX8_best 30 = .ok (.aload_n 0, 1) := by decide +kernel
theorem dX8_best_31 : decode cX8_best 31 = .ok (.getfield 51, 3) := by decide +kernel
theorem dX8_best_34 : decode cX8_best 34 = .ok (.iload_n 2, 1) := by decide +kernel
theorem dX8_best_35 : decode cX8_best 35 = .ok (.invokevirtual 197, 3) := by decide +kernel
theorem dX8_best_38 : decode cX8_best 38 = .ok (.iload_n 3, 1) := by decide +kernel
theorem dX8_best_39 : decode cX8_best 39 = .ok (.invokevirtual 234, 3) := by decide +kernel
theorem dX8_best_42 : decode cX8_best 42 = .ok (.ireturn, 1) := by decide +kernel
theorem dX8_openWithout_0 : decode cX8_openWithout 0 = .ok (.iload_n 3, 1) := by decide +kernel
theorem dX8_openWithout_1 : decode cX8_openWithout 1 = .ok (.ifCond .lt 20, 3) := by decide +kernel
theorem dX8_openWithout_4 : decode cX8_openWithout 4 = .ok (.iload_n 3, 1) := by decide +kernel
theorem dX8_openWithout_5 : decode cX8_openWithout 5 = .ok (.iconst 1, 1) := by decide +kernel
theorem dX8_openWithout_6 : decode cX8_openWithout 6 = .ok (.aload_n 0, 1) := by decide +kernel
theorem dX8_openWithout_7 : decode cX8_openWithout 7 = .ok (.getfield 51, 3) := by decide +kernel
theorem dX8_openWithout_10 : decode cX8_openWithout 10 = .ok (.getfield 215, 3) := by decide +kernel
theorem dX8_openWithout_13 : decode cX8_openWithout 13 = .ok (.ishl, 1) := by decide +kernel
theorem dX8_openWithout_14 : decode cX8_openWithout 14 = .ok (.if_icmp .ge 7, 3) := by decide +kernel
theorem dX8_openWithout_17 : decode cX8_openWithout 17 = .ok (.iconst 1, 1) := by decide +kernel
theorem dX8_openWithout_18 : decode cX8_openWithout 18 = .ok (.goto 4, 3) := by decide +kernel
theorem dX8_openWithout_21 : decode cX8_openWithout 21 = .ok (.iconst 0, 1) := by decide +kernel
theorem dX8_openWithout_22 : decode cX8_openWithout 22 = .ok (.istore 4, 2) := by decide +kernel
theorem dX8_openWithout_24 : decode cX8_openWithout 24 = .ok (.iload 4, 2) := by decide +kernel
theorem dX8_openWithout_26 : decode cX8_openWithout 26 = .ok (.ifCond .eq 17, 3) := by decide +kernel
theorem dX8_openWithout_29 : decode cX8_openWithout 29 = .ok (.iload_n 1, 1) := by decide +kernel
theorem dX8_openWithout_30 : decode cX8_openWithout 30 = .ok (.invokestatic 118, 3) := by decide +kernel
theorem dX8_openWithout_33 : decode cX8_openWithout 33 = .ok (.ifCond .eq 10, 3) := by decide +kernel
theorem dX8_openWithout_36 : decode cX8_openWithout 36 = .ok (.iload_n 2, 1) := by decide +kernel
theorem dX8_openWithout_37 : decode cX8_openWithout 37 = .ok (.invokestatic 194, 3) := by decide +kernel
theorem dX8_openWithout_40 : decode cX8_openWithout 40 = .ok (.ifCond .ne 5, 3) := by decide +kernel
theorem dX8_openWithout_43 : decode cX8_openWithout 43 = .ok (.iconst (-1), 1) := by decide +kernel
theorem dX8_openWithout_44 : decode cX8_openWithout 44 = .ok (.ireturn, 1) := by decide +kernel
theorem dX8_openWithout_45 : decode cX8_openWithout 45 = .ok (.aload_n 0, 1) := by decide +kernel
theorem dX8_openWithout_46 : decode cX8_openWithout 46 = .ok (.invokevirtual 141, 3) := by decide +kernel
theorem dX8_openWithout_49 : decode cX8_openWithout 49 = .ok (.iload_n 1, 1) := by decide +kernel
theorem dX8_openWithout_50 : decode cX8_openWithout 50 = .ok (.aload_n 0, 1) := by decide +kernel
theorem dX8_openWithout_51 : decode cX8_openWithout 51 = .ok (.getfield 51, 3) := by decide +kernel
theorem dX8_openWithout_54 : decode cX8_openWithout 54 = .ok (.iload_n 2, 1) := by decide +kernel
theorem dX8_openWithout_55 : decode cX8_openWithout 55 = .ok (.invokevirtual 197, 3) := by decide +kernel
theorem dX8_openWithout_58 : decode cX8_openWithout 58 = .ok (.iload_n 3, 1) := by decide +kernel
theorem dX8_openWithout_59 : decode cX8_openWithout 59 = .ok (.iconst (-1), 1) := by decide +kernel
theorem dX8_openWithout_60 : decode cX8_openWithout 60 = .ok (.ixor, 1) := by decide +kernel
theorem dX8_openWithout_61 : decode cX8_openWithout 61 = .ok (.iand, 1) := by decide +kernel
theorem dX8_openWithout_62 : decode cX8_openWithout 62 = .ok (.invokevirtual 228, 3) := by decide +kernel
theorem dX8_openWithout_65 : decode cX8_openWithout 65 = .ok (.invokestatic 237, 3) := by decide +kernel
theorem dX8_openWithout_68 : decode cX8_openWithout 68 = .ok (.ireturn, 1) := by decide +kernel
theorem dX8_upToDate_0 : decode cX8_upToDate 0 = .ok (.aload_n 0, 1) := by decide +kernel
theorem dX8_upToDate_1 : decode cX8_upToDate 1 = .ok (.getfield 65, 3) := by decide +kernel
theorem dX8_upToDate_4 : decode cX8_upToDate 4 = .ok (.ifCond .eq 23, 3) := by decide +kernel
theorem dX8_upToDate_7 : decode cX8_upToDate 7 = .ok (.aload_n 0, 1) := by decide +kernel
theorem dX8_upToDate_8 : decode cX8_upToDate 8 = .ok (.getfield 26, 3) := by decide +kernel
theorem dX8_upToDate_11 : decode cX8_upToDate 11 = .ok (.aload_n 0, 1) := by decide +kernel
theorem dX8_upToDate_12 : decode cX8_upToDate 12 = .ok (.getfield 51, 3) := by decide +kernel
theorem dX8_upToDate_15 : decode cX8_upToDate 15 = .ok (.aload_n 0, 1) := by decide +kernel
theorem dX8_upToDate_16 : decode cX8_upToDate 16 = .ok (.getfield 58, 3) := by decide +kernel
theorem dX8_upToDate_19 : decode cX8_upToDate 19 = .ok (.invokevirtual 275, 3) := by decide +kernel
theorem dX8_upToDate_22 : decode cX8_upToDate 22 = .ok (.aload_n 0, 1) := by decide +kernel
theorem dX8_upToDate_23 : decode cX8_upToDate 23 = .ok (.iconst 0, 1) := by decide +kernel
theorem dX8_upToDate_24 : decode cX8_upToDate 24 = .ok (.putfield 65, 3) := by decide +kernel
theorem dX8_upToDate_27 : decode cX8_upToDate 27 = .ok (.aload_n 0, 1) := by decide +kernel
theorem dX8_upToDate_28 : decode cX8_upToDate 28 = .ok (.getfield 26, 3) := by decide +kernel
theorem dX8_upToDate_31 : decode cX8_upToDate 31 = .ok (.areturn, 1) := by decide +kernel
theorem qw_266 : (Cond.code yX6_fill cX6_fill 5 none : Cond) ∈ TBL := List.mem_of_getElem? (i := 559) (by decide +kernel)
theorem qw_267 : (Cond.instanceMethod yX6_fill : Cond) ∈ TBL := List.mem_of_getElem? (i := 557) (by decide +kernel)
theorem qw_268 : (Cond.selects RX6 yX6_fill yX6_fill : Cond) ∈ TBL := List.mem_of_getElem? (i := 558) (by decide +kernel)
theorem qw_269 : (Cond.code yX8_areReaders cX8_areReaders 1 (some .boolean) : Cond) ∈ TBL := List.mem_of_getElem? (i := 704) (by decide +kernel)
theorem qw_270 : (Cond.methodLink RX8 194 yX8_areReaders : Cond) ∈ TBL := List.mem_of_getElem? (i := 702) (by decide +kernel)
theorem qw_271 : (Cond.static yX8_areReaders : Cond) ∈ TBL := List.mem_of_getElem? (i := 703) (by decide +kernel)
theorem qw_272 : (Cond.code yX8_upToDate cX8_upToDate 1 (some (.object "ClosedUntil$Timetable")) : Cond) ∈ TBL := List.mem_of_getElem? (i := 556) (by decide +kernel)
theorem qw_273 : (Cond.methodLink RX8 141 yX8_upToDate : Cond) ∈ TBL := List.mem_of_getElem? (i := 553) (by decide +kernel)
theorem qw_274 : (Cond.instanceMethod yX8_upToDate : Cond) ∈ TBL := List.mem_of_getElem? (i := 554) (by decide +kernel)
theorem qw_275 : (Cond.selects RX8 yX8_upToDate yX8_upToDate : Cond) ∈ TBL := List.mem_of_getElem? (i := 555) (by decide +kernel)
theorem qw_276 : (Cond.code yX1_holdingFor cX1_holdingFor 4 (some .int) : Cond) ∈ TBL := List.mem_of_getElem? (i := 707) (by decide +kernel)
theorem qw_277 : (Cond.instanceMethod yX1_holdingFor : Cond) ∈ TBL := List.mem_of_getElem? (i := 705) (by decide +kernel)
theorem qw_278 : (Cond.selects RX1 yX1_holdingFor yX1_holdingFor : Cond) ∈ TBL := List.mem_of_getElem? (i := 706) (by decide +kernel)
theorem qw_279 : (Cond.code yX6_openOn cX6_openOn 5 (some .int) : Cond) ∈ TBL := List.mem_of_getElem? (i := 785) (by decide +kernel)
theorem qw_280 : (Cond.instanceMethod yX6_openOn : Cond) ∈ TBL := List.mem_of_getElem? (i := 783) (by decide +kernel)
theorem qw_281 : (Cond.selects RX6 yX6_openOn yX6_openOn : Cond) ∈ TBL := List.mem_of_getElem? (i := 784) (by decide +kernel)
theorem qw_282 : (Cond.code yX6_bestToLift cX6_bestToLift 10 (some .int) : Cond) ∈ TBL := List.mem_of_getElem? (i := 841) (by decide +kernel)
theorem qw_283 : (Cond.instanceMethod yX6_bestToLift : Cond) ∈ TBL := List.mem_of_getElem? (i := 839) (by decide +kernel)
theorem qw_284 : (Cond.selects RX6 yX6_bestToLift yX6_bestToLift : Cond) ∈ TBL := List.mem_of_getElem? (i := 840) (by decide +kernel)
theorem qw_285 : (Cond.code yJ6_bitCount_0f7a4 cJ6_bitCount_0f7a4 1 (some .int) : Cond) ∈ TBL := List.mem_of_getElem? (i := 867) (by decide +kernel)
theorem qw_286 : (Cond.initialized RJ6 : Cond) ∈ TBL := List.mem_of_getElem? (i := 851) (by decide +kernel)
theorem qw_287 : (Cond.methodLink RX8 237 yJ6_bitCount_0f7a4 : Cond) ∈ TBL := List.mem_of_getElem? (i := 865) (by decide +kernel)
theorem qw_288 : (Cond.static yJ6_bitCount_0f7a4 : Cond) ∈ TBL := List.mem_of_getElem? (i := 866) (by decide +kernel)
set_option maxHeartbeats 4000000 in
set_option maxRecDepth 100000 in
theorem c_utd (l : Launch) (dC : Nat → ClassId) (dI : Nat → Nat → Nat) (g : Gv) (sz : Nat) (x0 : Nat) (b : Nat → Nat) (f4 : Nat → Nat) (c4 : ClassId) (f5 : Nat → Nat) (f7 : Nat → Nat) (f6 : Nat → Nat) (f2 : Nat → Nat) (cK : ClassId) (kf : Nat → Option Nat) (cZ : ClassId) (fT : Nat → Nat) (fU : Nat → Nat) (sa : Nat → Nat) (sf : Nat → Nat → Nat) (sc : Nat → Nat → ClassId) (spf : Nat → Nat → Int32) (sdf : Nat → Nat → Int32) (slf : Nat → Nat → Int32) (srf : Nat → Nat → Int32) (sga : Nat → Nat → Option Nat) (sgb : Nat → Nat → Option Nat) (rows : va_W)  : Met l yX8_upToDate (.code yX8_upToDate cX8_upToDate 1 (some (.object "ClosedUntil$Timetable")) :: TBL) ({ frames := 2, cells := 0, slots := 0, locals := 120 }) (va_Pc [.ref x0] (fun U => U.heap.size = sz ∧ va_P (dC, dI) vwCl [(x0, .inr (7, [.ref (b 0), .ref (b 1), .ref (b 2), .ref (b 3), .ref (b 4), .ref (b 5), .ref (b 6), .ref (b 7), .ref (b 8), .ref (b 9), .int 1])), ((b 2), .inr (5, [.ref (f6 0), .ref (f6 1), .ref (f6 2), .ref (f6 3), .ref (f6 4), .ref (f6 5), .int 0, .int 0])), ((b 6), .inr (0, [.int 0, .ref (fT 1), .int 0, .ref (fT 3), .int 0, .ref (fT 5), .ref (fT 6), .ref (fT 7), .int 0, .ref (fT 9), .ref (fT 10), .ref (fT 11), .ref (fT 12), .ref (fT 13)]))] U.heap ∧ va_K (dC, dI) vwCl [] U ∧ va_D (fun _ => True) [(x0, .inr (7, [.ref (b 0), .ref (b 1), .ref (b 2), .ref (b 3), .ref (b 4), .ref (b 5), .ref (b 6), .ref (b 7), .ref (b 8), .ref (b 9), .int 1])), ((b 2), .inr (5, [.ref (f6 0), .ref (f6 1), .ref (f6 2), .ref (f6 3), .ref (f6 4), .ref (f6 5), .int 0, .int 0])), ((b 6), .inr (0, [.int 0, .ref (fT 1), .int 0, .ref (fT 3), .int 0, .ref (fT 5), .ref (fT 6), .ref (fT 7), .int 0, .ref (fT 9), .ref (fT 10), .ref (fT 11), .ref (fT 12), .ref (fT 13)]))] ∧ Ev g (va_A [(x0, .inr (7, [.ref (b 0), .ref (b 1), .ref (b 2), .ref (b 3), .ref (b 4), .ref (b 5), .ref (b 6), .ref (b 7), .ref (b 8), .ref (b 9), .int 1])), ((b 2), .inr (5, [.ref (f6 0), .ref (f6 1), .ref (f6 2), .ref (f6 3), .ref (f6 4), .ref (f6 5), .int 0, .int 0])), ((b 6), .inr (0, [.int 0, .ref (fT 1), .int 0, .ref (fT 3), .int 0, .ref (fT 5), .ref (fT 6), .ref (fT 7), .int 0, .ref (fT 9), .ref (fT 10), .ref (fT 11), .ref (fT 12), .ref (fT 13)]))] sz) U)) (va_Qr (fun (u : Unit) => True) (fun (u : Unit) (r : Nat) (t : State) => r = (b 2) ∧ va_P (dC, dI) vwCl [(x0, .inr (7, [.ref (b 0), .ref (b 1), .ref (b 2), .ref (b 3), .ref (b 4), .ref (b 5), .ref (b 6), .ref (b 7), .ref (b 8), .ref (b 9), .int 0])), ((b 2), .inr (5, [.ref (f6 0), .ref (f6 1), .ref (f6 2), .ref (f6 3), .ref (f6 4), .ref (f6 5), .int 0, .int 0])), ((b 6), .inr (0, [.int 0, .ref (fT 1), .int 0, .ref (fT 3), .int 0, .ref (fT 5), .ref (fT 6), .ref (fT 7), .int 0, .ref (fT 9), .ref (fT 10), .ref (fT 11), .ref (fT 12), .ref (fT 13)]))] t.heap ∧ va_K (dC, dI) vwCl [] t ∧ va_D (va_A [(x0, .inr (7, [.ref (b 0), .ref (b 1), .ref (b 2), .ref (b 3), .ref (b 4), .ref (b 5), .ref (b 6), .ref (b 7), .ref (b 8), .ref (b 9), .int 1])), ((b 2), .inr (5, [.ref (f6 0), .ref (f6 1), .ref (f6 2), .ref (f6 3), .ref (f6 4), .ref (f6 5), .int 0, .int 0])), ((b 6), .inr (0, [.int 0, .ref (fT 1), .int 0, .ref (fT 3), .int 0, .ref (fT 5), .ref (fT 6), .ref (fT 7), .int 0, .ref (fT 9), .ref (fT 10), .ref (fT 11), .ref (fT 12), .ref (fT 13)]))] sz) [(x0, .inr (7, [.ref (b 0), .ref (b 1), .ref (b 2), .ref (b 3), .ref (b 4), .ref (b 5), .ref (b 6), .ref (b 7), .ref (b 8), .ref (b 9), .int 0])), ((b 2), .inr (5, [.ref (f6 0), .ref (f6 1), .ref (f6 2), .ref (f6 3), .ref (f6 4), .ref (f6 5), .int 0, .int 0])), ((b 6), .inr (0, [.int 0, .ref (fT 1), .int 0, .ref (fT 3), .int 0, .ref (fT 5), .ref (fT 6), .ref (fT 7), .int 0, .ref (fT 9), .ref (fT 10), .ref (fT 11), .ref (fT 12), .ref (fT 13)]))]) (va_A [(x0, .inr (7, [.ref (b 0), .ref (b 1), .ref (b 2), .ref (b 3), .ref (b 4), .ref (b 5), .ref (b 6), .ref (b 7), .ref (b 8), .ref (b 9), .int 1])), ((b 2), .inr (5, [.ref (f6 0), .ref (f6 1), .ref (f6 2), .ref (f6 3), .ref (f6 4), .ref (f6 5), .int 0, .int 0])), ((b 6), .inr (0, [.int 0, .ref (fT 1), .int 0, .ref (fT 3), .int 0, .ref (fT 5), .ref (fT 6), .ref (fT 7), .int 0, .ref (fT 9), .ref (fT 10), .ref (fT 11), .ref (fT 12), .ref (fT 13)]))] sz)) 0 0 (va_A [(x0, .inr (7, [.ref (b 0), .ref (b 1), .ref (b 2), .ref (b 3), .ref (b 4), .ref (b 5), .ref (b 6), .ref (b 7), .ref (b 8), .ref (b 9), .int 1])), ((b 2), .inr (5, [.ref (f6 0), .ref (f6 1), .ref (f6 2), .ref (f6 3), .ref (f6 4), .ref (f6 5), .int 0, .int 0])), ((b 6), .inr (0, [.int 0, .ref (fT 1), .int 0, .ref (fT 3), .int 0, .ref (fT 5), .ref (fT 6), .ref (fT 7), .int 0, .ref (fT 9), .ref (fT 10), .ref (fT 11), .ref (fT 12), .ref (fT 13)]))] sz) := by
  refine Met.ofW (cc := cX8_upToDate) (maxL := 1) (ret := (some (.object "ClosedUntil$Timetable"))) (by decide) rfl ?_
  intro p e s m args below meth c s₁ B hml hv
  obtain ⟨rfl, hsz, hP, hK, hD0, hE⟩ := hv
  have hx := B.exec
  have hb := B.bytes
  have hr := B.returns
  have hts0 := atoms_spec (ws := (.code yX8_upToDate cX8_upToDate 1 (some (.object "ClosedUntil$Timetable")) :: TBL)) B.pre
  have hts := fun (w : Cond) (h : w ∈ TBL) => hts0 w (List.mem_cons_of_mem _ h)
  have hown : s.vm.findClass RX8 = some m.cls := findClass_of_methodNamed B.named
  have hlocks := B.notSynchronized
  have hN := hE.1
  subst hsz
  have hD := hD0.self (sz := s.heap.size)
  generalize hAe : va_A [(x0, .inr (7, [.ref (b 0), .ref (b 1), .ref (b 2), .ref (b 3), .ref (b 4), .ref (b 5), .ref (b 6), .ref (b 7), .ref (b 8), .ref (b 9), .int 1])), ((b 2), .inr (5, [.ref (f6 0), .ref (f6 1), .ref (f6 2), .ref (f6 3), .ref (f6 4), .ref (f6 5), .int 0, .int 0])), ((b 6), .inr (0, [.int 0, .ref (fT 1), .int 0, .ref (fT 3), .int 0, .ref (fT 5), .ref (fT 6), .ref (fT 7), .int 0, .ref (fT 9), .ref (fT 10), .ref (fT 11), .ref (fT 12), .ref (fT 13)]))] s.heap.size = A at hD hE ⊢
  have hA : ∀ q : Nat, s.heap.size ≤ q → A q := fun q h => by rw [← hAe]; exact Or.inr h
  have hS : va_S A s.heap s.heap [] := va_S.rf
  have hP : va_P (dC, dI) vwCl [(x0, .inr (7, [.ref (b 0), .ref (b 1), .ref (b 2), .ref (b 3), .ref (b 4), .ref (b 5), .ref (b 6), .ref (b 7), .ref (b 8), .ref (b 9), .int 1])), ((b 2), .inr (5, [.ref (f6 0), .ref (f6 1), .ref (f6 2), .ref (f6 3), .ref (f6 4), .ref (f6 5), .int 0, .int 0])), ((b 6), .inr (0, [.int 0, .ref (fT 1), .int 0, .ref (fT 3), .int 0, .ref (fT 5), .ref (fT 6), .ref (fT 7), .int 0, .ref (fT 9), .ref (fT 10), .ref (fT 11), .ref (fT 12), .ref (fT 13)]))] s.heap := hP
  have hl := lv_entry ([.ref x0]) (n := 1) (Nat.le_of_ble_eq_true rfl)
  rw [lg_entry_eq]
  generalize (lg_sl ([.ref x0]) ++ List.replicate (1 - (lg_sl ([.ref x0])).length) Slot.unset).toArray = ls at hl ⊢
  have hl : lv_has ls 1 [(0, .ref x0)] := hl
  refine lv_aload_n hx hb dX8_upToDate_0 rfl (lv_at hl 0 rfl) ?_
  refine va_get (D := (dC, dI)) (ci := 7) (v := .int 1) (C := RX8) (T := TX8) (N := 11) hx hb hts inlX8 hown hK hP 0 rfl rfl 10 (by decide) (hts (.fieldLink RX8 65 "ClosedUntil" "stale" "Z") qw_209) (fun _ h9 => h9) rfl dX8_upToDate_1 ?_
  refine lv_if_eq (tgt := 27) hx hb dX8_upToDate_4 (by decide) (fun c4_1 => by exfalso; exact absurd c4_1 (by decide)) (fun c4_1 => ?_)
  refine lv_aload_n hx hb dX8_upToDate_7 rfl (lv_at hl 0 rfl) ?_
  refine va_get (D := (dC, dI)) (ci := 7) (v := .ref (b 2)) (C := RX8) (T := TX8) (N := 11) hx hb hts inlX8 hown hK hP 0 rfl rfl 2 (by decide) (hts (.fieldLink RX8 26 "ClosedUntil" "timetable" "LClosedUntil$Timetable;") qw_187) (fun _ h9 => h9) rfl dX8_upToDate_8 ?_
  refine lv_aload_n hx hb dX8_upToDate_11 rfl (lv_at hl 0 rfl) ?_
  refine va_get (D := (dC, dI)) (ci := 7) (v := .ref (b 6)) (C := RX8) (T := TX8) (N := 11) hx hb hts inlX8 hown hK hP 0 rfl rfl 6 (by decide) (hts (.fieldLink RX8 51 "ClosedUntil" "told" "LClosedUntil$Holdings;") qw_205) (fun _ h9 => h9) rfl dX8_upToDate_12 ?_
  refine lv_aload_n hx hb dX8_upToDate_15 rfl (lv_at hl 0 rfl) ?_
  refine va_get (D := (dC, dI)) (ci := 7) (v := .ref (b 8)) (C := RX8) (T := TX8) (N := 11) hx hb hts inlX8 hown hK hP 0 rfl rfl 8 (by decide) (hts (.fieldLink RX8 58 "ClosedUntil" "now" "LClosedUntil$State;") qw_207) (fun _ h9 => h9) rfl dX8_upToDate_16 ?_
  have hPc := hP.sub (ws' := [((b 2), .inr (5, [.ref (f6 0), .ref (f6 1), .ref (f6 2), .ref (f6 3), .ref (f6 4), .ref (f6 5), .int 0, .int 0])), ((b 6), .inr (0, [.int 0, .ref (fT 1), .int 0, .ref (fT 3), .int 0, .ref (fT 5), .ref (fT 6), .ref (fT 7), .int 0, .ref (fT 9), .ref (fT 10), .ref (fT 11), .ref (fT 12), .ref (fT 13)]))]) [1, 2] rfl
  have hKc := hK.sub (tys' := []) [] rfl
  have hDc := hD.sub (ws' := [((b 2), .inr (5, [.ref (f6 0), .ref (f6 1), .ref (f6 2), .ref (f6 3), .ref (f6 4), .ref (f6 5), .int 0, .int 0])), ((b 6), .inr (0, [.int 0, .ref (fT 1), .int 0, .ref (fT 3), .int 0, .ref (fT 5), .ref (fT 6), .ref (fT 7), .int 0, .ref (fT 9), .ref (fT 10), .ref (fT 11), .ref (fT 12), .ref (fT 13)]))]) [1, 2] (by decide) rfl
  have hFc := va_free (wc := [((b 2), .inr (5, [.ref (f6 0), .ref (f6 1), .ref (f6 2), .ref (f6 3), .ref (f6 4), .ref (f6 5), .int 0, .int 0])), ((b 6), .inr (0, [.int 0, .ref (fT 1), .int 0, .ref (fT 3), .int 0, .ref (fT 5), .ref (fT 6), .ref (fT 7), .int 0, .ref (fT 9), .ref (fT 10), .ref (fT 11), .ref (fT 12), .ref (fT 13)]))]) hD hS hA [1, 2] rfl
  refine va_callv (va_runVN (As := [.ref (b 6), .ref (b 8)]) (rest := []) ⟨hx, hb, hml, hown, hts⟩ (c_fill l dC dI g s.heap.size ((b 2)) (f6) ((b 6)) (fT) ((b 8)) ) ⟨va_cnB 2 hts (gwC qw_266) rfl rfl rfl (nm_26 hN) (hts (.initialized RX6) qw_184) (by decide +kernel) ⟨Nat.le_of_ble_eq_true rfl, Nat.le_of_ble_eq_true rfl⟩, (hts (.instanceMethod yX6_fill) qw_267), (hts (.selects RX6 yX6_fill yX6_fill) qw_268)⟩ ⟨fun a U g9 mk q => ⟨q.1, q.2.1, q.2.2.1, va_K.moved (u := U) (U := U.calling g9 mk a) (Vm.Alike.refl U.vm) q.2.2.2.1, q.2.2.2.2.1, Ev.bl q.2.2.2.2.2⟩, va_recv hK hP (ci := 5) (q0 := 1) rfl rfl, fun U hU hW => ⟨rfl, by rw [hU], by rw [hU]; exact hPc, va_K.moved hW.alike hKc, hDc.weaken (fun _ _ _ _ => trivial), hE.go hS hFc hU hW⟩⟩ rfl rfl hl.1 rfl (lv_room (Nat.le_of_ble_eq_true rfl)) dX8_upToDate_19 ⟨Nat.le_of_ble_eq_true rfl, Nat.le_of_ble_eq_true rfl⟩) hS (fun q _ h => hFc q h) hFc (fun u2 t H1 locs ht hvm h_u2 hB hz1 hk1 hS => ?_)
  obtain ⟨hP1, hK1, hD1⟩ := hB
  rw [ht] at hP1
  have hK1 := va_K.moved hvm.symm hK1
  obtain ⟨hP, hD⟩ := va_join (wr := [(x0, .inr (7, [.ref (b 0), .ref (b 1), .ref (b 2), .ref (b 3), .ref (b 4), .ref (b 5), .ref (b 6), .ref (b 7), .ref (b 8), .ref (b 9), .int 1]))]) (w1 := [((b 2), .inr (5, [.ref (f6 0), .ref (f6 1), .ref (f6 2), .ref (f6 3), .ref (f6 4), .ref (f6 5), .int 0, .int 0])), ((b 6), .inr (0, [.int 0, .ref (fT 1), .int 0, .ref (fT 3), .int 0, .ref (fT 5), .ref (fT 6), .ref (fT 7), .int 0, .ref (fT 9), .ref (fT 10), .ref (fT 11), .ref (fT 12), .ref (fT 13)]))]) hP hD [1, 2] [0] rfl rfl (by decide) (by decide) hk1 hFc hP1 hD1
  have hK := hK.app hK1
  have hK : va_K (dC, dI) vwCl [] s := hK
  generalize H1 = H at hP hS ⊢
  have hP : va_P (dC, dI) vwCl [(x0, .inr (7, [.ref (b 0), .ref (b 1), .ref (b 2), .ref (b 3), .ref (b 4), .ref (b 5), .ref (b 6), .ref (b 7), .ref (b 8), .ref (b 9), .int 1])), ((b 2), .inr (5, [.ref (f6 0), .ref (f6 1), .ref (f6 2), .ref (f6 3), .ref (f6 4), .ref (f6 5), .int 0, .int 0])), ((b 6), .inr (0, [.int 0, .ref (fT 1), .int 0, .ref (fT 3), .int 0, .ref (fT 5), .ref (fT 6), .ref (fT 7), .int 0, .ref (fT 9), .ref (fT 10), .ref (fT 11), .ref (fT 12), .ref (fT 13)]))] H := hP
  have hD : va_D A [(x0, .inr (7, [.ref (b 0), .ref (b 1), .ref (b 2), .ref (b 3), .ref (b 4), .ref (b 5), .ref (b 6), .ref (b 7), .ref (b 8), .ref (b 9), .int 1])), ((b 2), .inr (5, [.ref (f6 0), .ref (f6 1), .ref (f6 2), .ref (f6 3), .ref (f6 4), .ref (f6 5), .int 0, .int 0])), ((b 6), .inr (0, [.int 0, .ref (fT 1), .int 0, .ref (fT 3), .int 0, .ref (fT 5), .ref (fT 6), .ref (fT 7), .int 0, .ref (fT 9), .ref (fT 10), .ref (fT 11), .ref (fT 12), .ref (fT 13)]))] := hD
  refine W.widen (k := 0) (n := 0) (Nat.le_of_ble_eq_true rfl) (Nat.le_of_ble_eq_true rfl) ?_
  refine lv_aload_n hx hb dX8_upToDate_22 rfl (lv_at hl 0 rfl) ?_
  refine lv_iconst (v := 0) hx hb dX8_upToDate_23 (by decide) ?_
  refine va_put (D := (dC, dI)) (ci := 7) (v := .int 0) (ty := .boolean) (C := RX8) (T := TX8) (N := 11) hx hb hts inlX8 tyX8 tyX8_ok nmX8 hown hK hP hD hS 0 rfl rfl 10 (by decide) (hts (.fieldLink RX8 65 "ClosedUntil" "stale" "Z") qw_209) (fun _ h9 => h9) rfl (by decide +kernel) rfl rfl (Nat.le_of_ble_eq_true rfl) dX8_upToDate_24 (fun H locs hP hD hS => ?_)
  have hP : va_P (dC, dI) vwCl [(x0, .inr (7, [.ref (b 0), .ref (b 1), .ref (b 2), .ref (b 3), .ref (b 4), .ref (b 5), .ref (b 6), .ref (b 7), .ref (b 8), .ref (b 9), .int 0])), ((b 2), .inr (5, [.ref (f6 0), .ref (f6 1), .ref (f6 2), .ref (f6 3), .ref (f6 4), .ref (f6 5), .int 0, .int 0])), ((b 6), .inr (0, [.int 0, .ref (fT 1), .int 0, .ref (fT 3), .int 0, .ref (fT 5), .ref (fT 6), .ref (fT 7), .int 0, .ref (fT 9), .ref (fT 10), .ref (fT 11), .ref (fT 12), .ref (fT 13)]))] H := hP
  have hD : va_D A [(x0, .inr (7, [.ref (b 0), .ref (b 1), .ref (b 2), .ref (b 3), .ref (b 4), .ref (b 5), .ref (b 6), .ref (b 7), .ref (b 8), .ref (b 9), .int 0])), ((b 2), .inr (5, [.ref (f6 0), .ref (f6 1), .ref (f6 2), .ref (f6 3), .ref (f6 4), .ref (f6 5), .int 0, .int 0])), ((b 6), .inr (0, [.int 0, .ref (fT 1), .int 0, .ref (fT 3), .int 0, .ref (fT 5), .ref (fT 6), .ref (fT 7), .int 0, .ref (fT 9), .ref (fT 10), .ref (fT 11), .ref (fT 12), .ref (fT 13)]))] := hD
  refine lv_aload_n hx hb dX8_upToDate_27 rfl (lv_at hl 0 rfl) ?_
  refine va_get (D := (dC, dI)) (ci := 7) (v := .ref (b 2)) (C := RX8) (T := TX8) (N := 11) hx hb hts inlX8 hown hK hP 0 rfl rfl 2 (by decide) (hts (.fieldLink RX8 26 "ClosedUntil" "timetable" "LClosedUntil$Timetable;") qw_187) (fun _ h9 => h9) rfl dX8_upToDate_28 ?_
  refine W.widen (k := 0) (n := 0) (Nat.le_of_ble_eq_true rfl) (Nat.le_of_ble_eq_true rfl) ?_
  have hP9 := hP.sub (ws' := [(x0, .inr (7, [.ref (b 0), .ref (b 1), .ref (b 2), .ref (b 3), .ref (b 4), .ref (b 5), .ref (b 6), .ref (b 7), .ref (b 8), .ref (b 9), .int 0])), ((b 2), .inr (5, [.ref (f6 0), .ref (f6 1), .ref (f6 2), .ref (f6 3), .ref (f6 4), .ref (f6 5), .int 0, .int 0])), ((b 6), .inr (0, [.int 0, .ref (fT 1), .int 0, .ref (fT 3), .int 0, .ref (fT 5), .ref (fT 6), .ref (fT 7), .int 0, .ref (fT 9), .ref (fT 10), .ref (fT 11), .ref (fT 12), .ref (fT 13)]))]) [0, 1, 2] rfl
  have hD9 := hD.sub (ws' := [(x0, .inr (7, [.ref (b 0), .ref (b 1), .ref (b 2), .ref (b 3), .ref (b 4), .ref (b 5), .ref (b 6), .ref (b 7), .ref (b 8), .ref (b 9), .int 0])), ((b 2), .inr (5, [.ref (f6 0), .ref (f6 1), .ref (f6 2), .ref (f6 3), .ref (f6 4), .ref (f6 5), .int 0, .int 0])), ((b 6), .inr (0, [.int 0, .ref (fT 1), .int 0, .ref (fT 3), .int 0, .ref (fT 5), .ref (fT 6), .ref (fT 7), .int 0, .ref (fT 9), .ref (fT 10), .ref (fT 11), .ref (fT 12), .ref (fT 13)]))]) [0, 1, 2] (by decide) rfl
  have hK9 := hK.sub (tys' := []) [] rfl
  exact W.aret (v := .ref (b 2)) hx hb hr (Or.inl ⟨_, rfl⟩) (Or.inr ⟨_, rfl⟩) (fun t ht hW => ⟨⟨(), (b 2), rfl, (trivial), rfl, by rw [ht]; exact hP9, va_K.moved hW.alike hK9, hD9⟩, hS.F ht⟩) hS.2.2 dX8_upToDate_31
set_option maxHeartbeats 4000000 in
set_option maxRecDepth 100000 in
theorem c_8open_A (l : Launch) (dC : Nat → ClassId) (dI : Nat → Nat → Nat) (g : Gv) (sz : Nat) (x0 : Nat) (b : Nat → Nat) (f4 : Nat → Nat) (c4 : ClassId) (f5 : Nat → Nat) (f7 : Nat → Nat) (f6 : Nat → Nat) (f2 : Nat → Nat) (cK : ClassId) (kf : Nat → Option Nat) (cZ : ClassId) (fT : Nat → Nat) (fU : Nat → Nat) (sa : Nat → Nat) (sf : Nat → Nat → Nat) (sc : Nat → Nat → ClassId) (spf : Nat → Nat → Int32) (sdf : Nat → Nat → Int32) (slf : Nat → Nat → Int32) (srf : Nat → Nat → Int32) (sga : Nat → Nat → Option Nat) (sgb : Nat → Nat → Option Nat) (rows : va_W) (dn : Nat) (rn : Nat) (hdn : dn ≤ 219145) (hrn : rn ≤ 15) : Met l yX8_open (.code yX8_open cX8_open 3 (some .int) :: TBL) ({ frames := 3, cells := 0, slots := 0, locals := 180 }) (va_Pc [.ref x0, .int (nI dn), .int (nI rn)] (fun U => U.heap.size = sz ∧ va_P (dC, dI) vwCl [(x0, .inr (7, [.ref (b 0), .ref (b 1), .ref (b 2), .ref (b 3), .ref (b 4), .ref (b 5), .ref (b 6), .ref (b 7), .ref (b 8), .ref (b 9), .int 1])), ((b 2), .inr (5, [.ref (f6 0), .ref (f6 1), .ref (f6 2), .ref (f6 3), .ref (f6 4), .ref (f6 5), .int 0, .int 0])), ((b 6), .inr (0, [.int 0, .ref (fT 1), .int 0, .ref (fT 3), .int 0, .ref (fT 5), .ref (fT 6), .ref (fT 7), .int 0, .ref (fT 9), .ref (fT 10), .ref (fT 11), .ref (fT 12), .ref (fT 13)]))] U.heap ∧ va_K (dC, dI) vwCl [] U ∧ va_D (fun _ => True) [(x0, .inr (7, [.ref (b 0), .ref (b 1), .ref (b 2), .ref (b 3), .ref (b 4), .ref (b 5), .ref (b 6), .ref (b 7), .ref (b 8), .ref (b 9), .int 1])), ((b 2), .inr (5, [.ref (f6 0), .ref (f6 1), .ref (f6 2), .ref (f6 3), .ref (f6 4), .ref (f6 5), .int 0, .int 0])), ((b 6), .inr (0, [.int 0, .ref (fT 1), .int 0, .ref (fT 3), .int 0, .ref (fT 5), .ref (fT 6), .ref (fT 7), .int 0, .ref (fT 9), .ref (fT 10), .ref (fT 11), .ref (fT 12), .ref (fT 13)]))] ∧ Ev g (va_A [(x0, .inr (7, [.ref (b 0), .ref (b 1), .ref (b 2), .ref (b 3), .ref (b 4), .ref (b 5), .ref (b 6), .ref (b 7), .ref (b 8), .ref (b 9), .int 1])), ((b 2), .inr (5, [.ref (f6 0), .ref (f6 1), .ref (f6 2), .ref (f6 3), .ref (f6 4), .ref (f6 5), .int 0, .int 0])), ((b 6), .inr (0, [.int 0, .ref (fT 1), .int 0, .ref (fT 3), .int 0, .ref (fT 5), .ref (fT 6), .ref (fT 7), .int 0, .ref (fT 9), .ref (fT 10), .ref (fT 11), .ref (fT 12), .ref (fT 13)]))] sz) U)) (va_Qi (fun (r : Int32) (u : Unit) => r = 0) (fun (_ : Unit) (_ : State) => True) (va_A [(x0, .inr (7, [.ref (b 0), .ref (b 1), .ref (b 2), .ref (b 3), .ref (b 4), .ref (b 5), .ref (b 6), .ref (b 7), .ref (b 8), .ref (b 9), .int 1])), ((b 2), .inr (5, [.ref (f6 0), .ref (f6 1), .ref (f6 2), .ref (f6 3), .ref (f6 4), .ref (f6 5), .int 0, .int 0])), ((b 6), .inr (0, [.int 0, .ref (fT 1), .int 0, .ref (fT 3), .int 0, .ref (fT 5), .ref (fT 6), .ref (fT 7), .int 0, .ref (fT 9), .ref (fT 10), .ref (fT 11), .ref (fT 12), .ref (fT 13)]))] sz)) 0 0 (va_A [(x0, .inr (7, [.ref (b 0), .ref (b 1), .ref (b 2), .ref (b 3), .ref (b 4), .ref (b 5), .ref (b 6), .ref (b 7), .ref (b 8), .ref (b 9), .int 1])), ((b 2), .inr (5, [.ref (f6 0), .ref (f6 1), .ref (f6 2), .ref (f6 3), .ref (f6 4), .ref (f6 5), .int 0, .int 0])), ((b 6), .inr (0, [.int 0, .ref (fT 1), .int 0, .ref (fT 3), .int 0, .ref (fT 5), .ref (fT 6), .ref (fT 7), .int 0, .ref (fT 9), .ref (fT 10), .ref (fT 11), .ref (fT 12), .ref (fT 13)]))] sz) := by
  refine Met.ofW (cc := cX8_open) (maxL := 3) (ret := (some .int)) (by decide) rfl ?_
  intro p e s m args below meth c s₁ B hml hv
  obtain ⟨rfl, hsz, hP, hK, hD0, hE⟩ := hv
  have hx := B.exec
  have hb := B.bytes
  have hr := B.returns
  have hts0 := atoms_spec (ws := (.code yX8_open cX8_open 3 (some .int) :: TBL)) B.pre
  have hts := fun (w : Cond) (h : w ∈ TBL) => hts0 w (List.mem_cons_of_mem _ h)
  have hown : s.vm.findClass RX8 = some m.cls := findClass_of_methodNamed B.named
  have hlocks := B.notSynchronized
  have hN := hE.1
  subst hsz
  have hD := hD0.self (sz := s.heap.size)
  generalize hAe : va_A [(x0, .inr (7, [.ref (b 0), .ref (b 1), .ref (b 2), .ref (b 3), .ref (b 4), .ref (b 5), .ref (b 6), .ref (b 7), .ref (b 8), .ref (b 9), .int 1])), ((b 2), .inr (5, [.ref (f6 0), .ref (f6 1), .ref (f6 2), .ref (f6 3), .ref (f6 4), .ref (f6 5), .int 0, .int 0])), ((b 6), .inr (0, [.int 0, .ref (fT 1), .int 0, .ref (fT 3), .int 0, .ref (fT 5), .ref (fT 6), .ref (fT 7), .int 0, .ref (fT 9), .ref (fT 10), .ref (fT 11), .ref (fT 12), .ref (fT 13)]))] s.heap.size = A at hD hE ⊢
  have hA : ∀ q : Nat, s.heap.size ≤ q → A q := fun q h => by rw [← hAe]; exact Or.inr h
  have hS : va_S A s.heap s.heap [] := va_S.rf
  have hP : va_P (dC, dI) vwCl [(x0, .inr (7, [.ref (b 0), .ref (b 1), .ref (b 2), .ref (b 3), .ref (b 4), .ref (b 5), .ref (b 6), .ref (b 7), .ref (b 8), .ref (b 9), .int 1])), ((b 2), .inr (5, [.ref (f6 0), .ref (f6 1), .ref (f6 2), .ref (f6 3), .ref (f6 4), .ref (f6 5), .int 0, .int 0])), ((b 6), .inr (0, [.int 0, .ref (fT 1), .int 0, .ref (fT 3), .int 0, .ref (fT 5), .ref (fT 6), .ref (fT 7), .int 0, .ref (fT 9), .ref (fT 10), .ref (fT 11), .ref (fT 12), .ref (fT 13)]))] s.heap := hP
  have hl := lv_entry ([.ref x0, .int (nI dn), .int (nI rn)]) (n := 3) (Nat.le_of_ble_eq_true rfl)
  rw [lg_entry_eq]
  generalize (lg_sl ([.ref x0, .int (nI dn), .int (nI rn)]) ++ List.replicate (3 - (lg_sl ([.ref x0, .int (nI dn), .int (nI rn)])).length) Slot.unset).toArray = ls at hl ⊢
  have hl : lv_has ls 3 [(0, .ref x0), (1, .int (nI dn)), (2, .int (nI rn))] := hl
  refine lv_iload_n hx hb dX8_open_0 rfl (lv_at hl 1 rfl) ?_
  have hPc := hP.sub (ws' := []) [] rfl
  have hKc := hK.sub (tys' := []) [] rfl
  refine vp_callSi ((va_runS (As := [.int (nI dn)]) (rest := []) ⟨hx, hb, hml, hown, hts⟩ (c_dl_in l dC dI g (dn) hdn) (va_cwS 1 hts (gwS qw_70 qw_71 qw_69 qw_68) rfl rfl rfl (by decide +kernel) ⟨Nat.le_of_ble_eq_true rfl, Nat.le_of_ble_eq_true rfl⟩) ⟨fun a U g9 mk q => ⟨q.1, q.2.1, va_K.moved (u := U) (U := U.calling g9 mk a) (Vm.Alike.refl U.vm) q.2.2.1, Ev.bl q.2.2.2⟩, fun U hU hW => ⟨rfl, by rw [hU]; exact hPc, va_K.moved hW.alike hKc, hE.go hS (fun _ h => h.elim) hU hW⟩⟩ rfl rfl hl.1 rfl (lv_room (Nat.le_of_ble_eq_true rfl)) dX8_open_1 ⟨Nat.le_of_ble_eq_true rfl, Nat.le_of_ble_eq_true rfl⟩)).run (fun r1 h_r1 => ?_)
  have h_r1 : r1 = 1 := h_r1
  subst h_r1
  refine lv_if_eq (tgt := 14) hx hb dX8_open_4 (by decide) (fun c4_2 => by exfalso; exact absurd c4_2 (by decide)) (fun c4_2 => ?_)
  refine lv_iload_n hx hb dX8_open_7 rfl (lv_at hl 2 rfl) ?_
  have hPc := hP.sub (ws' := []) [] rfl
  have hKc := hK.sub (tys' := []) [] rfl
  refine vp_callSi ((va_runS (As := [.int (nI rn)]) (rest := []) ⟨hx, hb, hml, hown, hts⟩ (c_ar_in l dC dI g (rn) hrn) (va_cwS 1 hts (gwS qw_270 qw_271 qw_69 qw_269) rfl rfl rfl (by decide +kernel) ⟨Nat.le_of_ble_eq_true rfl, Nat.le_of_ble_eq_true rfl⟩) ⟨fun a U g9 mk q => ⟨q.1, q.2.1, va_K.moved (u := U) (U := U.calling g9 mk a) (Vm.Alike.refl U.vm) q.2.2.1, Ev.bl q.2.2.2⟩, fun U hU hW => ⟨rfl, by rw [hU]; exact hPc, va_K.moved hW.alike hKc, hE.go hS (fun _ h => h.elim) hU hW⟩⟩ rfl rfl hl.1 rfl (lv_room (Nat.le_of_ble_eq_true rfl)) dX8_open_8 ⟨Nat.le_of_ble_eq_true rfl, Nat.le_of_ble_eq_true rfl⟩)).run (fun r3 h_r3 => ?_)
  have h_r3 : r3 = 1 := h_r3
  subst h_r3
  refine lv_if_ne (tgt := 16) hx hb dX8_open_11 (by decide) (fun c11_4 => ?_) (fun c11_4 => by exfalso; exact absurd c11_4 (by decide))
  refine lv_aload_n hx hb dX8_open_16 rfl (lv_at hl 0 rfl) ?_
  have hPc := hP.sub (ws' := [(x0, .inr (7, [.ref (b 0), .ref (b 1), .ref (b 2), .ref (b 3), .ref (b 4), .ref (b 5), .ref (b 6), .ref (b 7), .ref (b 8), .ref (b 9), .int 1])), ((b 2), .inr (5, [.ref (f6 0), .ref (f6 1), .ref (f6 2), .ref (f6 3), .ref (f6 4), .ref (f6 5), .int 0, .int 0])), ((b 6), .inr (0, [.int 0, .ref (fT 1), .int 0, .ref (fT 3), .int 0, .ref (fT 5), .ref (fT 6), .ref (fT 7), .int 0, .ref (fT 9), .ref (fT 10), .ref (fT 11), .ref (fT 12), .ref (fT 13)]))]) [0, 1, 2] rfl
  have hKc := hK.sub (tys' := []) [] rfl
  have hDc := hD.sub (ws' := [(x0, .inr (7, [.ref (b 0), .ref (b 1), .ref (b 2), .ref (b 3), .ref (b 4), .ref (b 5), .ref (b 6), .ref (b 7), .ref (b 8), .ref (b 9), .int 1])), ((b 2), .inr (5, [.ref (f6 0), .ref (f6 1), .ref (f6 2), .ref (f6 3), .ref (f6 4), .ref (f6 5), .int 0, .int 0])), ((b 6), .inr (0, [.int 0, .ref (fT 1), .int 0, .ref (fT 3), .int 0, .ref (fT 5), .ref (fT 6), .ref (fT 7), .int 0, .ref (fT 9), .ref (fT 10), .ref (fT 11), .ref (fT 12), .ref (fT 13)]))]) [0, 1, 2] (by decide) rfl
  have hFc := va_free (wc := [(x0, .inr (7, [.ref (b 0), .ref (b 1), .ref (b 2), .ref (b 3), .ref (b 4), .ref (b 5), .ref (b 6), .ref (b 7), .ref (b 8), .ref (b 9), .int 1])), ((b 2), .inr (5, [.ref (f6 0), .ref (f6 1), .ref (f6 2), .ref (f6 3), .ref (f6 4), .ref (f6 5), .int 0, .int 0])), ((b 6), .inr (0, [.int 0, .ref (fT 1), .int 0, .ref (fT 3), .int 0, .ref (fT 5), .ref (fT 6), .ref (fT 7), .int 0, .ref (fT 9), .ref (fT 10), .ref (fT 11), .ref (fT 12), .ref (fT 13)]))]) hD hS hA [0, 1, 2] rfl
  refine va_callr (va_runV (As := []) (rest := []) ⟨hx, hb, hml, hown, hts⟩ (c_utd l dC dI g s.heap.size (x0) (b) (f4) (c4) (f5) (f7) (f6) (f2) (cK) (kf) (cZ) (fT) (fU) (sa) (sf) (sc) (spf) (sdf) (slf) (srf) (sga) (sgb) (rows) ) (cwV 0 hts (gwV qw_273 qw_274 qw_275 qw_69 qw_272) rfl rfl rfl (by decide +kernel) ⟨Nat.le_of_ble_eq_true rfl, Nat.le_of_ble_eq_true rfl⟩) ⟨fun a U g9 mk q => ⟨q.1, q.2.1, q.2.2.1, va_K.moved (u := U) (U := U.calling g9 mk a) (Vm.Alike.refl U.vm) q.2.2.2.1, q.2.2.2.2.1, Ev.bl q.2.2.2.2.2⟩, va_recv hK hP (ci := 7) (q0 := 0) rfl rfl, fun U hU hW => ⟨rfl, by rw [hU], by rw [hU]; exact hPc, va_K.moved hW.alike hKc, hDc.weaken (fun _ _ _ _ => trivial), hE.go hS hFc hU hW⟩⟩ rfl rfl hl.1 rfl (lv_room (Nat.le_of_ble_eq_true rfl)) dX8_open_17 ⟨Nat.le_of_ble_eq_true rfl, Nat.le_of_ble_eq_true rfl⟩) hS (fun q _ h => hFc q h) hFc (fun u5 r6 t H1 locs ht hvm h_u5 hB hz1 hk1 hS => ?_)
  obtain ⟨hrr, hP1, hK1, hD1⟩ := hB
  rw [ht] at hP1
  have hK1 := va_K.moved hvm.symm hK1
  obtain ⟨hP, hD⟩ := va_join (wr := []) (w1 := [(x0, .inr (7, [.ref (b 0), .ref (b 1), .ref (b 2), .ref (b 3), .ref (b 4), .ref (b 5), .ref (b 6), .ref (b 7), .ref (b 8), .ref (b 9), .int 0])), ((b 2), .inr (5, [.ref (f6 0), .ref (f6 1), .ref (f6 2), .ref (f6 3), .ref (f6 4), .ref (f6 5), .int 0, .int 0])), ((b 6), .inr (0, [.int 0, .ref (fT 1), .int 0, .ref (fT 3), .int 0, .ref (fT 5), .ref (fT 6), .ref (fT 7), .int 0, .ref (fT 9), .ref (fT 10), .ref (fT 11), .ref (fT 12), .ref (fT 13)]))]) hP hD [0, 1, 2] [] rfl rfl (by decide) (by decide) hk1 hFc hP1 hD1
  have hK := hK.app hK1
  have hK : va_K (dC, dI) vwCl [] s := hK
  generalize H1 = H at hP hS ⊢
  have hP : va_P (dC, dI) vwCl [(x0, .inr (7, [.ref (b 0), .ref (b 1), .ref (b 2), .ref (b 3), .ref (b 4), .ref (b 5), .ref (b 6), .ref (b 7), .ref (b 8), .ref (b 9), .int 0])), ((b 2), .inr (5, [.ref (f6 0), .ref (f6 1), .ref (f6 2), .ref (f6 3), .ref (f6 4), .ref (f6 5), .int 0, .int 0])), ((b 6), .inr (0, [.int 0, .ref (fT 1), .int 0, .ref (fT 3), .int 0, .ref (fT 5), .ref (fT 6), .ref (fT 7), .int 0, .ref (fT 9), .ref (fT 10), .ref (fT 11), .ref (fT 12), .ref (fT 13)]))] H := hP
  have hD : va_D A [(x0, .inr (7, [.ref (b 0), .ref (b 1), .ref (b 2), .ref (b 3), .ref (b 4), .ref (b 5), .ref (b 6), .ref (b 7), .ref (b 8), .ref (b 9), .int 0])), ((b 2), .inr (5, [.ref (f6 0), .ref (f6 1), .ref (f6 2), .ref (f6 3), .ref (f6 4), .ref (f6 5), .int 0, .int 0])), ((b 6), .inr (0, [.int 0, .ref (fT 1), .int 0, .ref (fT 3), .int 0, .ref (fT 5), .ref (fT 6), .ref (fT 7), .int 0, .ref (fT 9), .ref (fT 10), .ref (fT 11), .ref (fT 12), .ref (fT 13)]))] := hD
  refine W.widen (k := 0) (n := 0) (Nat.le_of_ble_eq_true rfl) (Nat.le_of_ble_eq_true rfl) ?_
  have hrr : r6 = (b 2) := hrr
  subst hrr
  refine lv_iload_n hx hb dX8_open_20 rfl (lv_at hl 1 rfl) ?_
  refine lv_aload_n hx hb dX8_open_21 rfl (lv_at hl 0 rfl) ?_
  refine va_get (D := (dC, dI)) (ci := 7) (v := .ref (b 6)) (C := RX8) (T := TX8) (N := 11) hx hb hts inlX8 hown hK hP 0 rfl rfl 6 (by decide) (hts (.fieldLink RX8 51 "ClosedUntil" "told" "LClosedUntil$Holdings;") qw_205) (fun _ h9 => h9) rfl dX8_open_22 ?_
  refine lv_iload_n hx hb dX8_open_25 rfl (lv_at hl 2 rfl) ?_
  have hPc := hP.sub (ws' := [((b 6), .inr (0, [.int 0, .ref (fT 1), .int 0, .ref (fT 3), .int 0, .ref (fT 5), .ref (fT 6), .ref (fT 7), .int 0, .ref (fT 9), .ref (fT 10), .ref (fT 11), .ref (fT 12), .ref (fT 13)]))]) [2] rfl
  have hKc := hK.sub (tys' := []) [] rfl
  refine vp_callSi ((va_runVN (As := [.int (nI rn)]) (rest := [.int (nI dn), .ref (b 2)]) ⟨hx, hb, hml, hown, hts⟩ (c_hf l dC dI g ((b 6)) (fT) ((nI rn)) ) ⟨va_cnB 1 hts (gwC qw_276) rfl rfl rfl (nm_36 hN) (hts (.initialized RX1) qw_202) (by decide +kernel) ⟨Nat.le_of_ble_eq_true rfl, Nat.le_of_ble_eq_true rfl⟩, (hts (.instanceMethod yX1_holdingFor) qw_277), (hts (.selects RX1 yX1_holdingFor yX1_holdingFor) qw_278)⟩ ⟨fun a U g9 mk q => ⟨q.1, q.2.1, va_K.moved (u := U) (U := U.calling g9 mk a) (Vm.Alike.refl U.vm) q.2.2.1, Ev.bl q.2.2.2⟩, va_recv hK hP (ci := 0) (q0 := 2) rfl rfl, fun U hU hW => ⟨rfl, by rw [hU]; exact hPc, va_K.moved hW.alike hKc, hE.go hS (fun _ h => h.elim) hU hW⟩⟩ rfl rfl hl.1 rfl (lv_room (Nat.le_of_ble_eq_true rfl)) dX8_open_26 ⟨Nat.le_of_ble_eq_true rfl, Nat.le_of_ble_eq_true rfl⟩)).run (fun r7 h_r7 => ?_)
  have h_r7 : r7 = 0 := h_r7
  subst h_r7
  have hPc := hP.sub (ws' := [((b 2), .inr (5, [.ref (f6 0), .ref (f6 1), .ref (f6 2), .ref (f6 3), .ref (f6 4), .ref (f6 5), .int 0, .int 0]))]) [1] rfl
  have hKc := hK.sub (tys' := []) [] rfl
  refine vp_callSi ((va_runVN (As := [.int (nI dn), .int 0]) (rest := []) ⟨hx, hb, hml, hown, hts⟩ (c_oo l dC dI g ((b 2)) (f6) ((nI dn)) (0) ) ⟨va_cnB 2 hts (gwC qw_279) rfl rfl rfl (nm_40 hN) (hts (.initialized RX6) qw_184) (by decide +kernel) ⟨Nat.le_of_ble_eq_true rfl, Nat.le_of_ble_eq_true rfl⟩, (hts (.instanceMethod yX6_openOn) qw_280), (hts (.selects RX6 yX6_openOn yX6_openOn) qw_281)⟩ ⟨fun a U g9 mk q => ⟨q.1, q.2.1, va_K.moved (u := U) (U := U.calling g9 mk a) (Vm.Alike.refl U.vm) q.2.2.1, Ev.bl q.2.2.2⟩, va_recv hK hP (ci := 5) (q0 := 1) rfl rfl, fun U hU hW => ⟨rfl, by rw [hU]; exact hPc, va_K.moved hW.alike hKc, hE.go hS (fun _ h => h.elim) hU hW⟩⟩ rfl rfl hl.1 rfl (lv_room (Nat.le_of_ble_eq_true rfl)) dX8_open_29 ⟨Nat.le_of_ble_eq_true rfl, Nat.le_of_ble_eq_true rfl⟩)).run (fun r8 h_r8 => ?_)
  have h_r8 : r8 = 0 := h_r8
  subst h_r8
  refine W.widen (k := 0) (n := 0) (Nat.le_of_ble_eq_true rfl) (Nat.le_of_ble_eq_true rfl) ?_
  exact W.iret (v := 0) hx hb hr (fun t ht hW => ⟨⟨0, (), rfl, (rfl), trivial⟩, hS.F ht⟩) hS.2.2 dX8_open_32
set_option maxHeartbeats 4000000 in
set_option maxRecDepth 100000 in
theorem c_8open_B (l : Launch) (dC : Nat → ClassId) (dI : Nat → Nat → Nat) (g : Gv) (sz : Nat) (x0 : Nat) (b : Nat → Nat) (f4 : Nat → Nat) (c4 : ClassId) (f5 : Nat → Nat) (f7 : Nat → Nat) (f6 : Nat → Nat) (f2 : Nat → Nat) (cK : ClassId) (kf : Nat → Option Nat) (cZ : ClassId) (fT : Nat → Nat) (fU : Nat → Nat) (sa : Nat → Nat) (sf : Nat → Nat → Nat) (sc : Nat → Nat → ClassId) (spf : Nat → Nat → Int32) (sdf : Nat → Nat → Int32) (slf : Nat → Nat → Int32) (srf : Nat → Nat → Int32) (sga : Nat → Nat → Option Nat) (sgb : Nat → Nat → Option Nat) (rows : va_W) (da : Int32) (re : Int32) (hdo : ¬ (0 ≤ da.toInt ∧ da.toInt ≤ 219145)) : Met l yX8_open (.code yX8_open cX8_open 3 (some .int) :: TBL) ({ frames := 3, cells := 0, slots := 0, locals := 180 }) (va_Pc [.ref x0, .int da, .int re] (fun U => U.heap.size = sz ∧ va_P (dC, dI) vwCl [(x0, .inr (7, [.ref (b 0), .ref (b 1), .ref (b 2), .ref (b 3), .ref (b 4), .ref (b 5), .ref (b 6), .ref (b 7), .ref (b 8), .ref (b 9), .int 1])), ((b 2), .inr (5, [.ref (f6 0), .ref (f6 1), .ref (f6 2), .ref (f6 3), .ref (f6 4), .ref (f6 5), .int 0, .int 0])), ((b 6), .inr (0, [.int 0, .ref (fT 1), .int 0, .ref (fT 3), .int 0, .ref (fT 5), .ref (fT 6), .ref (fT 7), .int 0, .ref (fT 9), .ref (fT 10), .ref (fT 11), .ref (fT 12), .ref (fT 13)]))] U.heap ∧ va_K (dC, dI) vwCl [] U ∧ va_D (fun _ => True) [(x0, .inr (7, [.ref (b 0), .ref (b 1), .ref (b 2), .ref (b 3), .ref (b 4), .ref (b 5), .ref (b 6), .ref (b 7), .ref (b 8), .ref (b 9), .int 1])), ((b 2), .inr (5, [.ref (f6 0), .ref (f6 1), .ref (f6 2), .ref (f6 3), .ref (f6 4), .ref (f6 5), .int 0, .int 0])), ((b 6), .inr (0, [.int 0, .ref (fT 1), .int 0, .ref (fT 3), .int 0, .ref (fT 5), .ref (fT 6), .ref (fT 7), .int 0, .ref (fT 9), .ref (fT 10), .ref (fT 11), .ref (fT 12), .ref (fT 13)]))] ∧ Ev g (va_A [(x0, .inr (7, [.ref (b 0), .ref (b 1), .ref (b 2), .ref (b 3), .ref (b 4), .ref (b 5), .ref (b 6), .ref (b 7), .ref (b 8), .ref (b 9), .int 1])), ((b 2), .inr (5, [.ref (f6 0), .ref (f6 1), .ref (f6 2), .ref (f6 3), .ref (f6 4), .ref (f6 5), .int 0, .int 0])), ((b 6), .inr (0, [.int 0, .ref (fT 1), .int 0, .ref (fT 3), .int 0, .ref (fT 5), .ref (fT 6), .ref (fT 7), .int 0, .ref (fT 9), .ref (fT 10), .ref (fT 11), .ref (fT 12), .ref (fT 13)]))] sz) U)) (va_Qi (fun (r : Int32) (u : Unit) => r = (-1)) (fun (_ : Unit) (_ : State) => True) (va_A [(x0, .inr (7, [.ref (b 0), .ref (b 1), .ref (b 2), .ref (b 3), .ref (b 4), .ref (b 5), .ref (b 6), .ref (b 7), .ref (b 8), .ref (b 9), .int 1])), ((b 2), .inr (5, [.ref (f6 0), .ref (f6 1), .ref (f6 2), .ref (f6 3), .ref (f6 4), .ref (f6 5), .int 0, .int 0])), ((b 6), .inr (0, [.int 0, .ref (fT 1), .int 0, .ref (fT 3), .int 0, .ref (fT 5), .ref (fT 6), .ref (fT 7), .int 0, .ref (fT 9), .ref (fT 10), .ref (fT 11), .ref (fT 12), .ref (fT 13)]))] sz)) 0 0 (va_A [(x0, .inr (7, [.ref (b 0), .ref (b 1), .ref (b 2), .ref (b 3), .ref (b 4), .ref (b 5), .ref (b 6), .ref (b 7), .ref (b 8), .ref (b 9), .int 1])), ((b 2), .inr (5, [.ref (f6 0), .ref (f6 1), .ref (f6 2), .ref (f6 3), .ref (f6 4), .ref (f6 5), .int 0, .int 0])), ((b 6), .inr (0, [.int 0, .ref (fT 1), .int 0, .ref (fT 3), .int 0, .ref (fT 5), .ref (fT 6), .ref (fT 7), .int 0, .ref (fT 9), .ref (fT 10), .ref (fT 11), .ref (fT 12), .ref (fT 13)]))] sz) := by
  refine Met.ofW (cc := cX8_open) (maxL := 3) (ret := (some .int)) (by decide) rfl ?_
  intro p e s m args below meth c s₁ B hml hv
  obtain ⟨rfl, hsz, hP, hK, hD0, hE⟩ := hv
  have hx := B.exec
  have hb := B.bytes
  have hr := B.returns
  have hts0 := atoms_spec (ws := (.code yX8_open cX8_open 3 (some .int) :: TBL)) B.pre
  have hts := fun (w : Cond) (h : w ∈ TBL) => hts0 w (List.mem_cons_of_mem _ h)
  have hown : s.vm.findClass RX8 = some m.cls := findClass_of_methodNamed B.named
  have hlocks := B.notSynchronized
  have hN := hE.1
  subst hsz
  have hD := hD0.self (sz := s.heap.size)
  generalize hAe : va_A [(x0, .inr (7, [.ref (b 0), .ref (b 1), .ref (b 2), .ref (b 3), .ref (b 4), .ref (b 5), .ref (b 6), .ref (b 7), .ref (b 8), .ref (b 9), .int 1])), ((b 2), .inr (5, [.ref (f6 0), .ref (f6 1), .ref (f6 2), .ref (f6 3), .ref (f6 4), .ref (f6 5), .int 0, .int 0])), ((b 6), .inr (0, [.int 0, .ref (fT 1), .int 0, .ref (fT 3), .int 0, .ref (fT 5), .ref (fT 6), .ref (fT 7), .int 0, .ref (fT 9), .ref (fT 10), .ref (fT 11), .ref (fT 12), .ref (fT 13)]))] s.heap.size = A at hD hE ⊢
  have hA : ∀ q : Nat, s.heap.size ≤ q → A q := fun q h => by rw [← hAe]; exact Or.inr h
  have hS : va_S A s.heap s.heap [] := va_S.rf
  have hP : va_P (dC, dI) vwCl [(x0, .inr (7, [.ref (b 0), .ref (b 1), .ref (b 2), .ref (b 3), .ref (b 4), .ref (b 5), .ref (b 6), .ref (b 7), .ref (b 8), .ref (b 9), .int 1])), ((b 2), .inr (5, [.ref (f6 0), .ref (f6 1), .ref (f6 2), .ref (f6 3), .ref (f6 4), .ref (f6 5), .int 0, .int 0])), ((b 6), .inr (0, [.int 0, .ref (fT 1), .int 0, .ref (fT 3), .int 0, .ref (fT 5), .ref (fT 6), .ref (fT 7), .int 0, .ref (fT 9), .ref (fT 10), .ref (fT 11), .ref (fT 12), .ref (fT 13)]))] s.heap := hP
  have hl := lv_entry ([.ref x0, .int da, .int re]) (n := 3) (Nat.le_of_ble_eq_true rfl)
  rw [lg_entry_eq]
  generalize (lg_sl ([.ref x0, .int da, .int re]) ++ List.replicate (3 - (lg_sl ([.ref x0, .int da, .int re])).length) Slot.unset).toArray = ls at hl ⊢
  have hl : lv_has ls 3 [(0, .ref x0), (1, .int da), (2, .int re)] := hl
  refine lv_iload_n hx hb dX8_open_0 rfl (lv_at hl 1 rfl) ?_
  have hPc := hP.sub (ws' := []) [] rfl
  have hKc := hK.sub (tys' := []) [] rfl
  refine vp_callSi ((va_runS (As := [.int da]) (rest := []) ⟨hx, hb, hml, hown, hts⟩ (c_dl_out l dC dI g (da) hdo) (va_cwS 1 hts (gwS qw_70 qw_71 qw_69 qw_68) rfl rfl rfl (by decide +kernel) ⟨Nat.le_of_ble_eq_true rfl, Nat.le_of_ble_eq_true rfl⟩) ⟨fun a U g9 mk q => ⟨q.1, q.2.1, va_K.moved (u := U) (U := U.calling g9 mk a) (Vm.Alike.refl U.vm) q.2.2.1, Ev.bl q.2.2.2⟩, fun U hU hW => ⟨rfl, by rw [hU]; exact hPc, va_K.moved hW.alike hKc, hE.go hS (fun _ h => h.elim) hU hW⟩⟩ rfl rfl hl.1 rfl (lv_room (Nat.le_of_ble_eq_true rfl)) dX8_open_1 ⟨Nat.le_of_ble_eq_true rfl, Nat.le_of_ble_eq_true rfl⟩)).run (fun r1 h_r1 => ?_)
  have h_r1 : r1 = 0 := h_r1
  subst h_r1
  refine lv_if_eq (tgt := 14) hx hb dX8_open_4 (by decide) (fun c4_2 => ?_) (fun c4_2 => by exfalso; exact absurd c4_2 (by decide))
  refine lv_iconst (v := (-1)) hx hb dX8_open_14 (by decide) ?_
  refine W.widen (k := 0) (n := 0) (Nat.le_of_ble_eq_true rfl) (Nat.le_of_ble_eq_true rfl) ?_
  exact W.iret (v := (-1)) hx hb hr (fun t ht hW => ⟨⟨(-1), (), rfl, (rfl), trivial⟩, hS.F ht⟩) hS.2.2 dX8_open_15
set_option maxHeartbeats 4000000 in
set_option maxRecDepth 100000 in
theorem c_8open_C (l : Launch) (dC : Nat → ClassId) (dI : Nat → Nat → Nat) (g : Gv) (sz : Nat) (x0 : Nat) (b : Nat → Nat) (f4 : Nat → Nat) (c4 : ClassId) (f5 : Nat → Nat) (f7 : Nat → Nat) (f6 : Nat → Nat) (f2 : Nat → Nat) (cK : ClassId) (kf : Nat → Option Nat) (cZ : ClassId) (fT : Nat → Nat) (fU : Nat → Nat) (sa : Nat → Nat) (sf : Nat → Nat → Nat) (sc : Nat → Nat → ClassId) (spf : Nat → Nat → Int32) (sdf : Nat → Nat → Int32) (slf : Nat → Nat → Int32) (srf : Nat → Nat → Int32) (sga : Nat → Nat → Option Nat) (sgb : Nat → Nat → Option Nat) (rows : va_W) (dn : Nat) (re : Int32) (hdn : dn ≤ 219145) (hro0 : ¬ (0 ≤ re.toInt ∧ re.toInt ≤ 15)) : Met l yX8_open (.code yX8_open cX8_open 3 (some .int) :: TBL) ({ frames := 3, cells := 0, slots := 0, locals := 180 }) (va_Pc [.ref x0, .int (nI dn), .int re] (fun U => U.heap.size = sz ∧ va_P (dC, dI) vwCl [(x0, .inr (7, [.ref (b 0), .ref (b 1), .ref (b 2), .ref (b 3), .ref (b 4), .ref (b 5), .ref (b 6), .ref (b 7), .ref (b 8), .ref (b 9), .int 1])), ((b 2), .inr (5, [.ref (f6 0), .ref (f6 1), .ref (f6 2), .ref (f6 3), .ref (f6 4), .ref (f6 5), .int 0, .int 0])), ((b 6), .inr (0, [.int 0, .ref (fT 1), .int 0, .ref (fT 3), .int 0, .ref (fT 5), .ref (fT 6), .ref (fT 7), .int 0, .ref (fT 9), .ref (fT 10), .ref (fT 11), .ref (fT 12), .ref (fT 13)]))] U.heap ∧ va_K (dC, dI) vwCl [] U ∧ va_D (fun _ => True) [(x0, .inr (7, [.ref (b 0), .ref (b 1), .ref (b 2), .ref (b 3), .ref (b 4), .ref (b 5), .ref (b 6), .ref (b 7), .ref (b 8), .ref (b 9), .int 1])), ((b 2), .inr (5, [.ref (f6 0), .ref (f6 1), .ref (f6 2), .ref (f6 3), .ref (f6 4), .ref (f6 5), .int 0, .int 0])), ((b 6), .inr (0, [.int 0, .ref (fT 1), .int 0, .ref (fT 3), .int 0, .ref (fT 5), .ref (fT 6), .ref (fT 7), .int 0, .ref (fT 9), .ref (fT 10), .ref (fT 11), .ref (fT 12), .ref (fT 13)]))] ∧ Ev g (va_A [(x0, .inr (7, [.ref (b 0), .ref (b 1), .ref (b 2), .ref (b 3), .ref (b 4), .ref (b 5), .ref (b 6), .ref (b 7), .ref (b 8), .ref (b 9), .int 1])), ((b 2), .inr (5, [.ref (f6 0), .ref (f6 1), .ref (f6 2), .ref (f6 3), .ref (f6 4), .ref (f6 5), .int 0, .int 0])), ((b 6), .inr (0, [.int 0, .ref (fT 1), .int 0, .ref (fT 3), .int 0, .ref (fT 5), .ref (fT 6), .ref (fT 7), .int 0, .ref (fT 9), .ref (fT 10), .ref (fT 11), .ref (fT 12), .ref (fT 13)]))] sz) U)) (va_Qi (fun (r : Int32) (u : Unit) => r = (-1)) (fun (_ : Unit) (_ : State) => True) (va_A [(x0, .inr (7, [.ref (b 0), .ref (b 1), .ref (b 2), .ref (b 3), .ref (b 4), .ref (b 5), .ref (b 6), .ref (b 7), .ref (b 8), .ref (b 9), .int 1])), ((b 2), .inr (5, [.ref (f6 0), .ref (f6 1), .ref (f6 2), .ref (f6 3), .ref (f6 4), .ref (f6 5), .int 0, .int 0])), ((b 6), .inr (0, [.int 0, .ref (fT 1), .int 0, .ref (fT 3), .int 0, .ref (fT 5), .ref (fT 6), .ref (fT 7), .int 0, .ref (fT 9), .ref (fT 10), .ref (fT 11), .ref (fT 12), .ref (fT 13)]))] sz)) 0 0 (va_A [(x0, .inr (7, [.ref (b 0), .ref (b 1), .ref (b 2), .ref (b 3), .ref (b 4), .ref (b 5), .ref (b 6), .ref (b 7), .ref (b 8), .ref (b 9), .int 1])), ((b 2), .inr (5, [.ref (f6 0), .ref (f6 1), .ref (f6 2), .ref (f6 3), .ref (f6 4), .ref (f6 5), .int 0, .int 0])), ((b 6), .inr (0, [.int 0, .ref (fT 1), .int 0, .ref (fT 3), .int 0, .ref (fT 5), .ref (fT 6), .ref (fT 7), .int 0, .ref (fT 9), .ref (fT 10), .ref (fT 11), .ref (fT 12), .ref (fT 13)]))] sz) := by
  refine Met.ofW (cc := cX8_open) (maxL := 3) (ret := (some .int)) (by decide) rfl ?_
  intro p e s m args below meth c s₁ B hml hv
  obtain ⟨rfl, hsz, hP, hK, hD0, hE⟩ := hv
  have hx := B.exec
  have hb := B.bytes
  have hr := B.returns
  have hts0 := atoms_spec (ws := (.code yX8_open cX8_open 3 (some .int) :: TBL)) B.pre
  have hts := fun (w : Cond) (h : w ∈ TBL) => hts0 w (List.mem_cons_of_mem _ h)
  have hown : s.vm.findClass RX8 = some m.cls := findClass_of_methodNamed B.named
  have hlocks := B.notSynchronized
  have hN := hE.1
  subst hsz
  have hD := hD0.self (sz := s.heap.size)
  generalize hAe : va_A [(x0, .inr (7, [.ref (b 0), .ref (b 1), .ref (b 2), .ref (b 3), .ref (b 4), .ref (b 5), .ref (b 6), .ref (b 7), .ref (b 8), .ref (b 9), .int 1])), ((b 2), .inr (5, [.ref (f6 0), .ref (f6 1), .ref (f6 2), .ref (f6 3), .ref (f6 4), .ref (f6 5), .int 0, .int 0])), ((b 6), .inr (0, [.int 0, .ref (fT 1), .int 0, .ref (fT 3), .int 0, .ref (fT 5), .ref (fT 6), .ref (fT 7), .int 0, .ref (fT 9), .ref (fT 10), .ref (fT 11), .ref (fT 12), .ref (fT 13)]))] s.heap.size = A at hD hE ⊢
  have hA : ∀ q : Nat, s.heap.size ≤ q → A q := fun q h => by rw [← hAe]; exact Or.inr h
  have hS : va_S A s.heap s.heap [] := va_S.rf
  have hP : va_P (dC, dI) vwCl [(x0, .inr (7, [.ref (b 0), .ref (b 1), .ref (b 2), .ref (b 3), .ref (b 4), .ref (b 5), .ref (b 6), .ref (b 7), .ref (b 8), .ref (b 9), .int 1])), ((b 2), .inr (5, [.ref (f6 0), .ref (f6 1), .ref (f6 2), .ref (f6 3), .ref (f6 4), .ref (f6 5), .int 0, .int 0])), ((b 6), .inr (0, [.int 0, .ref (fT 1), .int 0, .ref (fT 3), .int 0, .ref (fT 5), .ref (fT 6), .ref (fT 7), .int 0, .ref (fT 9), .ref (fT 10), .ref (fT 11), .ref (fT 12), .ref (fT 13)]))] s.heap := hP
  have hl := lv_entry ([.ref x0, .int (nI dn), .int re]) (n := 3) (Nat.le_of_ble_eq_true rfl)
  rw [lg_entry_eq]
  generalize (lg_sl ([.ref x0, .int (nI dn), .int re]) ++ List.replicate (3 - (lg_sl ([.ref x0, .int (nI dn), .int re])).length) Slot.unset).toArray = ls at hl ⊢
  have hl : lv_has ls 3 [(0, .ref x0), (1, .int (nI dn)), (2, .int re)] := hl
  refine lv_iload_n hx hb dX8_open_0 rfl (lv_at hl 1 rfl) ?_
  have hPc := hP.sub (ws' := []) [] rfl
  have hKc := hK.sub (tys' := []) [] rfl
  refine vp_callSi ((va_runS (As := [.int (nI dn)]) (rest := []) ⟨hx, hb, hml, hown, hts⟩ (c_dl_in l dC dI g (dn) hdn) (va_cwS 1 hts (gwS qw_70 qw_71 qw_69 qw_68) rfl rfl rfl (by decide +kernel) ⟨Nat.le_of_ble_eq_true rfl, Nat.le_of_ble_eq_true rfl⟩) ⟨fun a U g9 mk q => ⟨q.1, q.2.1, va_K.moved (u := U) (U := U.calling g9 mk a) (Vm.Alike.refl U.vm) q.2.2.1, Ev.bl q.2.2.2⟩, fun U hU hW => ⟨rfl, by rw [hU]; exact hPc, va_K.moved hW.alike hKc, hE.go hS (fun _ h => h.elim) hU hW⟩⟩ rfl rfl hl.1 rfl (lv_room (Nat.le_of_ble_eq_true rfl)) dX8_open_1 ⟨Nat.le_of_ble_eq_true rfl, Nat.le_of_ble_eq_true rfl⟩)).run (fun r1 h_r1 => ?_)
  have h_r1 : r1 = 1 := h_r1
  subst h_r1
  refine lv_if_eq (tgt := 14) hx hb dX8_open_4 (by decide) (fun c4_2 => by exfalso; exact absurd c4_2 (by decide)) (fun c4_2 => ?_)
  refine lv_iload_n hx hb dX8_open_7 rfl (lv_at hl 2 rfl) ?_
  have hPc := hP.sub (ws' := []) [] rfl
  have hKc := hK.sub (tys' := []) [] rfl
  refine vp_callSi ((va_runS (As := [.int re]) (rest := []) ⟨hx, hb, hml, hown, hts⟩ (c_ar_out l dC dI g (re) hro0) (va_cwS 1 hts (gwS qw_270 qw_271 qw_69 qw_269) rfl rfl rfl (by decide +kernel) ⟨Nat.le_of_ble_eq_true rfl, Nat.le_of_ble_eq_true rfl⟩) ⟨fun a U g9 mk q => ⟨q.1, q.2.1, va_K.moved (u := U) (U := U.calling g9 mk a) (Vm.Alike.refl U.vm) q.2.2.1, Ev.bl q.2.2.2⟩, fun U hU hW => ⟨rfl, by rw [hU]; exact hPc, va_K.moved hW.alike hKc, hE.go hS (fun _ h => h.elim) hU hW⟩⟩ rfl rfl hl.1 rfl (lv_room (Nat.le_of_ble_eq_true rfl)) dX8_open_8 ⟨Nat.le_of_ble_eq_true rfl, Nat.le_of_ble_eq_true rfl⟩)).run (fun r3 h_r3 => ?_)
  have h_r3 : r3 = 0 := h_r3
  subst h_r3
  refine lv_if_ne (tgt := 16) hx hb dX8_open_11 (by decide) (fun c11_4 => by exfalso; exact absurd c11_4 (by decide)) (fun c11_4 => ?_)
  refine lv_iconst (v := (-1)) hx hb dX8_open_14 (by decide) ?_
  refine W.widen (k := 0) (n := 0) (Nat.le_of_ble_eq_true rfl) (Nat.le_of_ble_eq_true rfl) ?_
  exact W.iret (v := (-1)) hx hb hr (fun t ht hW => ⟨⟨(-1), (), rfl, (rfl), trivial⟩, hS.F ht⟩) hS.2.2 dX8_open_15
set_option maxHeartbeats 4000000 in
set_option maxRecDepth 100000 in
theorem c_8next_A (l : Launch) (dC : Nat → ClassId) (dI : Nat → Nat → Nat) (g : Gv) (sz : Nat) (x0 : Nat) (b : Nat → Nat) (f4 : Nat → Nat) (c4 : ClassId) (f5 : Nat → Nat) (f7 : Nat → Nat) (f6 : Nat → Nat) (f2 : Nat → Nat) (cK : ClassId) (kf : Nat → Option Nat) (cZ : ClassId) (fT : Nat → Nat) (fU : Nat → Nat) (sa : Nat → Nat) (sf : Nat → Nat → Nat) (sc : Nat → Nat → ClassId) (spf : Nat → Nat → Int32) (sdf : Nat → Nat → Int32) (slf : Nat → Nat → Int32) (srf : Nat → Nat → Int32) (sga : Nat → Nat → Option Nat) (sgb : Nat → Nat → Option Nat) (rows : va_W) (dn : Nat) (rn : Nat) (hdn : dn ≤ 219145) (hrn : rn ≤ 15) : Met l yX8_next (.code yX8_next cX8_next 9 (some .int) :: TBL) ({ frames := 3, cells := 0, slots := 0, locals := 180 }) (va_Pc [.ref x0, .int (nI dn), .int (nI rn)] (fun U => U.heap.size = sz ∧ va_P (dC, dI) vwCl [(x0, .inr (7, [.ref (b 0), .ref (b 1), .ref (b 2), .ref (b 3), .ref (b 4), .ref (b 5), .ref (b 6), .ref (b 7), .ref (b 8), .ref (b 9), .int 1])), ((b 2), .inr (5, [.ref (f6 0), .ref (f6 1), .ref (f6 2), .ref (f6 3), .ref (f6 4), .ref (f6 5), .int 0, .int 0])), ((b 6), .inr (0, [.int 0, .ref (fT 1), .int 0, .ref (fT 3), .int 0, .ref (fT 5), .ref (fT 6), .ref (fT 7), .int 0, .ref (fT 9), .ref (fT 10), .ref (fT 11), .ref (fT 12), .ref (fT 13)]))] U.heap ∧ va_K (dC, dI) vwCl [] U ∧ va_D (fun _ => True) [(x0, .inr (7, [.ref (b 0), .ref (b 1), .ref (b 2), .ref (b 3), .ref (b 4), .ref (b 5), .ref (b 6), .ref (b 7), .ref (b 8), .ref (b 9), .int 1])), ((b 2), .inr (5, [.ref (f6 0), .ref (f6 1), .ref (f6 2), .ref (f6 3), .ref (f6 4), .ref (f6 5), .int 0, .int 0])), ((b 6), .inr (0, [.int 0, .ref (fT 1), .int 0, .ref (fT 3), .int 0, .ref (fT 5), .ref (fT 6), .ref (fT 7), .int 0, .ref (fT 9), .ref (fT 10), .ref (fT 11), .ref (fT 12), .ref (fT 13)]))] ∧ Ev g (va_A [(x0, .inr (7, [.ref (b 0), .ref (b 1), .ref (b 2), .ref (b 3), .ref (b 4), .ref (b 5), .ref (b 6), .ref (b 7), .ref (b 8), .ref (b 9), .int 1])), ((b 2), .inr (5, [.ref (f6 0), .ref (f6 1), .ref (f6 2), .ref (f6 3), .ref (f6 4), .ref (f6 5), .int 0, .int 0])), ((b 6), .inr (0, [.int 0, .ref (fT 1), .int 0, .ref (fT 3), .int 0, .ref (fT 5), .ref (fT 6), .ref (fT 7), .int 0, .ref (fT 9), .ref (fT 10), .ref (fT 11), .ref (fT 12), .ref (fT 13)]))] sz) U)) (va_Qi (fun (r : Int32) (u : Unit) => r = (-1)) (fun (_ : Unit) (_ : State) => True) (va_A [(x0, .inr (7, [.ref (b 0), .ref (b 1), .ref (b 2), .ref (b 3), .ref (b 4), .ref (b 5), .ref (b 6), .ref (b 7), .ref (b 8), .ref (b 9), .int 1])), ((b 2), .inr (5, [.ref (f6 0), .ref (f6 1), .ref (f6 2), .ref (f6 3), .ref (f6 4), .ref (f6 5), .int 0, .int 0])), ((b 6), .inr (0, [.int 0, .ref (fT 1), .int 0, .ref (fT 3), .int 0, .ref (fT 5), .ref (fT 6), .ref (fT 7), .int 0, .ref (fT 9), .ref (fT 10), .ref (fT 11), .ref (fT 12), .ref (fT 13)]))] sz)) 0 0 (va_A [(x0, .inr (7, [.ref (b 0), .ref (b 1), .ref (b 2), .ref (b 3), .ref (b 4), .ref (b 5), .ref (b 6), .ref (b 7), .ref (b 8), .ref (b 9), .int 1])), ((b 2), .inr (5, [.ref (f6 0), .ref (f6 1), .ref (f6 2), .ref (f6 3), .ref (f6 4), .ref (f6 5), .int 0, .int 0])), ((b 6), .inr (0, [.int 0, .ref (fT 1), .int 0, .ref (fT 3), .int 0, .ref (fT 5), .ref (fT 6), .ref (fT 7), .int 0, .ref (fT 9), .ref (fT 10), .ref (fT 11), .ref (fT 12), .ref (fT 13)]))] sz) := by
  refine Met.ofW (cc := cX8_next) (maxL := 9) (ret := (some .int)) (by decide) rfl ?_
  intro p e s m args below meth c s₁ B hml hv
  obtain ⟨rfl, hsz, hP, hK, hD0, hE⟩ := hv
  have hx := B.exec
  have hb := B.bytes
  have hr := B.returns
  have hts0 := atoms_spec (ws := (.code yX8_next cX8_next 9 (some .int) :: TBL)) B.pre
  have hts := fun (w : Cond) (h : w ∈ TBL) => hts0 w (List.mem_cons_of_mem _ h)
  have hown : s.vm.findClass RX8 = some m.cls := findClass_of_methodNamed B.named
  have hlocks := B.notSynchronized
  have hN := hE.1
  subst hsz
  have hD := hD0.self (sz := s.heap.size)
  generalize hAe : va_A [(x0, .inr (7, [.ref (b 0), .ref (b 1), .ref (b 2), .ref (b 3), .ref (b 4), .ref (b 5), .ref (b 6), .ref (b 7), .ref (b 8), .ref (b 9), .int 1])), ((b 2), .inr (5, [.ref (f6 0), .ref (f6 1), .ref (f6 2), .ref (f6 3), .ref (f6 4), .ref (f6 5), .int 0, .int 0])), ((b 6), .inr (0, [.int 0, .ref (fT 1), .int 0, .ref (fT 3), .int 0, .ref (fT 5), .ref (fT 6), .ref (fT 7), .int 0, .ref (fT 9), .ref (fT 10), .ref (fT 11), .ref (fT 12), .ref (fT 13)]))] s.heap.size = A at hD hE ⊢
  have hA : ∀ q : Nat, s.heap.size ≤ q → A q := fun q h => by rw [← hAe]; exact Or.inr h
  have hS : va_S A s.heap s.heap [] := va_S.rf
  have hP : va_P (dC, dI) vwCl [(x0, .inr (7, [.ref (b 0), .ref (b 1), .ref (b 2), .ref (b 3), .ref (b 4), .ref (b 5), .ref (b 6), .ref (b 7), .ref (b 8), .ref (b 9), .int 1])), ((b 2), .inr (5, [.ref (f6 0), .ref (f6 1), .ref (f6 2), .ref (f6 3), .ref (f6 4), .ref (f6 5), .int 0, .int 0])), ((b 6), .inr (0, [.int 0, .ref (fT 1), .int 0, .ref (fT 3), .int 0, .ref (fT 5), .ref (fT 6), .ref (fT 7), .int 0, .ref (fT 9), .ref (fT 10), .ref (fT 11), .ref (fT 12), .ref (fT 13)]))] s.heap := hP
  have hl := lv_entry ([.ref x0, .int (nI dn), .int (nI rn)]) (n := 9) (Nat.le_of_ble_eq_true rfl)
  rw [lg_entry_eq]
  generalize (lg_sl ([.ref x0, .int (nI dn), .int (nI rn)]) ++ List.replicate (9 - (lg_sl ([.ref x0, .int (nI dn), .int (nI rn)])).length) Slot.unset).toArray = ls at hl ⊢
  have hl : lv_has ls 9 [(0, .ref x0), (1, .int (nI dn)), (2, .int (nI rn))] := hl
  refine lv_iload_n hx hb dX8_next_0 rfl (lv_at hl 1 rfl) ?_
  refine lv_iconst (v := (-1)) hx hb dX8_next_1 (by decide) ?_
  refine lv_icmp_eq (tgt := 12) hx hb dX8_next_2 (by decide) (fun c2_1 => by exfalso; have c2_1 : ((dn : Nat) : Int) = (-1) := (cv_eq (nI_toInt (by omega)) (by decide)).mp c2_1; omega) (fun c2_1 => ?_)
  have c2_1 : ¬ (((dn : Nat) : Int) = (-1)) := mt (cv_eq (nI_toInt (by omega)) (by decide)).mpr c2_1
  refine lv_iload_n hx hb dX8_next_5 rfl (lv_at hl 1 rfl) ?_
  have hPc := hP.sub (ws' := []) [] rfl
  have hKc := hK.sub (tys' := []) [] rfl
  refine vp_callSi ((va_runS (As := [.int (nI dn)]) (rest := []) ⟨hx, hb, hml, hown, hts⟩ (c_dl_in l dC dI g (dn) hdn) (va_cwS 1 hts (gwS qw_70 qw_71 qw_69 qw_68) rfl rfl rfl (by decide +kernel) ⟨Nat.le_of_ble_eq_true rfl, Nat.le_of_ble_eq_true rfl⟩) ⟨fun a U g9 mk q => ⟨q.1, q.2.1, va_K.moved (u := U) (U := U.calling g9 mk a) (Vm.Alike.refl U.vm) q.2.2.1, Ev.bl q.2.2.2⟩, fun U hU hW => ⟨rfl, by rw [hU]; exact hPc, va_K.moved hW.alike hKc, hE.go hS (fun _ h => h.elim) hU hW⟩⟩ rfl rfl hl.1 rfl (lv_room (Nat.le_of_ble_eq_true rfl)) dX8_next_6 ⟨Nat.le_of_ble_eq_true rfl, Nat.le_of_ble_eq_true rfl⟩)).run (fun r2 h_r2 => ?_)
  have h_r2 : r2 = 1 := h_r2
  subst h_r2
  refine lv_if_eq (tgt := 16) hx hb dX8_next_9 (by decide) (fun c9_3 => by exfalso; exact absurd c9_3 (by decide)) (fun c9_3 => ?_)
  refine lv_iconst (v := 1) hx hb dX8_next_12 (by decide) ?_
  refine lv_goto (tgt := 17) hx hb dX8_next_13 (by decide) ?_
  refine lv_istore_n (lv' := [(3, .int 1), (0, .ref x0), (1, .int (nI dn)), (2, .int (nI rn))]) hx hb dX8_next_17 rfl hl (by decide) rfl (fun ls hl => ?_)
  refine lv_iload_n hx hb dX8_next_18 rfl (lv_at hl 0 rfl) ?_
  refine lv_if_eq (tgt := 29) hx hb dX8_next_19 (by decide) (fun c19_4 => by exfalso; exact absurd c19_4 (by decide)) (fun c19_4 => ?_)
  refine lv_iload_n hx hb dX8_next_22 rfl (lv_at hl 3 rfl) ?_
  have hPc := hP.sub (ws' := []) [] rfl
  have hKc := hK.sub (tys' := []) [] rfl
  refine vp_callSi ((va_runS (As := [.int (nI rn)]) (rest := []) ⟨hx, hb, hml, hown, hts⟩ (c_ar_in l dC dI g (rn) hrn) (va_cwS 1 hts (gwS qw_270 qw_271 qw_69 qw_269) rfl rfl rfl (by decide +kernel) ⟨Nat.le_of_ble_eq_true rfl, Nat.le_of_ble_eq_true rfl⟩) ⟨fun a U g9 mk q => ⟨q.1, q.2.1, va_K.moved (u := U) (U := U.calling g9 mk a) (Vm.Alike.refl U.vm) q.2.2.1, Ev.bl q.2.2.2⟩, fun U hU hW => ⟨rfl, by rw [hU]; exact hPc, va_K.moved hW.alike hKc, hE.go hS (fun _ h => h.elim) hU hW⟩⟩ rfl rfl hl.1 rfl (lv_room (Nat.le_of_ble_eq_true rfl)) dX8_next_23 ⟨Nat.le_of_ble_eq_true rfl, Nat.le_of_ble_eq_true rfl⟩)).run (fun r5 h_r5 => ?_)
  have h_r5 : r5 = 1 := h_r5
  subst h_r5
  refine lv_if_ne (tgt := 31) hx hb dX8_next_26 (by decide) (fun c26_6 => ?_) (fun c26_6 => by exfalso; exact absurd c26_6 (by decide))
  refine lv_aload_n hx hb dX8_next_31 rfl (lv_at hl 1 rfl) ?_
  have hPc := hP.sub (ws' := [(x0, .inr (7, [.ref (b 0), .ref (b 1), .ref (b 2), .ref (b 3), .ref (b 4), .ref (b 5), .ref (b 6), .ref (b 7), .ref (b 8), .ref (b 9), .int 1])), ((b 2), .inr (5, [.ref (f6 0), .ref (f6 1), .ref (f6 2), .ref (f6 3), .ref (f6 4), .ref (f6 5), .int 0, .int 0])), ((b 6), .inr (0, [.int 0, .ref (fT 1), .int 0, .ref (fT 3), .int 0, .ref (fT 5), .ref (fT 6), .ref (fT 7), .int 0, .ref (fT 9), .ref (fT 10), .ref (fT 11), .ref (fT 12), .ref (fT 13)]))]) [0, 1, 2] rfl
  have hKc := hK.sub (tys' := []) [] rfl
  have hDc := hD.sub (ws' := [(x0, .inr (7, [.ref (b 0), .ref (b 1), .ref (b 2), .ref (b 3), .ref (b 4), .ref (b 5), .ref (b 6), .ref (b 7), .ref (b 8), .ref (b 9), .int 1])), ((b 2), .inr (5, [.ref (f6 0), .ref (f6 1), .ref (f6 2), .ref (f6 3), .ref (f6 4), .ref (f6 5), .int 0, .int 0])), ((b 6), .inr (0, [.int 0, .ref (fT 1), .int 0, .ref (fT 3), .int 0, .ref (fT 5), .ref (fT 6), .ref (fT 7), .int 0, .ref (fT 9), .ref (fT 10), .ref (fT 11), .ref (fT 12), .ref (fT 13)]))]) [0, 1, 2] (by decide) rfl
  have hFc := va_free (wc := [(x0, .inr (7, [.ref (b 0), .ref (b 1), .ref (b 2), .ref (b 3), .ref (b 4), .ref (b 5), .ref (b 6), .ref (b 7), .ref (b 8), .ref (b 9), .int 1])), ((b 2), .inr (5, [.ref (f6 0), .ref (f6 1), .ref (f6 2), .ref (f6 3), .ref (f6 4), .ref (f6 5), .int 0, .int 0])), ((b 6), .inr (0, [.int 0, .ref (fT 1), .int 0, .ref (fT 3), .int 0, .ref (fT 5), .ref (fT 6), .ref (fT 7), .int 0, .ref (fT 9), .ref (fT 10), .ref (fT 11), .ref (fT 12), .ref (fT 13)]))]) hD hS hA [0, 1, 2] rfl
  refine va_callr (va_runV (As := []) (rest := []) ⟨hx, hb, hml, hown, hts⟩ (c_utd l dC dI g s.heap.size (x0) (b) (f4) (c4) (f5) (f7) (f6) (f2) (cK) (kf) (cZ) (fT) (fU) (sa) (sf) (sc) (spf) (sdf) (slf) (srf) (sga) (sgb) (rows) ) (cwV 0 hts (gwV qw_273 qw_274 qw_275 qw_69 qw_272) rfl rfl rfl (by decide +kernel) ⟨Nat.le_of_ble_eq_true rfl, Nat.le_of_ble_eq_true rfl⟩) ⟨fun a U g9 mk q => ⟨q.1, q.2.1, q.2.2.1, va_K.moved (u := U) (U := U.calling g9 mk a) (Vm.Alike.refl U.vm) q.2.2.2.1, q.2.2.2.2.1, Ev.bl q.2.2.2.2.2⟩, va_recv hK hP (ci := 7) (q0 := 0) rfl rfl, fun U hU hW => ⟨rfl, by rw [hU], by rw [hU]; exact hPc, va_K.moved hW.alike hKc, hDc.weaken (fun _ _ _ _ => trivial), hE.go hS hFc hU hW⟩⟩ rfl rfl hl.1 rfl (lv_room (Nat.le_of_ble_eq_true rfl)) dX8_next_32 ⟨Nat.le_of_ble_eq_true rfl, Nat.le_of_ble_eq_true rfl⟩) hS (fun q _ h => hFc q h) hFc (fun u7 r8 t H1 locs ht hvm h_u7 hB hz1 hk1 hS => ?_)
  obtain ⟨hrr, hP1, hK1, hD1⟩ := hB
  rw [ht] at hP1
  have hK1 := va_K.moved hvm.symm hK1
  obtain ⟨hP, hD⟩ := va_join (wr := []) (w1 := [(x0, .inr (7, [.ref (b 0), .ref (b 1), .ref (b 2), .ref (b 3), .ref (b 4), .ref (b 5), .ref (b 6), .ref (b 7), .ref (b 8), .ref (b 9), .int 0])), ((b 2), .inr (5, [.ref (f6 0), .ref (f6 1), .ref (f6 2), .ref (f6 3), .ref (f6 4), .ref (f6 5), .int 0, .int 0])), ((b 6), .inr (0, [.int 0, .ref (fT 1), .int 0, .ref (fT 3), .int 0, .ref (fT 5), .ref (fT 6), .ref (fT 7), .int 0, .ref (fT 9), .ref (fT 10), .ref (fT 11), .ref (fT 12), .ref (fT 13)]))]) hP hD [0, 1, 2] [] rfl rfl (by decide) (by decide) hk1 hFc hP1 hD1
  have hK := hK.app hK1
  have hK : va_K (dC, dI) vwCl [] s := hK
  generalize H1 = H at hP hS ⊢
  have hP : va_P (dC, dI) vwCl [(x0, .inr (7, [.ref (b 0), .ref (b 1), .ref (b 2), .ref (b 3), .ref (b 4), .ref (b 5), .ref (b 6), .ref (b 7), .ref (b 8), .ref (b 9), .int 0])), ((b 2), .inr (5, [.ref (f6 0), .ref (f6 1), .ref (f6 2), .ref (f6 3), .ref (f6 4), .ref (f6 5), .int 0, .int 0])), ((b 6), .inr (0, [.int 0, .ref (fT 1), .int 0, .ref (fT 3), .int 0, .ref (fT 5), .ref (fT 6), .ref (fT 7), .int 0, .ref (fT 9), .ref (fT 10), .ref (fT 11), .ref (fT 12), .ref (fT 13)]))] H := hP
  have hD : va_D A [(x0, .inr (7, [.ref (b 0), .ref (b 1), .ref (b 2), .ref (b 3), .ref (b 4), .ref (b 5), .ref (b 6), .ref (b 7), .ref (b 8), .ref (b 9), .int 0])), ((b 2), .inr (5, [.ref (f6 0), .ref (f6 1), .ref (f6 2), .ref (f6 3), .ref (f6 4), .ref (f6 5), .int 0, .int 0])), ((b 6), .inr (0, [.int 0, .ref (fT 1), .int 0, .ref (fT 3), .int 0, .ref (fT 5), .ref (fT 6), .ref (fT 7), .int 0, .ref (fT 9), .ref (fT 10), .ref (fT 11), .ref (fT 12), .ref (fT 13)]))] := hD
  refine W.widen (k := 0) (n := 0) (Nat.le_of_ble_eq_true rfl) (Nat.le_of_ble_eq_true rfl) ?_
  have hrr : r8 = (b 2) := hrr
  subst hrr
  refine lv_astore (lv' := [(4, .ref (b 2)), (3, .int 1), (0, .ref x0), (1, .int (nI dn)), (2, .int (nI rn))]) hx hb dX8_next_35 hl (by decide) rfl (fun ls hl => ?_)
  refine lv_aload_n hx hb dX8_next_37 rfl (lv_at hl 2 rfl) ?_
  refine va_get (D := (dC, dI)) (ci := 7) (v := .ref (b 6)) (C := RX8) (T := TX8) (N := 11) hx hb hts inlX8 hown hK hP 0 rfl rfl 6 (by decide) (hts (.fieldLink RX8 51 "ClosedUntil" "told" "LClosedUntil$Holdings;") qw_205) (fun _ h9 => h9) rfl dX8_next_38 ?_
  refine lv_iload_n hx hb dX8_next_41 rfl (lv_at hl 4 rfl) ?_
  have hPc := hP.sub (ws' := [((b 6), .inr (0, [.int 0, .ref (fT 1), .int 0, .ref (fT 3), .int 0, .ref (fT 5), .ref (fT 6), .ref (fT 7), .int 0, .ref (fT 9), .ref (fT 10), .ref (fT 11), .ref (fT 12), .ref (fT 13)]))]) [2] rfl
  have hKc := hK.sub (tys' := []) [] rfl
  refine vp_callSi ((va_runVN (As := [.int (nI rn)]) (rest := []) ⟨hx, hb, hml, hown, hts⟩ (c_hf l dC dI g ((b 6)) (fT) ((nI rn)) ) ⟨va_cnB 1 hts (gwC qw_276) rfl rfl rfl (nm_36 hN) (hts (.initialized RX1) qw_202) (by decide +kernel) ⟨Nat.le_of_ble_eq_true rfl, Nat.le_of_ble_eq_true rfl⟩, (hts (.instanceMethod yX1_holdingFor) qw_277), (hts (.selects RX1 yX1_holdingFor yX1_holdingFor) qw_278)⟩ ⟨fun a U g9 mk q => ⟨q.1, q.2.1, va_K.moved (u := U) (U := U.calling g9 mk a) (Vm.Alike.refl U.vm) q.2.2.1, Ev.bl q.2.2.2⟩, va_recv hK hP (ci := 0) (q0 := 2) rfl rfl, fun U hU hW => ⟨rfl, by rw [hU]; exact hPc, va_K.moved hW.alike hKc, hE.go hS (fun _ h => h.elim) hU hW⟩⟩ rfl rfl hl.1 rfl (lv_room (Nat.le_of_ble_eq_true rfl)) dX8_next_42 ⟨Nat.le_of_ble_eq_true rfl, Nat.le_of_ble_eq_true rfl⟩)).run (fun r9 h_r9 => ?_)
  have h_r9 : r9 = 0 := h_r9
  subst h_r9
  refine lv_istore (lv' := [(5, .int 0), (4, .ref (b 2)), (3, .int 1), (0, .ref x0), (1, .int (nI dn)), (2, .int (nI rn))]) hx hb dX8_next_45 hl (by decide) rfl (fun ls hl => ?_)
  refine lv_iconst (v := (-1)) hx hb dX8_next_47 (by decide) ?_
  refine lv_istore (lv' := [(6, .int (-1)), (5, .int 0), (4, .ref (b 2)), (3, .int 1), (0, .ref x0), (1, .int (nI dn)), (2, .int (nI rn))]) hx hb dX8_next_48 hl (by decide) rfl (fun ls hl => ?_)
  refine lv_iconst (v := 0) hx hb dX8_next_50 (by decide) ?_
  refine lv_istore (lv' := [(7, .int 0), (6, .int (-1)), (5, .int 0), (4, .ref (b 2)), (3, .int 1), (0, .ref x0), (1, .int (nI dn)), (2, .int (nI rn))]) hx hb dX8_next_51 hl (by decide) rfl (fun ls hl => ?_)
  refine lv_iload hx hb dX8_next_53 (lv_at hl 0 rfl) ?_
  refine lv_aload_n hx hb dX8_next_55 rfl (lv_at hl 5 rfl) ?_
  refine va_get (D := (dC, dI)) (ci := 7) (v := .ref (b 6)) (C := RX8) (T := TX8) (N := 11) hx hb hts inlX8 hown hK hP 0 rfl rfl 6 (by decide) (hts (.fieldLink RX8 51 "ClosedUntil" "told" "LClosedUntil$Holdings;") qw_205) (fun _ h9 => h9) rfl dX8_next_56 ?_
  refine va_getN (D := (dC, dI)) (ci := 0) (v := .int 0) (C := RX1) (T := TX1) (N := 14) hx hb hts inlX1 hown hK hP 2 rfl rfl 4 (by decide) (va_Nw.use rfl (nf_37 hN)) (fun _ h9 => h9) rfl dX8_next_59 ?_
  refine lv_icmp_ge (tgt := 105) hx hb dX8_next_62 (by decide) (fun c62_10 => ?_) (fun c62_10 => by exfalso; exact absurd c62_10 (by decide))
  refine lv_iload hx hb dX8_next_105 (lv_at hl 1 rfl) ?_
  refine W.widen (k := 0) (n := 0) (Nat.le_of_ble_eq_true rfl) (Nat.le_of_ble_eq_true rfl) ?_
  exact W.iret (v := (-1)) hx hb hr (fun t ht hW => ⟨⟨(-1), (), rfl, (rfl), trivial⟩, hS.F ht⟩) hS.2.2 dX8_next_107
set_option maxHeartbeats 4000000 in
set_option maxRecDepth 100000 in
theorem c_8next_M (l : Launch) (dC : Nat → ClassId) (dI : Nat → Nat → Nat) (g : Gv) (sz : Nat) (x0 : Nat) (b : Nat → Nat) (f4 : Nat → Nat) (c4 : ClassId) (f5 : Nat → Nat) (f7 : Nat → Nat) (f6 : Nat → Nat) (f2 : Nat → Nat) (cK : ClassId) (kf : Nat → Option Nat) (cZ : ClassId) (fT : Nat → Nat) (fU : Nat → Nat) (sa : Nat → Nat) (sf : Nat → Nat → Nat) (sc : Nat → Nat → ClassId) (spf : Nat → Nat → Int32) (sdf : Nat → Nat → Int32) (slf : Nat → Nat → Int32) (srf : Nat → Nat → Int32) (sga : Nat → Nat → Option Nat) (sgb : Nat → Nat → Option Nat) (rows : va_W) (rn : Nat) (hrn : rn ≤ 15) : Met l yX8_next (.code yX8_next cX8_next 9 (some .int) :: TBL) ({ frames := 3, cells := 0, slots := 0, locals := 180 }) (va_Pc [.ref x0, .int (-1), .int (nI rn)] (fun U => U.heap.size = sz ∧ va_P (dC, dI) vwCl [(x0, .inr (7, [.ref (b 0), .ref (b 1), .ref (b 2), .ref (b 3), .ref (b 4), .ref (b 5), .ref (b 6), .ref (b 7), .ref (b 8), .ref (b 9), .int 1])), ((b 2), .inr (5, [.ref (f6 0), .ref (f6 1), .ref (f6 2), .ref (f6 3), .ref (f6 4), .ref (f6 5), .int 0, .int 0])), ((b 6), .inr (0, [.int 0, .ref (fT 1), .int 0, .ref (fT 3), .int 0, .ref (fT 5), .ref (fT 6), .ref (fT 7), .int 0, .ref (fT 9), .ref (fT 10), .ref (fT 11), .ref (fT 12), .ref (fT 13)]))] U.heap ∧ va_K (dC, dI) vwCl [] U ∧ va_D (fun _ => True) [(x0, .inr (7, [.ref (b 0), .ref (b 1), .ref (b 2), .ref (b 3), .ref (b 4), .ref (b 5), .ref (b 6), .ref (b 7), .ref (b 8), .ref (b 9), .int 1])), ((b 2), .inr (5, [.ref (f6 0), .ref (f6 1), .ref (f6 2), .ref (f6 3), .ref (f6 4), .ref (f6 5), .int 0, .int 0])), ((b 6), .inr (0, [.int 0, .ref (fT 1), .int 0, .ref (fT 3), .int 0, .ref (fT 5), .ref (fT 6), .ref (fT 7), .int 0, .ref (fT 9), .ref (fT 10), .ref (fT 11), .ref (fT 12), .ref (fT 13)]))] ∧ Ev g (va_A [(x0, .inr (7, [.ref (b 0), .ref (b 1), .ref (b 2), .ref (b 3), .ref (b 4), .ref (b 5), .ref (b 6), .ref (b 7), .ref (b 8), .ref (b 9), .int 1])), ((b 2), .inr (5, [.ref (f6 0), .ref (f6 1), .ref (f6 2), .ref (f6 3), .ref (f6 4), .ref (f6 5), .int 0, .int 0])), ((b 6), .inr (0, [.int 0, .ref (fT 1), .int 0, .ref (fT 3), .int 0, .ref (fT 5), .ref (fT 6), .ref (fT 7), .int 0, .ref (fT 9), .ref (fT 10), .ref (fT 11), .ref (fT 12), .ref (fT 13)]))] sz) U)) (va_Qi (fun (r : Int32) (u : Unit) => r = (-1)) (fun (_ : Unit) (_ : State) => True) (va_A [(x0, .inr (7, [.ref (b 0), .ref (b 1), .ref (b 2), .ref (b 3), .ref (b 4), .ref (b 5), .ref (b 6), .ref (b 7), .ref (b 8), .ref (b 9), .int 1])), ((b 2), .inr (5, [.ref (f6 0), .ref (f6 1), .ref (f6 2), .ref (f6 3), .ref (f6 4), .ref (f6 5), .int 0, .int 0])), ((b 6), .inr (0, [.int 0, .ref (fT 1), .int 0, .ref (fT 3), .int 0, .ref (fT 5), .ref (fT 6), .ref (fT 7), .int 0, .ref (fT 9), .ref (fT 10), .ref (fT 11), .ref (fT 12), .ref (fT 13)]))] sz)) 0 0 (va_A [(x0, .inr (7, [.ref (b 0), .ref (b 1), .ref (b 2), .ref (b 3), .ref (b 4), .ref (b 5), .ref (b 6), .ref (b 7), .ref (b 8), .ref (b 9), .int 1])), ((b 2), .inr (5, [.ref (f6 0), .ref (f6 1), .ref (f6 2), .ref (f6 3), .ref (f6 4), .ref (f6 5), .int 0, .int 0])), ((b 6), .inr (0, [.int 0, .ref (fT 1), .int 0, .ref (fT 3), .int 0, .ref (fT 5), .ref (fT 6), .ref (fT 7), .int 0, .ref (fT 9), .ref (fT 10), .ref (fT 11), .ref (fT 12), .ref (fT 13)]))] sz) := by
  refine Met.ofW (cc := cX8_next) (maxL := 9) (ret := (some .int)) (by decide) rfl ?_
  intro p e s m args below meth c s₁ B hml hv
  obtain ⟨rfl, hsz, hP, hK, hD0, hE⟩ := hv
  have hx := B.exec
  have hb := B.bytes
  have hr := B.returns
  have hts0 := atoms_spec (ws := (.code yX8_next cX8_next 9 (some .int) :: TBL)) B.pre
  have hts := fun (w : Cond) (h : w ∈ TBL) => hts0 w (List.mem_cons_of_mem _ h)
  have hown : s.vm.findClass RX8 = some m.cls := findClass_of_methodNamed B.named
  have hlocks := B.notSynchronized
  have hN := hE.1
  subst hsz
  have hD := hD0.self (sz := s.heap.size)
  generalize hAe : va_A [(x0, .inr (7, [.ref (b 0), .ref (b 1), .ref (b 2), .ref (b 3), .ref (b 4), .ref (b 5), .ref (b 6), .ref (b 7), .ref (b 8), .ref (b 9), .int 1])), ((b 2), .inr (5, [.ref (f6 0), .ref (f6 1), .ref (f6 2), .ref (f6 3), .ref (f6 4), .ref (f6 5), .int 0, .int 0])), ((b 6), .inr (0, [.int 0, .ref (fT 1), .int 0, .ref (fT 3), .int 0, .ref (fT 5), .ref (fT 6), .ref (fT 7), .int 0, .ref (fT 9), .ref (fT 10), .ref (fT 11), .ref (fT 12), .ref (fT 13)]))] s.heap.size = A at hD hE ⊢
  have hA : ∀ q : Nat, s.heap.size ≤ q → A q := fun q h => by rw [← hAe]; exact Or.inr h
  have hS : va_S A s.heap s.heap [] := va_S.rf
  have hP : va_P (dC, dI) vwCl [(x0, .inr (7, [.ref (b 0), .ref (b 1), .ref (b 2), .ref (b 3), .ref (b 4), .ref (b 5), .ref (b 6), .ref (b 7), .ref (b 8), .ref (b 9), .int 1])), ((b 2), .inr (5, [.ref (f6 0), .ref (f6 1), .ref (f6 2), .ref (f6 3), .ref (f6 4), .ref (f6 5), .int 0, .int 0])), ((b 6), .inr (0, [.int 0, .ref (fT 1), .int 0, .ref (fT 3), .int 0, .ref (fT 5), .ref (fT 6), .ref (fT 7), .int 0, .ref (fT 9), .ref (fT 10), .ref (fT 11), .ref (fT 12), .ref (fT 13)]))] s.heap := hP
  have hl := lv_entry ([.ref x0, .int (-1), .int (nI rn)]) (n := 9) (Nat.le_of_ble_eq_true rfl)
  rw [lg_entry_eq]
  generalize (lg_sl ([.ref x0, .int (-1), .int (nI rn)]) ++ List.replicate (9 - (lg_sl ([.ref x0, .int (-1), .int (nI rn)])).length) Slot.unset).toArray = ls at hl ⊢
  have hl : lv_has ls 9 [(0, .ref x0), (1, .int (-1)), (2, .int (nI rn))] := hl
  refine lv_iload_n hx hb dX8_next_0 rfl (lv_at hl 1 rfl) ?_
  refine lv_iconst (v := (-1)) hx hb dX8_next_1 (by decide) ?_
  refine lv_icmp_eq (tgt := 12) hx hb dX8_next_2 (by decide) (fun c2_1 => ?_) (fun c2_1 => by exfalso; exact absurd c2_1 (by decide))
  refine lv_iconst (v := 1) hx hb dX8_next_12 (by decide) ?_
  refine lv_goto (tgt := 17) hx hb dX8_next_13 (by decide) ?_
  refine lv_istore_n (lv' := [(3, .int 1), (0, .ref x0), (1, .int (-1)), (2, .int (nI rn))]) hx hb dX8_next_17 rfl hl (by decide) rfl (fun ls hl => ?_)
  refine lv_iload_n hx hb dX8_next_18 rfl (lv_at hl 0 rfl) ?_
  refine lv_if_eq (tgt := 29) hx hb dX8_next_19 (by decide) (fun c19_2 => by exfalso; exact absurd c19_2 (by decide)) (fun c19_2 => ?_)
  refine lv_iload_n hx hb dX8_next_22 rfl (lv_at hl 3 rfl) ?_
  have hPc := hP.sub (ws' := []) [] rfl
  have hKc := hK.sub (tys' := []) [] rfl
  refine vp_callSi ((va_runS (As := [.int (nI rn)]) (rest := []) ⟨hx, hb, hml, hown, hts⟩ (c_ar_in l dC dI g (rn) hrn) (va_cwS 1 hts (gwS qw_270 qw_271 qw_69 qw_269) rfl rfl rfl (by decide +kernel) ⟨Nat.le_of_ble_eq_true rfl, Nat.le_of_ble_eq_true rfl⟩) ⟨fun a U g9 mk q => ⟨q.1, q.2.1, va_K.moved (u := U) (U := U.calling g9 mk a) (Vm.Alike.refl U.vm) q.2.2.1, Ev.bl q.2.2.2⟩, fun U hU hW => ⟨rfl, by rw [hU]; exact hPc, va_K.moved hW.alike hKc, hE.go hS (fun _ h => h.elim) hU hW⟩⟩ rfl rfl hl.1 rfl (lv_room (Nat.le_of_ble_eq_true rfl)) dX8_next_23 ⟨Nat.le_of_ble_eq_true rfl, Nat.le_of_ble_eq_true rfl⟩)).run (fun r3 h_r3 => ?_)
  have h_r3 : r3 = 1 := h_r3
  subst h_r3
  refine lv_if_ne (tgt := 31) hx hb dX8_next_26 (by decide) (fun c26_4 => ?_) (fun c26_4 => by exfalso; exact absurd c26_4 (by decide))
  refine lv_aload_n hx hb dX8_next_31 rfl (lv_at hl 1 rfl) ?_
  have hPc := hP.sub (ws' := [(x0, .inr (7, [.ref (b 0), .ref (b 1), .ref (b 2), .ref (b 3), .ref (b 4), .ref (b 5), .ref (b 6), .ref (b 7), .ref (b 8), .ref (b 9), .int 1])), ((b 2), .inr (5, [.ref (f6 0), .ref (f6 1), .ref (f6 2), .ref (f6 3), .ref (f6 4), .ref (f6 5), .int 0, .int 0])), ((b 6), .inr (0, [.int 0, .ref (fT 1), .int 0, .ref (fT 3), .int 0, .ref (fT 5), .ref (fT 6), .ref (fT 7), .int 0, .ref (fT 9), .ref (fT 10), .ref (fT 11), .ref (fT 12), .ref (fT 13)]))]) [0, 1, 2] rfl
  have hKc := hK.sub (tys' := []) [] rfl
  have hDc := hD.sub (ws' := [(x0, .inr (7, [.ref (b 0), .ref (b 1), .ref (b 2), .ref (b 3), .ref (b 4), .ref (b 5), .ref (b 6), .ref (b 7), .ref (b 8), .ref (b 9), .int 1])), ((b 2), .inr (5, [.ref (f6 0), .ref (f6 1), .ref (f6 2), .ref (f6 3), .ref (f6 4), .ref (f6 5), .int 0, .int 0])), ((b 6), .inr (0, [.int 0, .ref (fT 1), .int 0, .ref (fT 3), .int 0, .ref (fT 5), .ref (fT 6), .ref (fT 7), .int 0, .ref (fT 9), .ref (fT 10), .ref (fT 11), .ref (fT 12), .ref (fT 13)]))]) [0, 1, 2] (by decide) rfl
  have hFc := va_free (wc := [(x0, .inr (7, [.ref (b 0), .ref (b 1), .ref (b 2), .ref (b 3), .ref (b 4), .ref (b 5), .ref (b 6), .ref (b 7), .ref (b 8), .ref (b 9), .int 1])), ((b 2), .inr (5, [.ref (f6 0), .ref (f6 1), .ref (f6 2), .ref (f6 3), .ref (f6 4), .ref (f6 5), .int 0, .int 0])), ((b 6), .inr (0, [.int 0, .ref (fT 1), .int 0, .ref (fT 3), .int 0, .ref (fT 5), .ref (fT 6), .ref (fT 7), .int 0, .ref (fT 9), .ref (fT 10), .ref (fT 11), .ref (fT 12), .ref (fT 13)]))]) hD hS hA [0, 1, 2] rfl
  refine va_callr (va_runV (As := []) (rest := []) ⟨hx, hb, hml, hown, hts⟩ (c_utd l dC dI g s.heap.size (x0) (b) (f4) (c4) (f5) (f7) (f6) (f2) (cK) (kf) (cZ) (fT) (fU) (sa) (sf) (sc) (spf) (sdf) (slf) (srf) (sga) (sgb) (rows) ) (cwV 0 hts (gwV qw_273 qw_274 qw_275 qw_69 qw_272) rfl rfl rfl (by decide +kernel) ⟨Nat.le_of_ble_eq_true rfl, Nat.le_of_ble_eq_true rfl⟩) ⟨fun a U g9 mk q => ⟨q.1, q.2.1, q.2.2.1, va_K.moved (u := U) (U := U.calling g9 mk a) (Vm.Alike.refl U.vm) q.2.2.2.1, q.2.2.2.2.1, Ev.bl q.2.2.2.2.2⟩, va_recv hK hP (ci := 7) (q0 := 0) rfl rfl, fun U hU hW => ⟨rfl, by rw [hU], by rw [hU]; exact hPc, va_K.moved hW.alike hKc, hDc.weaken (fun _ _ _ _ => trivial), hE.go hS hFc hU hW⟩⟩ rfl rfl hl.1 rfl (lv_room (Nat.le_of_ble_eq_true rfl)) dX8_next_32 ⟨Nat.le_of_ble_eq_true rfl, Nat.le_of_ble_eq_true rfl⟩) hS (fun q _ h => hFc q h) hFc (fun u5 r6 t H1 locs ht hvm h_u5 hB hz1 hk1 hS => ?_)
  obtain ⟨hrr, hP1, hK1, hD1⟩ := hB
  rw [ht] at hP1
  have hK1 := va_K.moved hvm.symm hK1
  obtain ⟨hP, hD⟩ := va_join (wr := []) (w1 := [(x0, .inr (7, [.ref (b 0), .ref (b 1), .ref (b 2), .ref (b 3), .ref (b 4), .ref (b 5), .ref (b 6), .ref (b 7), .ref (b 8), .ref (b 9), .int 0])), ((b 2), .inr (5, [.ref (f6 0), .ref (f6 1), .ref (f6 2), .ref (f6 3), .ref (f6 4), .ref (f6 5), .int 0, .int 0])), ((b 6), .inr (0, [.int 0, .ref (fT 1), .int 0, .ref (fT 3), .int 0, .ref (fT 5), .ref (fT 6), .ref (fT 7), .int 0, .ref (fT 9), .ref (fT 10), .ref (fT 11), .ref (fT 12), .ref (fT 13)]))]) hP hD [0, 1, 2] [] rfl rfl (by decide) (by decide) hk1 hFc hP1 hD1
  have hK := hK.app hK1
  have hK : va_K (dC, dI) vwCl [] s := hK
  generalize H1 = H at hP hS ⊢
  have hP : va_P (dC, dI) vwCl [(x0, .inr (7, [.ref (b 0), .ref (b 1), .ref (b 2), .ref (b 3), .ref (b 4), .ref (b 5), .ref (b 6), .ref (b 7), .ref (b 8), .ref (b 9), .int 0])), ((b 2), .inr (5, [.ref (f6 0), .ref (f6 1), .ref (f6 2), .ref (f6 3), .ref (f6 4), .ref (f6 5), .int 0, .int 0])), ((b 6), .inr (0, [.int 0, .ref (fT 1), .int 0, .ref (fT 3), .int 0, .ref (fT 5), .ref (fT 6), .ref (fT 7), .int 0, .ref (fT 9), .ref (fT 10), .ref (fT 11), .ref (fT 12), .ref (fT 13)]))] H := hP
  have hD : va_D A [(x0, .inr (7, [.ref (b 0), .ref (b 1), .ref (b 2), .ref (b 3), .ref (b 4), .ref (b 5), .ref (b 6), .ref (b 7), .ref (b 8), .ref (b 9), .int 0])), ((b 2), .inr (5, [.ref (f6 0), .ref (f6 1), .ref (f6 2), .ref (f6 3), .ref (f6 4), .ref (f6 5), .int 0, .int 0])), ((b 6), .inr (0, [.int 0, .ref (fT 1), .int 0, .ref (fT 3), .int 0, .ref (fT 5), .ref (fT 6), .ref (fT 7), .int 0, .ref (fT 9), .ref (fT 10), .ref (fT 11), .ref (fT 12), .ref (fT 13)]))] := hD
  refine W.widen (k := 0) (n := 0) (Nat.le_of_ble_eq_true rfl) (Nat.le_of_ble_eq_true rfl) ?_
  have hrr : r6 = (b 2) := hrr
  subst hrr
  refine lv_astore (lv' := [(4, .ref (b 2)), (3, .int 1), (0, .ref x0), (1, .int (-1)), (2, .int (nI rn))]) hx hb dX8_next_35 hl (by decide) rfl (fun ls hl => ?_)
  refine lv_aload_n hx hb dX8_next_37 rfl (lv_at hl 2 rfl) ?_
  refine va_get (D := (dC, dI)) (ci := 7) (v := .ref (b 6)) (C := RX8) (T := TX8) (N := 11) hx hb hts inlX8 hown hK hP 0 rfl rfl 6 (by decide) (hts (.fieldLink RX8 51 "ClosedUntil" "told" "LClosedUntil$Holdings;") qw_205) (fun _ h9 => h9) rfl dX8_next_38 ?_
  refine lv_iload_n hx hb dX8_next_41 rfl (lv_at hl 4 rfl) ?_
  have hPc := hP.sub (ws' := [((b 6), .inr (0, [.int 0, .ref (fT 1), .int 0, .ref (fT 3), .int 0, .ref (fT 5), .ref (fT 6), .ref (fT 7), .int 0, .ref (fT 9), .ref (fT 10), .ref (fT 11), .ref (fT 12), .ref (fT 13)]))]) [2] rfl
  have hKc := hK.sub (tys' := []) [] rfl
  refine vp_callSi ((va_runVN (As := [.int (nI rn)]) (rest := []) ⟨hx, hb, hml, hown, hts⟩ (c_hf l dC dI g ((b 6)) (fT) ((nI rn)) ) ⟨va_cnB 1 hts (gwC qw_276) rfl rfl rfl (nm_36 hN) (hts (.initialized RX1) qw_202) (by decide +kernel) ⟨Nat.le_of_ble_eq_true rfl, Nat.le_of_ble_eq_true rfl⟩, (hts (.instanceMethod yX1_holdingFor) qw_277), (hts (.selects RX1 yX1_holdingFor yX1_holdingFor) qw_278)⟩ ⟨fun a U g9 mk q => ⟨q.1, q.2.1, va_K.moved (u := U) (U := U.calling g9 mk a) (Vm.Alike.refl U.vm) q.2.2.1, Ev.bl q.2.2.2⟩, va_recv hK hP (ci := 0) (q0 := 2) rfl rfl, fun U hU hW => ⟨rfl, by rw [hU]; exact hPc, va_K.moved hW.alike hKc, hE.go hS (fun _ h => h.elim) hU hW⟩⟩ rfl rfl hl.1 rfl (lv_room (Nat.le_of_ble_eq_true rfl)) dX8_next_42 ⟨Nat.le_of_ble_eq_true rfl, Nat.le_of_ble_eq_true rfl⟩)).run (fun r7 h_r7 => ?_)
  have h_r7 : r7 = 0 := h_r7
  subst h_r7
  refine lv_istore (lv' := [(5, .int 0), (4, .ref (b 2)), (3, .int 1), (0, .ref x0), (1, .int (-1)), (2, .int (nI rn))]) hx hb dX8_next_45 hl (by decide) rfl (fun ls hl => ?_)
  refine lv_iconst (v := (-1)) hx hb dX8_next_47 (by decide) ?_
  refine lv_istore (lv' := [(6, .int (-1)), (5, .int 0), (4, .ref (b 2)), (3, .int 1), (0, .ref x0), (1, .int (-1)), (2, .int (nI rn))]) hx hb dX8_next_48 hl (by decide) rfl (fun ls hl => ?_)
  refine lv_iconst (v := 0) hx hb dX8_next_50 (by decide) ?_
  refine lv_istore (lv' := [(7, .int 0), (6, .int (-1)), (5, .int 0), (4, .ref (b 2)), (3, .int 1), (0, .ref x0), (1, .int (-1)), (2, .int (nI rn))]) hx hb dX8_next_51 hl (by decide) rfl (fun ls hl => ?_)
  refine lv_iload hx hb dX8_next_53 (lv_at hl 0 rfl) ?_
  refine lv_aload_n hx hb dX8_next_55 rfl (lv_at hl 5 rfl) ?_
  refine va_get (D := (dC, dI)) (ci := 7) (v := .ref (b 6)) (C := RX8) (T := TX8) (N := 11) hx hb hts inlX8 hown hK hP 0 rfl rfl 6 (by decide) (hts (.fieldLink RX8 51 "ClosedUntil" "told" "LClosedUntil$Holdings;") qw_205) (fun _ h9 => h9) rfl dX8_next_56 ?_
  refine va_getN (D := (dC, dI)) (ci := 0) (v := .int 0) (C := RX1) (T := TX1) (N := 14) hx hb hts inlX1 hown hK hP 2 rfl rfl 4 (by decide) (va_Nw.use rfl (nf_37 hN)) (fun _ h9 => h9) rfl dX8_next_59 ?_
  refine lv_icmp_ge (tgt := 105) hx hb dX8_next_62 (by decide) (fun c62_8 => ?_) (fun c62_8 => by exfalso; exact absurd c62_8 (by decide))
  refine lv_iload hx hb dX8_next_105 (lv_at hl 1 rfl) ?_
  refine W.widen (k := 0) (n := 0) (Nat.le_of_ble_eq_true rfl) (Nat.le_of_ble_eq_true rfl) ?_
  exact W.iret (v := (-1)) hx hb hr (fun t ht hW => ⟨⟨(-1), (), rfl, (rfl), trivial⟩, hS.F ht⟩) hS.2.2 dX8_next_107
set_option maxHeartbeats 4000000 in
set_option maxRecDepth 100000 in
theorem c_8next_C (l : Launch) (dC : Nat → ClassId) (dI : Nat → Nat → Nat) (g : Gv) (sz : Nat) (x0 : Nat) (b : Nat → Nat) (f4 : Nat → Nat) (c4 : ClassId) (f5 : Nat → Nat) (f7 : Nat → Nat) (f6 : Nat → Nat) (f2 : Nat → Nat) (cK : ClassId) (kf : Nat → Option Nat) (cZ : ClassId) (fT : Nat → Nat) (fU : Nat → Nat) (sa : Nat → Nat) (sf : Nat → Nat → Nat) (sc : Nat → Nat → ClassId) (spf : Nat → Nat → Int32) (sdf : Nat → Nat → Int32) (slf : Nat → Nat → Int32) (srf : Nat → Nat → Int32) (sga : Nat → Nat → Option Nat) (sgb : Nat → Nat → Option Nat) (rows : va_W) (dn : Nat) (re : Int32) (hdn : dn ≤ 219145) (hro0 : ¬ (0 ≤ re.toInt ∧ re.toInt ≤ 15)) : Met l yX8_next (.code yX8_next cX8_next 9 (some .int) :: TBL) ({ frames := 3, cells := 0, slots := 0, locals := 180 }) (va_Pc [.ref x0, .int (nI dn), .int re] (fun U => U.heap.size = sz ∧ va_P (dC, dI) vwCl [(x0, .inr (7, [.ref (b 0), .ref (b 1), .ref (b 2), .ref (b 3), .ref (b 4), .ref (b 5), .ref (b 6), .ref (b 7), .ref (b 8), .ref (b 9), .int 1])), ((b 2), .inr (5, [.ref (f6 0), .ref (f6 1), .ref (f6 2), .ref (f6 3), .ref (f6 4), .ref (f6 5), .int 0, .int 0])), ((b 6), .inr (0, [.int 0, .ref (fT 1), .int 0, .ref (fT 3), .int 0, .ref (fT 5), .ref (fT 6), .ref (fT 7), .int 0, .ref (fT 9), .ref (fT 10), .ref (fT 11), .ref (fT 12), .ref (fT 13)]))] U.heap ∧ va_K (dC, dI) vwCl [] U ∧ va_D (fun _ => True) [(x0, .inr (7, [.ref (b 0), .ref (b 1), .ref (b 2), .ref (b 3), .ref (b 4), .ref (b 5), .ref (b 6), .ref (b 7), .ref (b 8), .ref (b 9), .int 1])), ((b 2), .inr (5, [.ref (f6 0), .ref (f6 1), .ref (f6 2), .ref (f6 3), .ref (f6 4), .ref (f6 5), .int 0, .int 0])), ((b 6), .inr (0, [.int 0, .ref (fT 1), .int 0, .ref (fT 3), .int 0, .ref (fT 5), .ref (fT 6), .ref (fT 7), .int 0, .ref (fT 9), .ref (fT 10), .ref (fT 11), .ref (fT 12), .ref (fT 13)]))] ∧ Ev g (va_A [(x0, .inr (7, [.ref (b 0), .ref (b 1), .ref (b 2), .ref (b 3), .ref (b 4), .ref (b 5), .ref (b 6), .ref (b 7), .ref (b 8), .ref (b 9), .int 1])), ((b 2), .inr (5, [.ref (f6 0), .ref (f6 1), .ref (f6 2), .ref (f6 3), .ref (f6 4), .ref (f6 5), .int 0, .int 0])), ((b 6), .inr (0, [.int 0, .ref (fT 1), .int 0, .ref (fT 3), .int 0, .ref (fT 5), .ref (fT 6), .ref (fT 7), .int 0, .ref (fT 9), .ref (fT 10), .ref (fT 11), .ref (fT 12), .ref (fT 13)]))] sz) U)) (va_Qi (fun (r : Int32) (u : Unit) => r = (-1)) (fun (_ : Unit) (_ : State) => True) (va_A [(x0, .inr (7, [.ref (b 0), .ref (b 1), .ref (b 2), .ref (b 3), .ref (b 4), .ref (b 5), .ref (b 6), .ref (b 7), .ref (b 8), .ref (b 9), .int 1])), ((b 2), .inr (5, [.ref (f6 0), .ref (f6 1), .ref (f6 2), .ref (f6 3), .ref (f6 4), .ref (f6 5), .int 0, .int 0])), ((b 6), .inr (0, [.int 0, .ref (fT 1), .int 0, .ref (fT 3), .int 0, .ref (fT 5), .ref (fT 6), .ref (fT 7), .int 0, .ref (fT 9), .ref (fT 10), .ref (fT 11), .ref (fT 12), .ref (fT 13)]))] sz)) 0 0 (va_A [(x0, .inr (7, [.ref (b 0), .ref (b 1), .ref (b 2), .ref (b 3), .ref (b 4), .ref (b 5), .ref (b 6), .ref (b 7), .ref (b 8), .ref (b 9), .int 1])), ((b 2), .inr (5, [.ref (f6 0), .ref (f6 1), .ref (f6 2), .ref (f6 3), .ref (f6 4), .ref (f6 5), .int 0, .int 0])), ((b 6), .inr (0, [.int 0, .ref (fT 1), .int 0, .ref (fT 3), .int 0, .ref (fT 5), .ref (fT 6), .ref (fT 7), .int 0, .ref (fT 9), .ref (fT 10), .ref (fT 11), .ref (fT 12), .ref (fT 13)]))] sz) := by
  refine Met.ofW (cc := cX8_next) (maxL := 9) (ret := (some .int)) (by decide) rfl ?_
  intro p e s m args below meth c s₁ B hml hv
  obtain ⟨rfl, hsz, hP, hK, hD0, hE⟩ := hv
  have hx := B.exec
  have hb := B.bytes
  have hr := B.returns
  have hts0 := atoms_spec (ws := (.code yX8_next cX8_next 9 (some .int) :: TBL)) B.pre
  have hts := fun (w : Cond) (h : w ∈ TBL) => hts0 w (List.mem_cons_of_mem _ h)
  have hown : s.vm.findClass RX8 = some m.cls := findClass_of_methodNamed B.named
  have hlocks := B.notSynchronized
  have hN := hE.1
  subst hsz
  have hD := hD0.self (sz := s.heap.size)
  generalize hAe : va_A [(x0, .inr (7, [.ref (b 0), .ref (b 1), .ref (b 2), .ref (b 3), .ref (b 4), .ref (b 5), .ref (b 6), .ref (b 7), .ref (b 8), .ref (b 9), .int 1])), ((b 2), .inr (5, [.ref (f6 0), .ref (f6 1), .ref (f6 2), .ref (f6 3), .ref (f6 4), .ref (f6 5), .int 0, .int 0])), ((b 6), .inr (0, [.int 0, .ref (fT 1), .int 0, .ref (fT 3), .int 0, .ref (fT 5), .ref (fT 6), .ref (fT 7), .int 0, .ref (fT 9), .ref (fT 10), .ref (fT 11), .ref (fT 12), .ref (fT 13)]))] s.heap.size = A at hD hE ⊢
  have hA : ∀ q : Nat, s.heap.size ≤ q → A q := fun q h => by rw [← hAe]; exact Or.inr h
  have hS : va_S A s.heap s.heap [] := va_S.rf
  have hP : va_P (dC, dI) vwCl [(x0, .inr (7, [.ref (b 0), .ref (b 1), .ref (b 2), .ref (b 3), .ref (b 4), .ref (b 5), .ref (b 6), .ref (b 7), .ref (b 8), .ref (b 9), .int 1])), ((b 2), .inr (5, [.ref (f6 0), .ref (f6 1), .ref (f6 2), .ref (f6 3), .ref (f6 4), .ref (f6 5), .int 0, .int 0])), ((b 6), .inr (0, [.int 0, .ref (fT 1), .int 0, .ref (fT 3), .int 0, .ref (fT 5), .ref (fT 6), .ref (fT 7), .int 0, .ref (fT 9), .ref (fT 10), .ref (fT 11), .ref (fT 12), .ref (fT 13)]))] s.heap := hP
  have hl := lv_entry ([.ref x0, .int (nI dn), .int re]) (n := 9) (Nat.le_of_ble_eq_true rfl)
  rw [lg_entry_eq]
  generalize (lg_sl ([.ref x0, .int (nI dn), .int re]) ++ List.replicate (9 - (lg_sl ([.ref x0, .int (nI dn), .int re])).length) Slot.unset).toArray = ls at hl ⊢
  have hl : lv_has ls 9 [(0, .ref x0), (1, .int (nI dn)), (2, .int re)] := hl
  refine lv_iload_n hx hb dX8_next_0 rfl (lv_at hl 1 rfl) ?_
  refine lv_iconst (v := (-1)) hx hb dX8_next_1 (by decide) ?_
  refine lv_icmp_eq (tgt := 12) hx hb dX8_next_2 (by decide) (fun c2_1 => by exfalso; have c2_1 : ((dn : Nat) : Int) = (-1) := (cv_eq (nI_toInt (by omega)) (by decide)).mp c2_1; omega) (fun c2_1 => ?_)
  have c2_1 : ¬ (((dn : Nat) : Int) = (-1)) := mt (cv_eq (nI_toInt (by omega)) (by decide)).mpr c2_1
  refine lv_iload_n hx hb dX8_next_5 rfl (lv_at hl 1 rfl) ?_
  have hPc := hP.sub (ws' := []) [] rfl
  have hKc := hK.sub (tys' := []) [] rfl
  refine vp_callSi ((va_runS (As := [.int (nI dn)]) (rest := []) ⟨hx, hb, hml, hown, hts⟩ (c_dl_in l dC dI g (dn) hdn) (va_cwS 1 hts (gwS qw_70 qw_71 qw_69 qw_68) rfl rfl rfl (by decide +kernel) ⟨Nat.le_of_ble_eq_true rfl, Nat.le_of_ble_eq_true rfl⟩) ⟨fun a U g9 mk q => ⟨q.1, q.2.1, va_K.moved (u := U) (U := U.calling g9 mk a) (Vm.Alike.refl U.vm) q.2.2.1, Ev.bl q.2.2.2⟩, fun U hU hW => ⟨rfl, by rw [hU]; exact hPc, va_K.moved hW.alike hKc, hE.go hS (fun _ h => h.elim) hU hW⟩⟩ rfl rfl hl.1 rfl (lv_room (Nat.le_of_ble_eq_true rfl)) dX8_next_6 ⟨Nat.le_of_ble_eq_true rfl, Nat.le_of_ble_eq_true rfl⟩)).run (fun r2 h_r2 => ?_)
  have h_r2 : r2 = 1 := h_r2
  subst h_r2
  refine lv_if_eq (tgt := 16) hx hb dX8_next_9 (by decide) (fun c9_3 => by exfalso; exact absurd c9_3 (by decide)) (fun c9_3 => ?_)
  refine lv_iconst (v := 1) hx hb dX8_next_12 (by decide) ?_
  refine lv_goto (tgt := 17) hx hb dX8_next_13 (by decide) ?_
  refine lv_istore_n (lv' := [(3, .int 1), (0, .ref x0), (1, .int (nI dn)), (2, .int re)]) hx hb dX8_next_17 rfl hl (by decide) rfl (fun ls hl => ?_)
  refine lv_iload_n hx hb dX8_next_18 rfl (lv_at hl 0 rfl) ?_
  refine lv_if_eq (tgt := 29) hx hb dX8_next_19 (by decide) (fun c19_4 => by exfalso; exact absurd c19_4 (by decide)) (fun c19_4 => ?_)
  refine lv_iload_n hx hb dX8_next_22 rfl (lv_at hl 3 rfl) ?_
  have hPc := hP.sub (ws' := []) [] rfl
  have hKc := hK.sub (tys' := []) [] rfl
  refine vp_callSi ((va_runS (As := [.int re]) (rest := []) ⟨hx, hb, hml, hown, hts⟩ (c_ar_out l dC dI g (re) hro0) (va_cwS 1 hts (gwS qw_270 qw_271 qw_69 qw_269) rfl rfl rfl (by decide +kernel) ⟨Nat.le_of_ble_eq_true rfl, Nat.le_of_ble_eq_true rfl⟩) ⟨fun a U g9 mk q => ⟨q.1, q.2.1, va_K.moved (u := U) (U := U.calling g9 mk a) (Vm.Alike.refl U.vm) q.2.2.1, Ev.bl q.2.2.2⟩, fun U hU hW => ⟨rfl, by rw [hU]; exact hPc, va_K.moved hW.alike hKc, hE.go hS (fun _ h => h.elim) hU hW⟩⟩ rfl rfl hl.1 rfl (lv_room (Nat.le_of_ble_eq_true rfl)) dX8_next_23 ⟨Nat.le_of_ble_eq_true rfl, Nat.le_of_ble_eq_true rfl⟩)).run (fun r5 h_r5 => ?_)
  have h_r5 : r5 = 0 := h_r5
  subst h_r5
  refine lv_if_ne (tgt := 31) hx hb dX8_next_26 (by decide) (fun c26_6 => by exfalso; exact absurd c26_6 (by decide)) (fun c26_6 => ?_)
  refine lv_iconst (v := (-1)) hx hb dX8_next_29 (by decide) ?_
  refine W.widen (k := 0) (n := 0) (Nat.le_of_ble_eq_true rfl) (Nat.le_of_ble_eq_true rfl) ?_
  exact W.iret (v := (-1)) hx hb hr (fun t ht hW => ⟨⟨(-1), (), rfl, (rfl), trivial⟩, hS.F ht⟩) hS.2.2 dX8_next_30
set_option maxHeartbeats 4000000 in
set_option maxRecDepth 100000 in
theorem c_8next_N (l : Launch) (dC : Nat → ClassId) (dI : Nat → Nat → Nat) (g : Gv) (sz : Nat) (x0 : Nat) (b : Nat → Nat) (f4 : Nat → Nat) (c4 : ClassId) (f5 : Nat → Nat) (f7 : Nat → Nat) (f6 : Nat → Nat) (f2 : Nat → Nat) (cK : ClassId) (kf : Nat → Option Nat) (cZ : ClassId) (fT : Nat → Nat) (fU : Nat → Nat) (sa : Nat → Nat) (sf : Nat → Nat → Nat) (sc : Nat → Nat → ClassId) (spf : Nat → Nat → Int32) (sdf : Nat → Nat → Int32) (slf : Nat → Nat → Int32) (srf : Nat → Nat → Int32) (sga : Nat → Nat → Option Nat) (sgb : Nat → Nat → Option Nat) (rows : va_W) (re : Int32) (hro0 : ¬ (0 ≤ re.toInt ∧ re.toInt ≤ 15)) : Met l yX8_next (.code yX8_next cX8_next 9 (some .int) :: TBL) ({ frames := 3, cells := 0, slots := 0, locals := 180 }) (va_Pc [.ref x0, .int (-1), .int re] (fun U => U.heap.size = sz ∧ va_P (dC, dI) vwCl [(x0, .inr (7, [.ref (b 0), .ref (b 1), .ref (b 2), .ref (b 3), .ref (b 4), .ref (b 5), .ref (b 6), .ref (b 7), .ref (b 8), .ref (b 9), .int 1])), ((b 2), .inr (5, [.ref (f6 0), .ref (f6 1), .ref (f6 2), .ref (f6 3), .ref (f6 4), .ref (f6 5), .int 0, .int 0])), ((b 6), .inr (0, [.int 0, .ref (fT 1), .int 0, .ref (fT 3), .int 0, .ref (fT 5), .ref (fT 6), .ref (fT 7), .int 0, .ref (fT 9), .ref (fT 10), .ref (fT 11), .ref (fT 12), .ref (fT 13)]))] U.heap ∧ va_K (dC, dI) vwCl [] U ∧ va_D (fun _ => True) [(x0, .inr (7, [.ref (b 0), .ref (b 1), .ref (b 2), .ref (b 3), .ref (b 4), .ref (b 5), .ref (b 6), .ref (b 7), .ref (b 8), .ref (b 9), .int 1])), ((b 2), .inr (5, [.ref (f6 0), .ref (f6 1), .ref (f6 2), .ref (f6 3), .ref (f6 4), .ref (f6 5), .int 0, .int 0])), ((b 6), .inr (0, [.int 0, .ref (fT 1), .int 0, .ref (fT 3), .int 0, .ref (fT 5), .ref (fT 6), .ref (fT 7), .int 0, .ref (fT 9), .ref (fT 10), .ref (fT 11), .ref (fT 12), .ref (fT 13)]))] ∧ Ev g (va_A [(x0, .inr (7, [.ref (b 0), .ref (b 1), .ref (b 2), .ref (b 3), .ref (b 4), .ref (b 5), .ref (b 6), .ref (b 7), .ref (b 8), .ref (b 9), .int 1])), ((b 2), .inr (5, [.ref (f6 0), .ref (f6 1), .ref (f6 2), .ref (f6 3), .ref (f6 4), .ref (f6 5), .int 0, .int 0])), ((b 6), .inr (0, [.int 0, .ref (fT 1), .int 0, .ref (fT 3), .int 0, .ref (fT 5), .ref (fT 6), .ref (fT 7), .int 0, .ref (fT 9), .ref (fT 10), .ref (fT 11), .ref (fT 12), .ref (fT 13)]))] sz) U)) (va_Qi (fun (r : Int32) (u : Unit) => r = (-1)) (fun (_ : Unit) (_ : State) => True) (va_A [(x0, .inr (7, [.ref (b 0), .ref (b 1), .ref (b 2), .ref (b 3), .ref (b 4), .ref (b 5), .ref (b 6), .ref (b 7), .ref (b 8), .ref (b 9), .int 1])), ((b 2), .inr (5, [.ref (f6 0), .ref (f6 1), .ref (f6 2), .ref (f6 3), .ref (f6 4), .ref (f6 5), .int 0, .int 0])), ((b 6), .inr (0, [.int 0, .ref (fT 1), .int 0, .ref (fT 3), .int 0, .ref (fT 5), .ref (fT 6), .ref (fT 7), .int 0, .ref (fT 9), .ref (fT 10), .ref (fT 11), .ref (fT 12), .ref (fT 13)]))] sz)) 0 0 (va_A [(x0, .inr (7, [.ref (b 0), .ref (b 1), .ref (b 2), .ref (b 3), .ref (b 4), .ref (b 5), .ref (b 6), .ref (b 7), .ref (b 8), .ref (b 9), .int 1])), ((b 2), .inr (5, [.ref (f6 0), .ref (f6 1), .ref (f6 2), .ref (f6 3), .ref (f6 4), .ref (f6 5), .int 0, .int 0])), ((b 6), .inr (0, [.int 0, .ref (fT 1), .int 0, .ref (fT 3), .int 0, .ref (fT 5), .ref (fT 6), .ref (fT 7), .int 0, .ref (fT 9), .ref (fT 10), .ref (fT 11), .ref (fT 12), .ref (fT 13)]))] sz) := by
  refine Met.ofW (cc := cX8_next) (maxL := 9) (ret := (some .int)) (by decide) rfl ?_
  intro p e s m args below meth c s₁ B hml hv
  obtain ⟨rfl, hsz, hP, hK, hD0, hE⟩ := hv
  have hx := B.exec
  have hb := B.bytes
  have hr := B.returns
  have hts0 := atoms_spec (ws := (.code yX8_next cX8_next 9 (some .int) :: TBL)) B.pre
  have hts := fun (w : Cond) (h : w ∈ TBL) => hts0 w (List.mem_cons_of_mem _ h)
  have hown : s.vm.findClass RX8 = some m.cls := findClass_of_methodNamed B.named
  have hlocks := B.notSynchronized
  have hN := hE.1
  subst hsz
  have hD := hD0.self (sz := s.heap.size)
  generalize hAe : va_A [(x0, .inr (7, [.ref (b 0), .ref (b 1), .ref (b 2), .ref (b 3), .ref (b 4), .ref (b 5), .ref (b 6), .ref (b 7), .ref (b 8), .ref (b 9), .int 1])), ((b 2), .inr (5, [.ref (f6 0), .ref (f6 1), .ref (f6 2), .ref (f6 3), .ref (f6 4), .ref (f6 5), .int 0, .int 0])), ((b 6), .inr (0, [.int 0, .ref (fT 1), .int 0, .ref (fT 3), .int 0, .ref (fT 5), .ref (fT 6), .ref (fT 7), .int 0, .ref (fT 9), .ref (fT 10), .ref (fT 11), .ref (fT 12), .ref (fT 13)]))] s.heap.size = A at hD hE ⊢
  have hA : ∀ q : Nat, s.heap.size ≤ q → A q := fun q h => by rw [← hAe]; exact Or.inr h
  have hS : va_S A s.heap s.heap [] := va_S.rf
  have hP : va_P (dC, dI) vwCl [(x0, .inr (7, [.ref (b 0), .ref (b 1), .ref (b 2), .ref (b 3), .ref (b 4), .ref (b 5), .ref (b 6), .ref (b 7), .ref (b 8), .ref (b 9), .int 1])), ((b 2), .inr (5, [.ref (f6 0), .ref (f6 1), .ref (f6 2), .ref (f6 3), .ref (f6 4), .ref (f6 5), .int 0, .int 0])), ((b 6), .inr (0, [.int 0, .ref (fT 1), .int 0, .ref (fT 3), .int 0, .ref (fT 5), .ref (fT 6), .ref (fT 7), .int 0, .ref (fT 9), .ref (fT 10), .ref (fT 11), .ref (fT 12), .ref (fT 13)]))] s.heap := hP
  have hl := lv_entry ([.ref x0, .int (-1), .int re]) (n := 9) (Nat.le_of_ble_eq_true rfl)
  rw [lg_entry_eq]
  generalize (lg_sl ([.ref x0, .int (-1), .int re]) ++ List.replicate (9 - (lg_sl ([.ref x0, .int (-1), .int re])).length) Slot.unset).toArray = ls at hl ⊢
  have hl : lv_has ls 9 [(0, .ref x0), (1, .int (-1)), (2, .int re)] := hl
  refine lv_iload_n hx hb dX8_next_0 rfl (lv_at hl 1 rfl) ?_
  refine lv_iconst (v := (-1)) hx hb dX8_next_1 (by decide) ?_
  refine lv_icmp_eq (tgt := 12) hx hb dX8_next_2 (by decide) (fun c2_1 => ?_) (fun c2_1 => by exfalso; exact absurd c2_1 (by decide))
  refine lv_iconst (v := 1) hx hb dX8_next_12 (by decide) ?_
  refine lv_goto (tgt := 17) hx hb dX8_next_13 (by decide) ?_
  refine lv_istore_n (lv' := [(3, .int 1), (0, .ref x0), (1, .int (-1)), (2, .int re)]) hx hb dX8_next_17 rfl hl (by decide) rfl (fun ls hl => ?_)
  refine lv_iload_n hx hb dX8_next_18 rfl (lv_at hl 0 rfl) ?_
  refine lv_if_eq (tgt := 29) hx hb dX8_next_19 (by decide) (fun c19_2 => by exfalso; exact absurd c19_2 (by decide)) (fun c19_2 => ?_)
  refine lv_iload_n hx hb dX8_next_22 rfl (lv_at hl 3 rfl) ?_
  have hPc := hP.sub (ws' := []) [] rfl
  have hKc := hK.sub (tys' := []) [] rfl
  refine vp_callSi ((va_runS (As := [.int re]) (rest := []) ⟨hx, hb, hml, hown, hts⟩ (c_ar_out l dC dI g (re) hro0) (va_cwS 1 hts (gwS qw_270 qw_271 qw_69 qw_269) rfl rfl rfl (by decide +kernel) ⟨Nat.le_of_ble_eq_true rfl, Nat.le_of_ble_eq_true rfl⟩) ⟨fun a U g9 mk q => ⟨q.1, q.2.1, va_K.moved (u := U) (U := U.calling g9 mk a) (Vm.Alike.refl U.vm) q.2.2.1, Ev.bl q.2.2.2⟩, fun U hU hW => ⟨rfl, by rw [hU]; exact hPc, va_K.moved hW.alike hKc, hE.go hS (fun _ h => h.elim) hU hW⟩⟩ rfl rfl hl.1 rfl (lv_room (Nat.le_of_ble_eq_true rfl)) dX8_next_23 ⟨Nat.le_of_ble_eq_true rfl, Nat.le_of_ble_eq_true rfl⟩)).run (fun r3 h_r3 => ?_)
  have h_r3 : r3 = 0 := h_r3
  subst h_r3
  refine lv_if_ne (tgt := 31) hx hb dX8_next_26 (by decide) (fun c26_4 => by exfalso; exact absurd c26_4 (by decide)) (fun c26_4 => ?_)
  refine lv_iconst (v := (-1)) hx hb dX8_next_29 (by decide) ?_
  refine W.widen (k := 0) (n := 0) (Nat.le_of_ble_eq_true rfl) (Nat.le_of_ble_eq_true rfl) ?_
  exact W.iret (v := (-1)) hx hb hr (fun t ht hW => ⟨⟨(-1), (), rfl, (rfl), trivial⟩, hS.F ht⟩) hS.2.2 dX8_next_30
set_option maxHeartbeats 4000000 in
set_option maxRecDepth 100000 in
theorem c_8next_B (l : Launch) (dC : Nat → ClassId) (dI : Nat → Nat → Nat) (g : Gv) (sz : Nat) (x0 : Nat) (b : Nat → Nat) (f4 : Nat → Nat) (c4 : ClassId) (f5 : Nat → Nat) (f7 : Nat → Nat) (f6 : Nat → Nat) (f2 : Nat → Nat) (cK : ClassId) (kf : Nat → Option Nat) (cZ : ClassId) (fT : Nat → Nat) (fU : Nat → Nat) (sa : Nat → Nat) (sf : Nat → Nat → Nat) (sc : Nat → Nat → ClassId) (spf : Nat → Nat → Int32) (sdf : Nat → Nat → Int32) (slf : Nat → Nat → Int32) (srf : Nat → Nat → Int32) (sga : Nat → Nat → Option Nat) (sgb : Nat → Nat → Option Nat) (rows : va_W) (da : Int32) (re : Int32) (hdo : ¬ (0 ≤ da.toInt ∧ da.toInt ≤ 219145)) (hm1 : da.toInt ≠ -1) : Met l yX8_next (.code yX8_next cX8_next 9 (some .int) :: TBL) ({ frames := 3, cells := 0, slots := 0, locals := 180 }) (va_Pc [.ref x0, .int da, .int re] (fun U => U.heap.size = sz ∧ va_P (dC, dI) vwCl [(x0, .inr (7, [.ref (b 0), .ref (b 1), .ref (b 2), .ref (b 3), .ref (b 4), .ref (b 5), .ref (b 6), .ref (b 7), .ref (b 8), .ref (b 9), .int 1])), ((b 2), .inr (5, [.ref (f6 0), .ref (f6 1), .ref (f6 2), .ref (f6 3), .ref (f6 4), .ref (f6 5), .int 0, .int 0])), ((b 6), .inr (0, [.int 0, .ref (fT 1), .int 0, .ref (fT 3), .int 0, .ref (fT 5), .ref (fT 6), .ref (fT 7), .int 0, .ref (fT 9), .ref (fT 10), .ref (fT 11), .ref (fT 12), .ref (fT 13)]))] U.heap ∧ va_K (dC, dI) vwCl [] U ∧ va_D (fun _ => True) [(x0, .inr (7, [.ref (b 0), .ref (b 1), .ref (b 2), .ref (b 3), .ref (b 4), .ref (b 5), .ref (b 6), .ref (b 7), .ref (b 8), .ref (b 9), .int 1])), ((b 2), .inr (5, [.ref (f6 0), .ref (f6 1), .ref (f6 2), .ref (f6 3), .ref (f6 4), .ref (f6 5), .int 0, .int 0])), ((b 6), .inr (0, [.int 0, .ref (fT 1), .int 0, .ref (fT 3), .int 0, .ref (fT 5), .ref (fT 6), .ref (fT 7), .int 0, .ref (fT 9), .ref (fT 10), .ref (fT 11), .ref (fT 12), .ref (fT 13)]))] ∧ Ev g (va_A [(x0, .inr (7, [.ref (b 0), .ref (b 1), .ref (b 2), .ref (b 3), .ref (b 4), .ref (b 5), .ref (b 6), .ref (b 7), .ref (b 8), .ref (b 9), .int 1])), ((b 2), .inr (5, [.ref (f6 0), .ref (f6 1), .ref (f6 2), .ref (f6 3), .ref (f6 4), .ref (f6 5), .int 0, .int 0])), ((b 6), .inr (0, [.int 0, .ref (fT 1), .int 0, .ref (fT 3), .int 0, .ref (fT 5), .ref (fT 6), .ref (fT 7), .int 0, .ref (fT 9), .ref (fT 10), .ref (fT 11), .ref (fT 12), .ref (fT 13)]))] sz) U)) (va_Qi (fun (r : Int32) (u : Unit) => r = (-1)) (fun (_ : Unit) (_ : State) => True) (va_A [(x0, .inr (7, [.ref (b 0), .ref (b 1), .ref (b 2), .ref (b 3), .ref (b 4), .ref (b 5), .ref (b 6), .ref (b 7), .ref (b 8), .ref (b 9), .int 1])), ((b 2), .inr (5, [.ref (f6 0), .ref (f6 1), .ref (f6 2), .ref (f6 3), .ref (f6 4), .ref (f6 5), .int 0, .int 0])), ((b 6), .inr (0, [.int 0, .ref (fT 1), .int 0, .ref (fT 3), .int 0, .ref (fT 5), .ref (fT 6), .ref (fT 7), .int 0, .ref (fT 9), .ref (fT 10), .ref (fT 11), .ref (fT 12), .ref (fT 13)]))] sz)) 0 0 (va_A [(x0, .inr (7, [.ref (b 0), .ref (b 1), .ref (b 2), .ref (b 3), .ref (b 4), .ref (b 5), .ref (b 6), .ref (b 7), .ref (b 8), .ref (b 9), .int 1])), ((b 2), .inr (5, [.ref (f6 0), .ref (f6 1), .ref (f6 2), .ref (f6 3), .ref (f6 4), .ref (f6 5), .int 0, .int 0])), ((b 6), .inr (0, [.int 0, .ref (fT 1), .int 0, .ref (fT 3), .int 0, .ref (fT 5), .ref (fT 6), .ref (fT 7), .int 0, .ref (fT 9), .ref (fT 10), .ref (fT 11), .ref (fT 12), .ref (fT 13)]))] sz) := by
  refine Met.ofW (cc := cX8_next) (maxL := 9) (ret := (some .int)) (by decide) rfl ?_
  intro p e s m args below meth c s₁ B hml hv
  obtain ⟨rfl, hsz, hP, hK, hD0, hE⟩ := hv
  have hx := B.exec
  have hb := B.bytes
  have hr := B.returns
  have hts0 := atoms_spec (ws := (.code yX8_next cX8_next 9 (some .int) :: TBL)) B.pre
  have hts := fun (w : Cond) (h : w ∈ TBL) => hts0 w (List.mem_cons_of_mem _ h)
  have hown : s.vm.findClass RX8 = some m.cls := findClass_of_methodNamed B.named
  have hlocks := B.notSynchronized
  have hN := hE.1
  subst hsz
  have hD := hD0.self (sz := s.heap.size)
  generalize hAe : va_A [(x0, .inr (7, [.ref (b 0), .ref (b 1), .ref (b 2), .ref (b 3), .ref (b 4), .ref (b 5), .ref (b 6), .ref (b 7), .ref (b 8), .ref (b 9), .int 1])), ((b 2), .inr (5, [.ref (f6 0), .ref (f6 1), .ref (f6 2), .ref (f6 3), .ref (f6 4), .ref (f6 5), .int 0, .int 0])), ((b 6), .inr (0, [.int 0, .ref (fT 1), .int 0, .ref (fT 3), .int 0, .ref (fT 5), .ref (fT 6), .ref (fT 7), .int 0, .ref (fT 9), .ref (fT 10), .ref (fT 11), .ref (fT 12), .ref (fT 13)]))] s.heap.size = A at hD hE ⊢
  have hA : ∀ q : Nat, s.heap.size ≤ q → A q := fun q h => by rw [← hAe]; exact Or.inr h
  have hS : va_S A s.heap s.heap [] := va_S.rf
  have hP : va_P (dC, dI) vwCl [(x0, .inr (7, [.ref (b 0), .ref (b 1), .ref (b 2), .ref (b 3), .ref (b 4), .ref (b 5), .ref (b 6), .ref (b 7), .ref (b 8), .ref (b 9), .int 1])), ((b 2), .inr (5, [.ref (f6 0), .ref (f6 1), .ref (f6 2), .ref (f6 3), .ref (f6 4), .ref (f6 5), .int 0, .int 0])), ((b 6), .inr (0, [.int 0, .ref (fT 1), .int 0, .ref (fT 3), .int 0, .ref (fT 5), .ref (fT 6), .ref (fT 7), .int 0, .ref (fT 9), .ref (fT 10), .ref (fT 11), .ref (fT 12), .ref (fT 13)]))] s.heap := hP
  have hl := lv_entry ([.ref x0, .int da, .int re]) (n := 9) (Nat.le_of_ble_eq_true rfl)
  rw [lg_entry_eq]
  generalize (lg_sl ([.ref x0, .int da, .int re]) ++ List.replicate (9 - (lg_sl ([.ref x0, .int da, .int re])).length) Slot.unset).toArray = ls at hl ⊢
  have hl : lv_has ls 9 [(0, .ref x0), (1, .int da), (2, .int re)] := hl
  refine lv_iload_n hx hb dX8_next_0 rfl (lv_at hl 1 rfl) ?_
  refine lv_iconst (v := (-1)) hx hb dX8_next_1 (by decide) ?_
  refine lv_icmp_eq (tgt := 12) hx hb dX8_next_2 (by decide) (fun c2_1 => by exfalso; have c2_1 : da.toInt = (-1) := (cv_eq rfl (by decide)).mp c2_1; omega) (fun c2_1 => ?_)
  have c2_1 : ¬ (da.toInt = (-1)) := mt (cv_eq rfl (by decide)).mpr c2_1
  refine lv_iload_n hx hb dX8_next_5 rfl (lv_at hl 1 rfl) ?_
  have hPc := hP.sub (ws' := []) [] rfl
  have hKc := hK.sub (tys' := []) [] rfl
  refine vp_callSi ((va_runS (As := [.int da]) (rest := []) ⟨hx, hb, hml, hown, hts⟩ (c_dl_out l dC dI g (da) hdo) (va_cwS 1 hts (gwS qw_70 qw_71 qw_69 qw_68) rfl rfl rfl (by decide +kernel) ⟨Nat.le_of_ble_eq_true rfl, Nat.le_of_ble_eq_true rfl⟩) ⟨fun a U g9 mk q => ⟨q.1, q.2.1, va_K.moved (u := U) (U := U.calling g9 mk a) (Vm.Alike.refl U.vm) q.2.2.1, Ev.bl q.2.2.2⟩, fun U hU hW => ⟨rfl, by rw [hU]; exact hPc, va_K.moved hW.alike hKc, hE.go hS (fun _ h => h.elim) hU hW⟩⟩ rfl rfl hl.1 rfl (lv_room (Nat.le_of_ble_eq_true rfl)) dX8_next_6 ⟨Nat.le_of_ble_eq_true rfl, Nat.le_of_ble_eq_true rfl⟩)).run (fun r2 h_r2 => ?_)
  have h_r2 : r2 = 0 := h_r2
  subst h_r2
  refine lv_if_eq (tgt := 16) hx hb dX8_next_9 (by decide) (fun c9_3 => ?_) (fun c9_3 => by exfalso; exact absurd c9_3 (by decide))
  refine lv_iconst (v := 0) hx hb dX8_next_16 (by decide) ?_
  refine lv_istore_n (lv' := [(3, .int 0), (0, .ref x0), (1, .int da), (2, .int re)]) hx hb dX8_next_17 rfl hl (by decide) rfl (fun ls hl => ?_)
  refine lv_iload_n hx hb dX8_next_18 rfl (lv_at hl 0 rfl) ?_
  refine lv_if_eq (tgt := 29) hx hb dX8_next_19 (by decide) (fun c19_4 => ?_) (fun c19_4 => by exfalso; exact absurd c19_4 (by decide))
  refine lv_iconst (v := (-1)) hx hb dX8_next_29 (by decide) ?_
  refine W.widen (k := 0) (n := 0) (Nat.le_of_ble_eq_true rfl) (Nat.le_of_ble_eq_true rfl) ?_
  exact W.iret (v := (-1)) hx hb hr (fun t ht hW => ⟨⟨(-1), (), rfl, (rfl), trivial⟩, hS.F ht⟩) hS.2.2 dX8_next_30
set_option maxHeartbeats 4000000 in
set_option maxRecDepth 100000 in
theorem c_8best_A0 (l : Launch) (dC : Nat → ClassId) (dI : Nat → Nat → Nat) (g : Gv) (sz : Nat) (x0 : Nat) (b : Nat → Nat) (f4 : Nat → Nat) (c4 : ClassId) (f5 : Nat → Nat) (f7 : Nat → Nat) (f6 : Nat → Nat) (f2 : Nat → Nat) (cK : ClassId) (kf : Nat → Option Nat) (cZ : ClassId) (fT : Nat → Nat) (fU : Nat → Nat) (sa : Nat → Nat) (sf : Nat → Nat → Nat) (sc : Nat → Nat → ClassId) (spf : Nat → Nat → Int32) (sdf : Nat → Nat → Int32) (slf : Nat → Nat → Int32) (srf : Nat → Nat → Int32) (sga : Nat → Nat → Option Nat) (sgb : Nat → Nat → Option Nat) (rows : va_W) (dn : Nat) (rn : Nat) (hdn : dn ≤ 219145) (hrn : rn ≤ 15) : Met l yX8_best (.code yX8_best cX8_best 4 (some .int) :: TBL) ({ frames := 3, cells := 0, slots := 0, locals := 180 }) (va_Pc [.ref x0, .int (nI dn), .int (nI rn), .int 0] (fun U => U.heap.size = sz ∧ va_P (dC, dI) vwCl [(x0, .inr (7, [.ref (b 0), .ref (b 1), .ref (b 2), .ref (b 3), .ref (b 4), .ref (b 5), .ref (b 6), .ref (b 7), .ref (b 8), .ref (b 9), .int 1])), ((b 2), .inr (5, [.ref (f6 0), .ref (f6 1), .ref (f6 2), .ref (f6 3), .ref (f6 4), .ref (f6 5), .int 0, .int 0])), ((b 6), .inr (0, [.int 0, .ref (fT 1), .int 0, .ref (fT 3), .int 0, .ref (fT 5), .ref (fT 6), .ref (fT 7), .int 0, .ref (fT 9), .ref (fT 10), .ref (fT 11), .ref (fT 12), .ref (fT 13)]))] U.heap ∧ va_K (dC, dI) vwCl [] U ∧ va_D (fun _ => True) [(x0, .inr (7, [.ref (b 0), .ref (b 1), .ref (b 2), .ref (b 3), .ref (b 4), .ref (b 5), .ref (b 6), .ref (b 7), .ref (b 8), .ref (b 9), .int 1])), ((b 2), .inr (5, [.ref (f6 0), .ref (f6 1), .ref (f6 2), .ref (f6 3), .ref (f6 4), .ref (f6 5), .int 0, .int 0])), ((b 6), .inr (0, [.int 0, .ref (fT 1), .int 0, .ref (fT 3), .int 0, .ref (fT 5), .ref (fT 6), .ref (fT 7), .int 0, .ref (fT 9), .ref (fT 10), .ref (fT 11), .ref (fT 12), .ref (fT 13)]))] ∧ Ev g (va_A [(x0, .inr (7, [.ref (b 0), .ref (b 1), .ref (b 2), .ref (b 3), .ref (b 4), .ref (b 5), .ref (b 6), .ref (b 7), .ref (b 8), .ref (b 9), .int 1])), ((b 2), .inr (5, [.ref (f6 0), .ref (f6 1), .ref (f6 2), .ref (f6 3), .ref (f6 4), .ref (f6 5), .int 0, .int 0])), ((b 6), .inr (0, [.int 0, .ref (fT 1), .int 0, .ref (fT 3), .int 0, .ref (fT 5), .ref (fT 6), .ref (fT 7), .int 0, .ref (fT 9), .ref (fT 10), .ref (fT 11), .ref (fT 12), .ref (fT 13)]))] sz) U)) (va_Qi (fun (r : Int32) (u : Unit) => r = 0) (fun (_ : Unit) (_ : State) => True) (va_A [(x0, .inr (7, [.ref (b 0), .ref (b 1), .ref (b 2), .ref (b 3), .ref (b 4), .ref (b 5), .ref (b 6), .ref (b 7), .ref (b 8), .ref (b 9), .int 1])), ((b 2), .inr (5, [.ref (f6 0), .ref (f6 1), .ref (f6 2), .ref (f6 3), .ref (f6 4), .ref (f6 5), .int 0, .int 0])), ((b 6), .inr (0, [.int 0, .ref (fT 1), .int 0, .ref (fT 3), .int 0, .ref (fT 5), .ref (fT 6), .ref (fT 7), .int 0, .ref (fT 9), .ref (fT 10), .ref (fT 11), .ref (fT 12), .ref (fT 13)]))] sz)) 0 0 (va_A [(x0, .inr (7, [.ref (b 0), .ref (b 1), .ref (b 2), .ref (b 3), .ref (b 4), .ref (b 5), .ref (b 6), .ref (b 7), .ref (b 8), .ref (b 9), .int 1])), ((b 2), .inr (5, [.ref (f6 0), .ref (f6 1), .ref (f6 2), .ref (f6 3), .ref (f6 4), .ref (f6 5), .int 0, .int 0])), ((b 6), .inr (0, [.int 0, .ref (fT 1), .int 0, .ref (fT 3), .int 0, .ref (fT 5), .ref (fT 6), .ref (fT 7), .int 0, .ref (fT 9), .ref (fT 10), .ref (fT 11), .ref (fT 12), .ref (fT 13)]))] sz) := by
  refine Met.ofW (cc := cX8_best) (maxL := 4) (ret := (some .int)) (by decide) rfl ?_
  intro p e s m args below meth c s₁ B hml hv
  obtain ⟨rfl, hsz, hP, hK, hD0, hE⟩ := hv
  have hx := B.exec
  have hb := B.bytes
  have hr := B.returns
  have hts0 := atoms_spec (ws := (.code yX8_best cX8_best 4 (some .int) :: TBL)) B.pre
  have hts := fun (w : Cond) (h : w ∈ TBL) => hts0 w (List.mem_cons_of_mem _ h)
  have hown : s.vm.findClass RX8 = some m.cls := findClass_of_methodNamed B.named
  have hlocks := B.notSynchronized
  have hN := hE.1
  subst hsz
  have hD := hD0.self (sz := s.heap.size)
  generalize hAe : va_A [(x0, .inr (7, [.ref (b 0), .ref (b 1), .ref (b 2), .ref (b 3), .ref (b 4), .ref (b 5), .ref (b 6), .ref (b 7), .ref (b 8), .ref (b 9), .int 1])), ((b 2), .inr (5, [.ref (f6 0), .ref (f6 1), .ref (f6 2), .ref (f6 3), .ref (f6 4), .ref (f6 5), .int 0, .int 0])), ((b 6), .inr (0, [.int 0, .ref (fT 1), .int 0, .ref (fT 3), .int 0, .ref (fT 5), .ref (fT 6), .ref (fT 7), .int 0, .ref (fT 9), .ref (fT 10), .ref (fT 11), .ref (fT 12), .ref (fT 13)]))] s.heap.size = A at hD hE ⊢
  have hA : ∀ q : Nat, s.heap.size ≤ q → A q := fun q h => by rw [← hAe]; exact Or.inr h
  have hS : va_S A s.heap s.heap [] := va_S.rf
  have hP : va_P (dC, dI) vwCl [(x0, .inr (7, [.ref (b 0), .ref (b 1), .ref (b 2), .ref (b 3), .ref (b 4), .ref (b 5), .ref (b 6), .ref (b 7), .ref (b 8), .ref (b 9), .int 1])), ((b 2), .inr (5, [.ref (f6 0), .ref (f6 1), .ref (f6 2), .ref (f6 3), .ref (f6 4), .ref (f6 5), .int 0, .int 0])), ((b 6), .inr (0, [.int 0, .ref (fT 1), .int 0, .ref (fT 3), .int 0, .ref (fT 5), .ref (fT 6), .ref (fT 7), .int 0, .ref (fT 9), .ref (fT 10), .ref (fT 11), .ref (fT 12), .ref (fT 13)]))] s.heap := hP
  have hl := lv_entry ([.ref x0, .int (nI dn), .int (nI rn), .int 0]) (n := 4) (Nat.le_of_ble_eq_true rfl)
  rw [lg_entry_eq]
  generalize (lg_sl ([.ref x0, .int (nI dn), .int (nI rn), .int 0]) ++ List.replicate (4 - (lg_sl ([.ref x0, .int (nI dn), .int (nI rn), .int 0])).length) Slot.unset).toArray = ls at hl ⊢
  have hl : lv_has ls 4 [(0, .ref x0), (1, .int (nI dn)), (2, .int (nI rn)), (3, .int 0)] := hl
  refine lv_iload_n hx hb dX8_best_0 rfl (lv_at hl 1 rfl) ?_
  have hPc := hP.sub (ws' := []) [] rfl
  have hKc := hK.sub (tys' := []) [] rfl
  refine vp_callSi ((va_runS (As := [.int (nI dn)]) (rest := []) ⟨hx, hb, hml, hown, hts⟩ (c_dl_in l dC dI g (dn) hdn) (va_cwS 1 hts (gwS qw_70 qw_71 qw_69 qw_68) rfl rfl rfl (by decide +kernel) ⟨Nat.le_of_ble_eq_true rfl, Nat.le_of_ble_eq_true rfl⟩) ⟨fun a U g9 mk q => ⟨q.1, q.2.1, va_K.moved (u := U) (U := U.calling g9 mk a) (Vm.Alike.refl U.vm) q.2.2.1, Ev.bl q.2.2.2⟩, fun U hU hW => ⟨rfl, by rw [hU]; exact hPc, va_K.moved hW.alike hKc, hE.go hS (fun _ h => h.elim) hU hW⟩⟩ rfl rfl hl.1 rfl (lv_room (Nat.le_of_ble_eq_true rfl)) dX8_best_1 ⟨Nat.le_of_ble_eq_true rfl, Nat.le_of_ble_eq_true rfl⟩)).run (fun r1 h_r1 => ?_)
  have h_r1 : r1 = 1 := h_r1
  subst h_r1
  refine lv_if_eq (tgt := 23) hx hb dX8_best_4 (by decide) (fun c4_2 => by exfalso; exact absurd c4_2 (by decide)) (fun c4_2 => ?_)
  refine lv_iload_n hx hb dX8_best_7 rfl (lv_at hl 2 rfl) ?_
  have hPc := hP.sub (ws' := []) [] rfl
  have hKc := hK.sub (tys' := []) [] rfl
  refine vp_callSi ((va_runS (As := [.int (nI rn)]) (rest := []) ⟨hx, hb, hml, hown, hts⟩ (c_ar_in l dC dI g (rn) hrn) (va_cwS 1 hts (gwS qw_270 qw_271 qw_69 qw_269) rfl rfl rfl (by decide +kernel) ⟨Nat.le_of_ble_eq_true rfl, Nat.le_of_ble_eq_true rfl⟩) ⟨fun a U g9 mk q => ⟨q.1, q.2.1, va_K.moved (u := U) (U := U.calling g9 mk a) (Vm.Alike.refl U.vm) q.2.2.1, Ev.bl q.2.2.2⟩, fun U hU hW => ⟨rfl, by rw [hU]; exact hPc, va_K.moved hW.alike hKc, hE.go hS (fun _ h => h.elim) hU hW⟩⟩ rfl rfl hl.1 rfl (lv_room (Nat.le_of_ble_eq_true rfl)) dX8_best_8 ⟨Nat.le_of_ble_eq_true rfl, Nat.le_of_ble_eq_true rfl⟩)).run (fun r3 h_r3 => ?_)
  have h_r3 : r3 = 1 := h_r3
  subst h_r3
  refine lv_if_eq (tgt := 23) hx hb dX8_best_11 (by decide) (fun c11_4 => by exfalso; exact absurd c11_4 (by decide)) (fun c11_4 => ?_)
  refine lv_iload_n hx hb dX8_best_14 rfl (lv_at hl 3 rfl) ?_
  refine lv_if_lt (tgt := 23) hx hb dX8_best_15 (by decide) (fun c15_5 => by exfalso; exact absurd c15_5 (by decide)) (fun c15_5 => ?_)
  refine lv_iload_n hx hb dX8_best_18 rfl (lv_at hl 3 rfl) ?_
  refine lv_iconst (v := 3) hx hb dX8_best_19 (by decide) ?_
  refine lv_icmp_le (tgt := 25) hx hb dX8_best_20 (by decide) (fun c20_6 => ?_) (fun c20_6 => by exfalso; exact absurd c20_6 (by decide))
  refine lv_aload_n hx hb dX8_best_25 rfl (lv_at hl 0 rfl) ?_
  have hPc := hP.sub (ws' := [(x0, .inr (7, [.ref (b 0), .ref (b 1), .ref (b 2), .ref (b 3), .ref (b 4), .ref (b 5), .ref (b 6), .ref (b 7), .ref (b 8), .ref (b 9), .int 1])), ((b 2), .inr (5, [.ref (f6 0), .ref (f6 1), .ref (f6 2), .ref (f6 3), .ref (f6 4), .ref (f6 5), .int 0, .int 0])), ((b 6), .inr (0, [.int 0, .ref (fT 1), .int 0, .ref (fT 3), .int 0, .ref (fT 5), .ref (fT 6), .ref (fT 7), .int 0, .ref (fT 9), .ref (fT 10), .ref (fT 11), .ref (fT 12), .ref (fT 13)]))]) [0, 1, 2] rfl
  have hKc := hK.sub (tys' := []) [] rfl
  have hDc := hD.sub (ws' := [(x0, .inr (7, [.ref (b 0), .ref (b 1), .ref (b 2), .ref (b 3), .ref (b 4), .ref (b 5), .ref (b 6), .ref (b 7), .ref (b 8), .ref (b 9), .int 1])), ((b 2), .inr (5, [.ref (f6 0), .ref (f6 1), .ref (f6 2), .ref (f6 3), .ref (f6 4), .ref (f6 5), .int 0, .int 0])), ((b 6), .inr (0, [.int 0, .ref (fT 1), .int 0, .ref (fT 3), .int 0, .ref (fT 5), .ref (fT 6), .ref (fT 7), .int 0, .ref (fT 9), .ref (fT 10), .ref (fT 11), .ref (fT 12), .ref (fT 13)]))]) [0, 1, 2] (by decide) rfl
  have hFc := va_free (wc := [(x0, .inr (7, [.ref (b 0), .ref (b 1), .ref (b 2), .ref (b 3), .ref (b 4), .ref (b 5), .ref (b 6), .ref (b 7), .ref (b 8), .ref (b 9), .int 1])), ((b 2), .inr (5, [.ref (f6 0), .ref (f6 1), .ref (f6 2), .ref (f6 3), .ref (f6 4), .ref (f6 5), .int 0, .int 0])), ((b 6), .inr (0, [.int 0, .ref (fT 1), .int 0, .ref (fT 3), .int 0, .ref (fT 5), .ref (fT 6), .ref (fT 7), .int 0, .ref (fT 9), .ref (fT 10), .ref (fT 11), .ref (fT 12), .ref (fT 13)]))]) hD hS hA [0, 1, 2] rfl
  refine va_callr (va_runV (As := []) (rest := []) ⟨hx, hb, hml, hown, hts⟩ (c_utd l dC dI g s.heap.size (x0) (b) (f4) (c4) (f5) (f7) (f6) (f2) (cK) (kf) (cZ) (fT) (fU) (sa) (sf) (sc) (spf) (sdf) (slf) (srf) (sga) (sgb) (rows) ) (cwV 0 hts (gwV qw_273 qw_274 qw_275 qw_69 qw_272) rfl rfl rfl (by decide +kernel) ⟨Nat.le_of_ble_eq_true rfl, Nat.le_of_ble_eq_true rfl⟩) ⟨fun a U g9 mk q => ⟨q.1, q.2.1, q.2.2.1, va_K.moved (u := U) (U := U.calling g9 mk a) (Vm.Alike.refl U.vm) q.2.2.2.1, q.2.2.2.2.1, Ev.bl q.2.2.2.2.2⟩, va_recv hK hP (ci := 7) (q0 := 0) rfl rfl, fun U hU hW => ⟨rfl, by rw [hU], by rw [hU]; exact hPc, va_K.moved hW.alike hKc, hDc.weaken (fun _ _ _ _ => trivial), hE.go hS hFc hU hW⟩⟩ rfl rfl hl.1 rfl (lv_room (Nat.le_of_ble_eq_true rfl)) dX8_best_26 ⟨Nat.le_of_ble_eq_true rfl, Nat.le_of_ble_eq_true rfl⟩) hS (fun q _ h => hFc q h) hFc (fun u7 r8 t H1 locs ht hvm h_u7 hB hz1 hk1 hS => ?_)
  obtain ⟨hrr, hP1, hK1, hD1⟩ := hB
  rw [ht] at hP1
  have hK1 := va_K.moved hvm.symm hK1
  obtain ⟨hP, hD⟩ := va_join (wr := []) (w1 := [(x0, .inr (7, [.ref (b 0), .ref (b 1), .ref (b 2), .ref (b 3), .ref (b 4), .ref (b 5), .ref (b 6), .ref (b 7), .ref (b 8), .ref (b 9), .int 0])), ((b 2), .inr (5, [.ref (f6 0), .ref (f6 1), .ref (f6 2), .ref (f6 3), .ref (f6 4), .ref (f6 5), .int 0, .int 0])), ((b 6), .inr (0, [.int 0, .ref (fT 1), .int 0, .ref (fT 3), .int 0, .ref (fT 5), .ref (fT 6), .ref (fT 7), .int 0, .ref (fT 9), .ref (fT 10), .ref (fT 11), .ref (fT 12), .ref (fT 13)]))]) hP hD [0, 1, 2] [] rfl rfl (by decide) (by decide) hk1 hFc hP1 hD1
  have hK := hK.app hK1
  have hK : va_K (dC, dI) vwCl [] s := hK
  generalize H1 = H at hP hS ⊢
  have hP : va_P (dC, dI) vwCl [(x0, .inr (7, [.ref (b 0), .ref (b 1), .ref (b 2), .ref (b 3), .ref (b 4), .ref (b 5), .ref (b 6), .ref (b 7), .ref (b 8), .ref (b 9), .int 0])), ((b 2), .inr (5, [.ref (f6 0), .ref (f6 1), .ref (f6 2), .ref (f6 3), .ref (f6 4), .ref (f6 5), .int 0, .int 0])), ((b 6), .inr (0, [.int 0, .ref (fT 1), .int 0, .ref (fT 3), .int 0, .ref (fT 5), .ref (fT 6), .ref (fT 7), .int 0, .ref (fT 9), .ref (fT 10), .ref (fT 11), .ref (fT 12), .ref (fT 13)]))] H := hP
  have hD : va_D A [(x0, .inr (7, [.ref (b 0), .ref (b 1), .ref (b 2), .ref (b 3), .ref (b 4), .ref (b 5), .ref (b 6), .ref (b 7), .ref (b 8), .ref (b 9), .int 0])), ((b 2), .inr (5, [.ref (f6 0), .ref (f6 1), .ref (f6 2), .ref (f6 3), .ref (f6 4), .ref (f6 5), .int 0, .int 0])), ((b 6), .inr (0, [.int 0, .ref (fT 1), .int 0, .ref (fT 3), .int 0, .ref (fT 5), .ref (fT 6), .ref (fT 7), .int 0, .ref (fT 9), .ref (fT 10), .ref (fT 11), .ref (fT 12), .ref (fT 13)]))] := hD
  refine W.widen (k := 0) (n := 0) (Nat.le_of_ble_eq_true rfl) (Nat.le_of_ble_eq_true rfl) ?_
  have hrr : r8 = (b 2) := hrr
  subst hrr
  refine lv_iload_n hx hb dX8_best_29 rfl (lv_at hl 1 rfl) ?_
  refine lv_aload_n hx hb dX8_best_30 rfl (lv_at hl 0 rfl) ?_
  refine va_get (D := (dC, dI)) (ci := 7) (v := .ref (b 6)) (C := RX8) (T := TX8) (N := 11) hx hb hts inlX8 hown hK hP 0 rfl rfl 6 (by decide) (hts (.fieldLink RX8 51 "ClosedUntil" "told" "LClosedUntil$Holdings;") qw_205) (fun _ h9 => h9) rfl dX8_best_31 ?_
  refine lv_iload_n hx hb dX8_best_34 rfl (lv_at hl 2 rfl) ?_
  have hPc := hP.sub (ws' := [((b 6), .inr (0, [.int 0, .ref (fT 1), .int 0, .ref (fT 3), .int 0, .ref (fT 5), .ref (fT 6), .ref (fT 7), .int 0, .ref (fT 9), .ref (fT 10), .ref (fT 11), .ref (fT 12), .ref (fT 13)]))]) [2] rfl
  have hKc := hK.sub (tys' := []) [] rfl
  refine vp_callSi ((va_runVN (As := [.int (nI rn)]) (rest := [.int (nI dn), .ref (b 2)]) ⟨hx, hb, hml, hown, hts⟩ (c_hf l dC dI g ((b 6)) (fT) ((nI rn)) ) ⟨va_cnB 1 hts (gwC qw_276) rfl rfl rfl (nm_36 hN) (hts (.initialized RX1) qw_202) (by decide +kernel) ⟨Nat.le_of_ble_eq_true rfl, Nat.le_of_ble_eq_true rfl⟩, (hts (.instanceMethod yX1_holdingFor) qw_277), (hts (.selects RX1 yX1_holdingFor yX1_holdingFor) qw_278)⟩ ⟨fun a U g9 mk q => ⟨q.1, q.2.1, va_K.moved (u := U) (U := U.calling g9 mk a) (Vm.Alike.refl U.vm) q.2.2.1, Ev.bl q.2.2.2⟩, va_recv hK hP (ci := 0) (q0 := 2) rfl rfl, fun U hU hW => ⟨rfl, by rw [hU]; exact hPc, va_K.moved hW.alike hKc, hE.go hS (fun _ h => h.elim) hU hW⟩⟩ rfl rfl hl.1 rfl (lv_room (Nat.le_of_ble_eq_true rfl)) dX8_best_35 ⟨Nat.le_of_ble_eq_true rfl, Nat.le_of_ble_eq_true rfl⟩)).run (fun r9 h_r9 => ?_)
  have h_r9 : r9 = 0 := h_r9
  subst h_r9
  refine lv_iload_n hx hb dX8_best_38 rfl (lv_at hl 3 rfl) ?_
  have hPc := hP.sub (ws' := [((b 2), .inr (5, [.ref (f6 0), .ref (f6 1), .ref (f6 2), .ref (f6 3), .ref (f6 4), .ref (f6 5), .int 0, .int 0]))]) [1] rfl
  have hKc := hK.sub (tys' := []) [] rfl
  refine vp_callSi ((va_runVN (As := [.int (nI dn), .int 0, .int 0]) (rest := []) ⟨hx, hb, hml, hown, hts⟩ (c_btl0 l dC dI g ((b 2)) (f6) ((nI dn)) (0) ) ⟨va_cnB 3 hts (gwC qw_282) rfl rfl rfl (nm_42 hN) (hts (.initialized RX6) qw_184) (by decide +kernel) ⟨Nat.le_of_ble_eq_true rfl, Nat.le_of_ble_eq_true rfl⟩, (hts (.instanceMethod yX6_bestToLift) qw_283), (hts (.selects RX6 yX6_bestToLift yX6_bestToLift) qw_284)⟩ ⟨fun a U g9 mk q => ⟨q.1, q.2.1, va_K.moved (u := U) (U := U.calling g9 mk a) (Vm.Alike.refl U.vm) q.2.2.1, Ev.bl q.2.2.2⟩, va_recv hK hP (ci := 5) (q0 := 1) rfl rfl, fun U hU hW => ⟨rfl, by rw [hU]; exact hPc, va_K.moved hW.alike hKc, hE.go hS (fun _ h => h.elim) hU hW⟩⟩ rfl rfl hl.1 rfl (lv_room (Nat.le_of_ble_eq_true rfl)) dX8_best_39 ⟨Nat.le_of_ble_eq_true rfl, Nat.le_of_ble_eq_true rfl⟩)).run (fun r10 h_r10 => ?_)
  have h_r10 : r10 = 0 := h_r10
  subst h_r10
  refine W.widen (k := 0) (n := 0) (Nat.le_of_ble_eq_true rfl) (Nat.le_of_ble_eq_true rfl) ?_
  exact W.iret (v := 0) hx hb hr (fun t ht hW => ⟨⟨0, (), rfl, (rfl), trivial⟩, hS.F ht⟩) hS.2.2 dX8_best_42
set_option maxHeartbeats 4000000 in
set_option maxRecDepth 100000 in
theorem c_8best_A1 (l : Launch) (dC : Nat → ClassId) (dI : Nat → Nat → Nat) (g : Gv) (sz : Nat) (x0 : Nat) (b : Nat → Nat) (f4 : Nat → Nat) (c4 : ClassId) (f5 : Nat → Nat) (f7 : Nat → Nat) (f6 : Nat → Nat) (f2 : Nat → Nat) (cK : ClassId) (kf : Nat → Option Nat) (cZ : ClassId) (fT : Nat → Nat) (fU : Nat → Nat) (sa : Nat → Nat) (sf : Nat → Nat → Nat) (sc : Nat → Nat → ClassId) (spf : Nat → Nat → Int32) (sdf : Nat → Nat → Int32) (slf : Nat → Nat → Int32) (srf : Nat → Nat → Int32) (sga : Nat → Nat → Option Nat) (sgb : Nat → Nat → Option Nat) (rows : va_W) (dn : Nat) (rn : Nat) (hdn : dn ≤ 219145) (hrn : rn ≤ 15) : Met l yX8_best (.code yX8_best cX8_best 4 (some .int) :: TBL) ({ frames := 3, cells := 0, slots := 0, locals := 180 }) (va_Pc [.ref x0, .int (nI dn), .int (nI rn), .int 1] (fun U => U.heap.size = sz ∧ va_P (dC, dI) vwCl [(x0, .inr (7, [.ref (b 0), .ref (b 1), .ref (b 2), .ref (b 3), .ref (b 4), .ref (b 5), .ref (b 6), .ref (b 7), .ref (b 8), .ref (b 9), .int 1])), ((b 2), .inr (5, [.ref (f6 0), .ref (f6 1), .ref (f6 2), .ref (f6 3), .ref (f6 4), .ref (f6 5), .int 0, .int 0])), ((b 6), .inr (0, [.int 0, .ref (fT 1), .int 0, .ref (fT 3), .int 0, .ref (fT 5), .ref (fT 6), .ref (fT 7), .int 0, .ref (fT 9), .ref (fT 10), .ref (fT 11), .ref (fT 12), .ref (fT 13)]))] U.heap ∧ va_K (dC, dI) vwCl [] U ∧ va_D (fun _ => True) [(x0, .inr (7, [.ref (b 0), .ref (b 1), .ref (b 2), .ref (b 3), .ref (b 4), .ref (b 5), .ref (b 6), .ref (b 7), .ref (b 8), .ref (b 9), .int 1])), ((b 2), .inr (5, [.ref (f6 0), .ref (f6 1), .ref (f6 2), .ref (f6 3), .ref (f6 4), .ref (f6 5), .int 0, .int 0])), ((b 6), .inr (0, [.int 0, .ref (fT 1), .int 0, .ref (fT 3), .int 0, .ref (fT 5), .ref (fT 6), .ref (fT 7), .int 0, .ref (fT 9), .ref (fT 10), .ref (fT 11), .ref (fT 12), .ref (fT 13)]))] ∧ Ev g (va_A [(x0, .inr (7, [.ref (b 0), .ref (b 1), .ref (b 2), .ref (b 3), .ref (b 4), .ref (b 5), .ref (b 6), .ref (b 7), .ref (b 8), .ref (b 9), .int 1])), ((b 2), .inr (5, [.ref (f6 0), .ref (f6 1), .ref (f6 2), .ref (f6 3), .ref (f6 4), .ref (f6 5), .int 0, .int 0])), ((b 6), .inr (0, [.int 0, .ref (fT 1), .int 0, .ref (fT 3), .int 0, .ref (fT 5), .ref (fT 6), .ref (fT 7), .int 0, .ref (fT 9), .ref (fT 10), .ref (fT 11), .ref (fT 12), .ref (fT 13)]))] sz) U)) (va_Qi (fun (r : Int32) (u : Unit) => r = 0) (fun (_ : Unit) (_ : State) => True) (va_A [(x0, .inr (7, [.ref (b 0), .ref (b 1), .ref (b 2), .ref (b 3), .ref (b 4), .ref (b 5), .ref (b 6), .ref (b 7), .ref (b 8), .ref (b 9), .int 1])), ((b 2), .inr (5, [.ref (f6 0), .ref (f6 1), .ref (f6 2), .ref (f6 3), .ref (f6 4), .ref (f6 5), .int 0, .int 0])), ((b 6), .inr (0, [.int 0, .ref (fT 1), .int 0, .ref (fT 3), .int 0, .ref (fT 5), .ref (fT 6), .ref (fT 7), .int 0, .ref (fT 9), .ref (fT 10), .ref (fT 11), .ref (fT 12), .ref (fT 13)]))] sz)) 0 0 (va_A [(x0, .inr (7, [.ref (b 0), .ref (b 1), .ref (b 2), .ref (b 3), .ref (b 4), .ref (b 5), .ref (b 6), .ref (b 7), .ref (b 8), .ref (b 9), .int 1])), ((b 2), .inr (5, [.ref (f6 0), .ref (f6 1), .ref (f6 2), .ref (f6 3), .ref (f6 4), .ref (f6 5), .int 0, .int 0])), ((b 6), .inr (0, [.int 0, .ref (fT 1), .int 0, .ref (fT 3), .int 0, .ref (fT 5), .ref (fT 6), .ref (fT 7), .int 0, .ref (fT 9), .ref (fT 10), .ref (fT 11), .ref (fT 12), .ref (fT 13)]))] sz) := by
  refine Met.ofW (cc := cX8_best) (maxL := 4) (ret := (some .int)) (by decide) rfl ?_
  intro p e s m args below meth c s₁ B hml hv
  obtain ⟨rfl, hsz, hP, hK, hD0, hE⟩ := hv
  have hx := B.exec
  have hb := B.bytes
  have hr := B.returns
  have hts0 := atoms_spec (ws := (.code yX8_best cX8_best 4 (some .int) :: TBL)) B.pre
  have hts := fun (w : Cond) (h : w ∈ TBL) => hts0 w (List.mem_cons_of_mem _ h)
  have hown : s.vm.findClass RX8 = some m.cls := findClass_of_methodNamed B.named
  have hlocks := B.notSynchronized
  have hN := hE.1
  subst hsz
  have hD := hD0.self (sz := s.heap.size)
  generalize hAe : va_A [(x0, .inr (7, [.ref (b 0), .ref (b 1), .ref (b 2), .ref (b 3), .ref (b 4), .ref (b 5), .ref (b 6), .ref (b 7), .ref (b 8), .ref (b 9), .int 1])), ((b 2), .inr (5, [.ref (f6 0), .ref (f6 1), .ref (f6 2), .ref (f6 3), .ref (f6 4), .ref (f6 5), .int 0, .int 0])), ((b 6), .inr (0, [.int 0, .ref (fT 1), .int 0, .ref (fT 3), .int 0, .ref (fT 5), .ref (fT 6), .ref (fT 7), .int 0, .ref (fT 9), .ref (fT 10), .ref (fT 11), .ref (fT 12), .ref (fT 13)]))] s.heap.size = A at hD hE ⊢
  have hA : ∀ q : Nat, s.heap.size ≤ q → A q := fun q h => by rw [← hAe]; exact Or.inr h
  have hS : va_S A s.heap s.heap [] := va_S.rf
  have hP : va_P (dC, dI) vwCl [(x0, .inr (7, [.ref (b 0), .ref (b 1), .ref (b 2), .ref (b 3), .ref (b 4), .ref (b 5), .ref (b 6), .ref (b 7), .ref (b 8), .ref (b 9), .int 1])), ((b 2), .inr (5, [.ref (f6 0), .ref (f6 1), .ref (f6 2), .ref (f6 3), .ref (f6 4), .ref (f6 5), .int 0, .int 0])), ((b 6), .inr (0, [.int 0, .ref (fT 1), .int 0, .ref (fT 3), .int 0, .ref (fT 5), .ref (fT 6), .ref (fT 7), .int 0, .ref (fT 9), .ref (fT 10), .ref (fT 11), .ref (fT 12), .ref (fT 13)]))] s.heap := hP
  have hl := lv_entry ([.ref x0, .int (nI dn), .int (nI rn), .int 1]) (n := 4) (Nat.le_of_ble_eq_true rfl)
  rw [lg_entry_eq]
  generalize (lg_sl ([.ref x0, .int (nI dn), .int (nI rn), .int 1]) ++ List.replicate (4 - (lg_sl ([.ref x0, .int (nI dn), .int (nI rn), .int 1])).length) Slot.unset).toArray = ls at hl ⊢
  have hl : lv_has ls 4 [(0, .ref x0), (1, .int (nI dn)), (2, .int (nI rn)), (3, .int 1)] := hl
  refine lv_iload_n hx hb dX8_best_0 rfl (lv_at hl 1 rfl) ?_
  have hPc := hP.sub (ws' := []) [] rfl
  have hKc := hK.sub (tys' := []) [] rfl
  refine vp_callSi ((va_runS (As := [.int (nI dn)]) (rest := []) ⟨hx, hb, hml, hown, hts⟩ (c_dl_in l dC dI g (dn) hdn) (va_cwS 1 hts (gwS qw_70 qw_71 qw_69 qw_68) rfl rfl rfl (by decide +kernel) ⟨Nat.le_of_ble_eq_true rfl, Nat.le_of_ble_eq_true rfl⟩) ⟨fun a U g9 mk q => ⟨q.1, q.2.1, va_K.moved (u := U) (U := U.calling g9 mk a) (Vm.Alike.refl U.vm) q.2.2.1, Ev.bl q.2.2.2⟩, fun U hU hW => ⟨rfl, by rw [hU]; exact hPc, va_K.moved hW.alike hKc, hE.go hS (fun _ h => h.elim) hU hW⟩⟩ rfl rfl hl.1 rfl (lv_room (Nat.le_of_ble_eq_true rfl)) dX8_best_1 ⟨Nat.le_of_ble_eq_true rfl, Nat.le_of_ble_eq_true rfl⟩)).run (fun r1 h_r1 => ?_)
  have h_r1 : r1 = 1 := h_r1
  subst h_r1
  refine lv_if_eq (tgt := 23) hx hb dX8_best_4 (by decide) (fun c4_2 => by exfalso; exact absurd c4_2 (by decide)) (fun c4_2 => ?_)
  refine lv_iload_n hx hb dX8_best_7 rfl (lv_at hl 2 rfl) ?_
  have hPc := hP.sub (ws' := []) [] rfl
  have hKc := hK.sub (tys' := []) [] rfl
  refine vp_callSi ((va_runS (As := [.int (nI rn)]) (rest := []) ⟨hx, hb, hml, hown, hts⟩ (c_ar_in l dC dI g (rn) hrn) (va_cwS 1 hts (gwS qw_270 qw_271 qw_69 qw_269) rfl rfl rfl (by decide +kernel) ⟨Nat.le_of_ble_eq_true rfl, Nat.le_of_ble_eq_true rfl⟩) ⟨fun a U g9 mk q => ⟨q.1, q.2.1, va_K.moved (u := U) (U := U.calling g9 mk a) (Vm.Alike.refl U.vm) q.2.2.1, Ev.bl q.2.2.2⟩, fun U hU hW => ⟨rfl, by rw [hU]; exact hPc, va_K.moved hW.alike hKc, hE.go hS (fun _ h => h.elim) hU hW⟩⟩ rfl rfl hl.1 rfl (lv_room (Nat.le_of_ble_eq_true rfl)) dX8_best_8 ⟨Nat.le_of_ble_eq_true rfl, Nat.le_of_ble_eq_true rfl⟩)).run (fun r3 h_r3 => ?_)
  have h_r3 : r3 = 1 := h_r3
  subst h_r3
  refine lv_if_eq (tgt := 23) hx hb dX8_best_11 (by decide) (fun c11_4 => by exfalso; exact absurd c11_4 (by decide)) (fun c11_4 => ?_)
  refine lv_iload_n hx hb dX8_best_14 rfl (lv_at hl 3 rfl) ?_
  refine lv_if_lt (tgt := 23) hx hb dX8_best_15 (by decide) (fun c15_5 => by exfalso; exact absurd c15_5 (by decide)) (fun c15_5 => ?_)
  refine lv_iload_n hx hb dX8_best_18 rfl (lv_at hl 3 rfl) ?_
  refine lv_iconst (v := 3) hx hb dX8_best_19 (by decide) ?_
  refine lv_icmp_le (tgt := 25) hx hb dX8_best_20 (by decide) (fun c20_6 => ?_) (fun c20_6 => by exfalso; exact absurd c20_6 (by decide))
  refine lv_aload_n hx hb dX8_best_25 rfl (lv_at hl 0 rfl) ?_
  have hPc := hP.sub (ws' := [(x0, .inr (7, [.ref (b 0), .ref (b 1), .ref (b 2), .ref (b 3), .ref (b 4), .ref (b 5), .ref (b 6), .ref (b 7), .ref (b 8), .ref (b 9), .int 1])), ((b 2), .inr (5, [.ref (f6 0), .ref (f6 1), .ref (f6 2), .ref (f6 3), .ref (f6 4), .ref (f6 5), .int 0, .int 0])), ((b 6), .inr (0, [.int 0, .ref (fT 1), .int 0, .ref (fT 3), .int 0, .ref (fT 5), .ref (fT 6), .ref (fT 7), .int 0, .ref (fT 9), .ref (fT 10), .ref (fT 11), .ref (fT 12), .ref (fT 13)]))]) [0, 1, 2] rfl
  have hKc := hK.sub (tys' := []) [] rfl
  have hDc := hD.sub (ws' := [(x0, .inr (7, [.ref (b 0), .ref (b 1), .ref (b 2), .ref (b 3), .ref (b 4), .ref (b 5), .ref (b 6), .ref (b 7), .ref (b 8), .ref (b 9), .int 1])), ((b 2), .inr (5, [.ref (f6 0), .ref (f6 1), .ref (f6 2), .ref (f6 3), .ref (f6 4), .ref (f6 5), .int 0, .int 0])), ((b 6), .inr (0, [.int 0, .ref (fT 1), .int 0, .ref (fT 3), .int 0, .ref (fT 5), .ref (fT 6), .ref (fT 7), .int 0, .ref (fT 9), .ref (fT 10), .ref (fT 11), .ref (fT 12), .ref (fT 13)]))]) [0, 1, 2] (by decide) rfl
  have hFc := va_free (wc := [(x0, .inr (7, [.ref (b 0), .ref (b 1), .ref (b 2), .ref (b 3), .ref (b 4), .ref (b 5), .ref (b 6), .ref (b 7), .ref (b 8), .ref (b 9), .int 1])), ((b 2), .inr (5, [.ref (f6 0), .ref (f6 1), .ref (f6 2), .ref (f6 3), .ref (f6 4), .ref (f6 5), .int 0, .int 0])), ((b 6), .inr (0, [.int 0, .ref (fT 1), .int 0, .ref (fT 3), .int 0, .ref (fT 5), .ref (fT 6), .ref (fT 7), .int 0, .ref (fT 9), .ref (fT 10), .ref (fT 11), .ref (fT 12), .ref (fT 13)]))]) hD hS hA [0, 1, 2] rfl
  refine va_callr (va_runV (As := []) (rest := []) ⟨hx, hb, hml, hown, hts⟩ (c_utd l dC dI g s.heap.size (x0) (b) (f4) (c4) (f5) (f7) (f6) (f2) (cK) (kf) (cZ) (fT) (fU) (sa) (sf) (sc) (spf) (sdf) (slf) (srf) (sga) (sgb) (rows) ) (cwV 0 hts (gwV qw_273 qw_274 qw_275 qw_69 qw_272) rfl rfl rfl (by decide +kernel) ⟨Nat.le_of_ble_eq_true rfl, Nat.le_of_ble_eq_true rfl⟩) ⟨fun a U g9 mk q => ⟨q.1, q.2.1, q.2.2.1, va_K.moved (u := U) (U := U.calling g9 mk a) (Vm.Alike.refl U.vm) q.2.2.2.1, q.2.2.2.2.1, Ev.bl q.2.2.2.2.2⟩, va_recv hK hP (ci := 7) (q0 := 0) rfl rfl, fun U hU hW => ⟨rfl, by rw [hU], by rw [hU]; exact hPc, va_K.moved hW.alike hKc, hDc.weaken (fun _ _ _ _ => trivial), hE.go hS hFc hU hW⟩⟩ rfl rfl hl.1 rfl (lv_room (Nat.le_of_ble_eq_true rfl)) dX8_best_26 ⟨Nat.le_of_ble_eq_true rfl, Nat.le_of_ble_eq_true rfl⟩) hS (fun q _ h => hFc q h) hFc (fun u7 r8 t H1 locs ht hvm h_u7 hB hz1 hk1 hS => ?_)
  obtain ⟨hrr, hP1, hK1, hD1⟩ := hB
  rw [ht] at hP1
  have hK1 := va_K.moved hvm.symm hK1
  obtain ⟨hP, hD⟩ := va_join (wr := []) (w1 := [(x0, .inr (7, [.ref (b 0), .ref (b 1), .ref (b 2), .ref (b 3), .ref (b 4), .ref (b 5), .ref (b 6), .ref (b 7), .ref (b 8), .ref (b 9), .int 0])), ((b 2), .inr (5, [.ref (f6 0), .ref (f6 1), .ref (f6 2), .ref (f6 3), .ref (f6 4), .ref (f6 5), .int 0, .int 0])), ((b 6), .inr (0, [.int 0, .ref (fT 1), .int 0, .ref (fT 3), .int 0, .ref (fT 5), .ref (fT 6), .ref (fT 7), .int 0, .ref (fT 9), .ref (fT 10), .ref (fT 11), .ref (fT 12), .ref (fT 13)]))]) hP hD [0, 1, 2] [] rfl rfl (by decide) (by decide) hk1 hFc hP1 hD1
  have hK := hK.app hK1
  have hK : va_K (dC, dI) vwCl [] s := hK
  generalize H1 = H at hP hS ⊢
  have hP : va_P (dC, dI) vwCl [(x0, .inr (7, [.ref (b 0), .ref (b 1), .ref (b 2), .ref (b 3), .ref (b 4), .ref (b 5), .ref (b 6), .ref (b 7), .ref (b 8), .ref (b 9), .int 0])), ((b 2), .inr (5, [.ref (f6 0), .ref (f6 1), .ref (f6 2), .ref (f6 3), .ref (f6 4), .ref (f6 5), .int 0, .int 0])), ((b 6), .inr (0, [.int 0, .ref (fT 1), .int 0, .ref (fT 3), .int 0, .ref (fT 5), .ref (fT 6), .ref (fT 7), .int 0, .ref (fT 9), .ref (fT 10), .ref (fT 11), .ref (fT 12), .ref (fT 13)]))] H := hP
  have hD : va_D A [(x0, .inr (7, [.ref (b 0), .ref (b 1), .ref (b 2), .ref (b 3), .ref (b 4), .ref (b 5), .ref (b 6), .ref (b 7), .ref (b 8), .ref (b 9), .int 0])), ((b 2), .inr (5, [.ref (f6 0), .ref (f6 1), .ref (f6 2), .ref (f6 3), .ref (f6 4), .ref (f6 5), .int 0, .int 0])), ((b 6), .inr (0, [.int 0, .ref (fT 1), .int 0, .ref (fT 3), .int 0, .ref (fT 5), .ref (fT 6), .ref (fT 7), .int 0, .ref (fT 9), .ref (fT 10), .ref (fT 11), .ref (fT 12), .ref (fT 13)]))] := hD
  refine W.widen (k := 0) (n := 0) (Nat.le_of_ble_eq_true rfl) (Nat.le_of_ble_eq_true rfl) ?_
  have hrr : r8 = (b 2) := hrr
  subst hrr
  refine lv_iload_n hx hb dX8_best_29 rfl (lv_at hl 1 rfl) ?_
  refine lv_aload_n hx hb dX8_best_30 rfl (lv_at hl 0 rfl) ?_
  refine va_get (D := (dC, dI)) (ci := 7) (v := .ref (b 6)) (C := RX8) (T := TX8) (N := 11) hx hb hts inlX8 hown hK hP 0 rfl rfl 6 (by decide) (hts (.fieldLink RX8 51 "ClosedUntil" "told" "LClosedUntil$Holdings;") qw_205) (fun _ h9 => h9) rfl dX8_best_31 ?_
  refine lv_iload_n hx hb dX8_best_34 rfl (lv_at hl 2 rfl) ?_
  have hPc := hP.sub (ws' := [((b 6), .inr (0, [.int 0, .ref (fT 1), .int 0, .ref (fT 3), .int 0, .ref (fT 5), .ref (fT 6), .ref (fT 7), .int 0, .ref (fT 9), .ref (fT 10), .ref (fT 11), .ref (fT 12), .ref (fT 13)]))]) [2] rfl
  have hKc := hK.sub (tys' := []) [] rfl
  refine vp_callSi ((va_runVN (As := [.int (nI rn)]) (rest := [.int (nI dn), .ref (b 2)]) ⟨hx, hb, hml, hown, hts⟩ (c_hf l dC dI g ((b 6)) (fT) ((nI rn)) ) ⟨va_cnB 1 hts (gwC qw_276) rfl rfl rfl (nm_36 hN) (hts (.initialized RX1) qw_202) (by decide +kernel) ⟨Nat.le_of_ble_eq_true rfl, Nat.le_of_ble_eq_true rfl⟩, (hts (.instanceMethod yX1_holdingFor) qw_277), (hts (.selects RX1 yX1_holdingFor yX1_holdingFor) qw_278)⟩ ⟨fun a U g9 mk q => ⟨q.1, q.2.1, va_K.moved (u := U) (U := U.calling g9 mk a) (Vm.Alike.refl U.vm) q.2.2.1, Ev.bl q.2.2.2⟩, va_recv hK hP (ci := 0) (q0 := 2) rfl rfl, fun U hU hW => ⟨rfl, by rw [hU]; exact hPc, va_K.moved hW.alike hKc, hE.go hS (fun _ h => h.elim) hU hW⟩⟩ rfl rfl hl.1 rfl (lv_room (Nat.le_of_ble_eq_true rfl)) dX8_best_35 ⟨Nat.le_of_ble_eq_true rfl, Nat.le_of_ble_eq_true rfl⟩)).run (fun r9 h_r9 => ?_)
  have h_r9 : r9 = 0 := h_r9
  subst h_r9
  refine lv_iload_n hx hb dX8_best_38 rfl (lv_at hl 3 rfl) ?_
  have hPc := hP.sub (ws' := [((b 2), .inr (5, [.ref (f6 0), .ref (f6 1), .ref (f6 2), .ref (f6 3), .ref (f6 4), .ref (f6 5), .int 0, .int 0]))]) [1] rfl
  have hKc := hK.sub (tys' := []) [] rfl
  refine vp_callSi ((va_runVN (As := [.int (nI dn), .int 0, .int 1]) (rest := []) ⟨hx, hb, hml, hown, hts⟩ (c_btl1 l dC dI g ((b 2)) (f6) ((nI dn)) (0) ) ⟨va_cnB 3 hts (gwC qw_282) rfl rfl rfl (nm_42 hN) (hts (.initialized RX6) qw_184) (by decide +kernel) ⟨Nat.le_of_ble_eq_true rfl, Nat.le_of_ble_eq_true rfl⟩, (hts (.instanceMethod yX6_bestToLift) qw_283), (hts (.selects RX6 yX6_bestToLift yX6_bestToLift) qw_284)⟩ ⟨fun a U g9 mk q => ⟨q.1, q.2.1, va_K.moved (u := U) (U := U.calling g9 mk a) (Vm.Alike.refl U.vm) q.2.2.1, Ev.bl q.2.2.2⟩, va_recv hK hP (ci := 5) (q0 := 1) rfl rfl, fun U hU hW => ⟨rfl, by rw [hU]; exact hPc, va_K.moved hW.alike hKc, hE.go hS (fun _ h => h.elim) hU hW⟩⟩ rfl rfl hl.1 rfl (lv_room (Nat.le_of_ble_eq_true rfl)) dX8_best_39 ⟨Nat.le_of_ble_eq_true rfl, Nat.le_of_ble_eq_true rfl⟩)).run (fun r10 h_r10 => ?_)
  have h_r10 : r10 = 0 := h_r10
  subst h_r10
  refine W.widen (k := 0) (n := 0) (Nat.le_of_ble_eq_true rfl) (Nat.le_of_ble_eq_true rfl) ?_
  exact W.iret (v := 0) hx hb hr (fun t ht hW => ⟨⟨0, (), rfl, (rfl), trivial⟩, hS.F ht⟩) hS.2.2 dX8_best_42
set_option maxHeartbeats 4000000 in
set_option maxRecDepth 100000 in
theorem c_8best_A2 (l : Launch) (dC : Nat → ClassId) (dI : Nat → Nat → Nat) (g : Gv) (sz : Nat) (x0 : Nat) (b : Nat → Nat) (f4 : Nat → Nat) (c4 : ClassId) (f5 : Nat → Nat) (f7 : Nat → Nat) (f6 : Nat → Nat) (f2 : Nat → Nat) (cK : ClassId) (kf : Nat → Option Nat) (cZ : ClassId) (fT : Nat → Nat) (fU : Nat → Nat) (sa : Nat → Nat) (sf : Nat → Nat → Nat) (sc : Nat → Nat → ClassId) (spf : Nat → Nat → Int32) (sdf : Nat → Nat → Int32) (slf : Nat → Nat → Int32) (srf : Nat → Nat → Int32) (sga : Nat → Nat → Option Nat) (sgb : Nat → Nat → Option Nat) (rows : va_W) (dn : Nat) (rn : Nat) (hdn : dn ≤ 219145) (hrn : rn ≤ 15) : Met l yX8_best (.code yX8_best cX8_best 4 (some .int) :: TBL) ({ frames := 3, cells := 0, slots := 0, locals := 180 }) (va_Pc [.ref x0, .int (nI dn), .int (nI rn), .int 2] (fun U => U.heap.size = sz ∧ va_P (dC, dI) vwCl [(x0, .inr (7, [.ref (b 0), .ref (b 1), .ref (b 2), .ref (b 3), .ref (b 4), .ref (b 5), .ref (b 6), .ref (b 7), .ref (b 8), .ref (b 9), .int 1])), ((b 2), .inr (5, [.ref (f6 0), .ref (f6 1), .ref (f6 2), .ref (f6 3), .ref (f6 4), .ref (f6 5), .int 0, .int 0])), ((b 6), .inr (0, [.int 0, .ref (fT 1), .int 0, .ref (fT 3), .int 0, .ref (fT 5), .ref (fT 6), .ref (fT 7), .int 0, .ref (fT 9), .ref (fT 10), .ref (fT 11), .ref (fT 12), .ref (fT 13)]))] U.heap ∧ va_K (dC, dI) vwCl [] U ∧ va_D (fun _ => True) [(x0, .inr (7, [.ref (b 0), .ref (b 1), .ref (b 2), .ref (b 3), .ref (b 4), .ref (b 5), .ref (b 6), .ref (b 7), .ref (b 8), .ref (b 9), .int 1])), ((b 2), .inr (5, [.ref (f6 0), .ref (f6 1), .ref (f6 2), .ref (f6 3), .ref (f6 4), .ref (f6 5), .int 0, .int 0])), ((b 6), .inr (0, [.int 0, .ref (fT 1), .int 0, .ref (fT 3), .int 0, .ref (fT 5), .ref (fT 6), .ref (fT 7), .int 0, .ref (fT 9), .ref (fT 10), .ref (fT 11), .ref (fT 12), .ref (fT 13)]))] ∧ Ev g (va_A [(x0, .inr (7, [.ref (b 0), .ref (b 1), .ref (b 2), .ref (b 3), .ref (b 4), .ref (b 5), .ref (b 6), .ref (b 7), .ref (b 8), .ref (b 9), .int 1])), ((b 2), .inr (5, [.ref (f6 0), .ref (f6 1), .ref (f6 2), .ref (f6 3), .ref (f6 4), .ref (f6 5), .int 0, .int 0])), ((b 6), .inr (0, [.int 0, .ref (fT 1), .int 0, .ref (fT 3), .int 0, .ref (fT 5), .ref (fT 6), .ref (fT 7), .int 0, .ref (fT 9), .ref (fT 10), .ref (fT 11), .ref (fT 12), .ref (fT 13)]))] sz) U)) (va_Qi (fun (r : Int32) (u : Unit) => r = 0) (fun (_ : Unit) (_ : State) => True) (va_A [(x0, .inr (7, [.ref (b 0), .ref (b 1), .ref (b 2), .ref (b 3), .ref (b 4), .ref (b 5), .ref (b 6), .ref (b 7), .ref (b 8), .ref (b 9), .int 1])), ((b 2), .inr (5, [.ref (f6 0), .ref (f6 1), .ref (f6 2), .ref (f6 3), .ref (f6 4), .ref (f6 5), .int 0, .int 0])), ((b 6), .inr (0, [.int 0, .ref (fT 1), .int 0, .ref (fT 3), .int 0, .ref (fT 5), .ref (fT 6), .ref (fT 7), .int 0, .ref (fT 9), .ref (fT 10), .ref (fT 11), .ref (fT 12), .ref (fT 13)]))] sz)) 0 0 (va_A [(x0, .inr (7, [.ref (b 0), .ref (b 1), .ref (b 2), .ref (b 3), .ref (b 4), .ref (b 5), .ref (b 6), .ref (b 7), .ref (b 8), .ref (b 9), .int 1])), ((b 2), .inr (5, [.ref (f6 0), .ref (f6 1), .ref (f6 2), .ref (f6 3), .ref (f6 4), .ref (f6 5), .int 0, .int 0])), ((b 6), .inr (0, [.int 0, .ref (fT 1), .int 0, .ref (fT 3), .int 0, .ref (fT 5), .ref (fT 6), .ref (fT 7), .int 0, .ref (fT 9), .ref (fT 10), .ref (fT 11), .ref (fT 12), .ref (fT 13)]))] sz) := by
  refine Met.ofW (cc := cX8_best) (maxL := 4) (ret := (some .int)) (by decide) rfl ?_
  intro p e s m args below meth c s₁ B hml hv
  obtain ⟨rfl, hsz, hP, hK, hD0, hE⟩ := hv
  have hx := B.exec
  have hb := B.bytes
  have hr := B.returns
  have hts0 := atoms_spec (ws := (.code yX8_best cX8_best 4 (some .int) :: TBL)) B.pre
  have hts := fun (w : Cond) (h : w ∈ TBL) => hts0 w (List.mem_cons_of_mem _ h)
  have hown : s.vm.findClass RX8 = some m.cls := findClass_of_methodNamed B.named
  have hlocks := B.notSynchronized
  have hN := hE.1
  subst hsz
  have hD := hD0.self (sz := s.heap.size)
  generalize hAe : va_A [(x0, .inr (7, [.ref (b 0), .ref (b 1), .ref (b 2), .ref (b 3), .ref (b 4), .ref (b 5), .ref (b 6), .ref (b 7), .ref (b 8), .ref (b 9), .int 1])), ((b 2), .inr (5, [.ref (f6 0), .ref (f6 1), .ref (f6 2), .ref (f6 3), .ref (f6 4), .ref (f6 5), .int 0, .int 0])), ((b 6), .inr (0, [.int 0, .ref (fT 1), .int 0, .ref (fT 3), .int 0, .ref (fT 5), .ref (fT 6), .ref (fT 7), .int 0, .ref (fT 9), .ref (fT 10), .ref (fT 11), .ref (fT 12), .ref (fT 13)]))] s.heap.size = A at hD hE ⊢
  have hA : ∀ q : Nat, s.heap.size ≤ q → A q := fun q h => by rw [← hAe]; exact Or.inr h
  have hS : va_S A s.heap s.heap [] := va_S.rf
  have hP : va_P (dC, dI) vwCl [(x0, .inr (7, [.ref (b 0), .ref (b 1), .ref (b 2), .ref (b 3), .ref (b 4), .ref (b 5), .ref (b 6), .ref (b 7), .ref (b 8), .ref (b 9), .int 1])), ((b 2), .inr (5, [.ref (f6 0), .ref (f6 1), .ref (f6 2), .ref (f6 3), .ref (f6 4), .ref (f6 5), .int 0, .int 0])), ((b 6), .inr (0, [.int 0, .ref (fT 1), .int 0, .ref (fT 3), .int 0, .ref (fT 5), .ref (fT 6), .ref (fT 7), .int 0, .ref (fT 9), .ref (fT 10), .ref (fT 11), .ref (fT 12), .ref (fT 13)]))] s.heap := hP
  have hl := lv_entry ([.ref x0, .int (nI dn), .int (nI rn), .int 2]) (n := 4) (Nat.le_of_ble_eq_true rfl)
  rw [lg_entry_eq]
  generalize (lg_sl ([.ref x0, .int (nI dn), .int (nI rn), .int 2]) ++ List.replicate (4 - (lg_sl ([.ref x0, .int (nI dn), .int (nI rn), .int 2])).length) Slot.unset).toArray = ls at hl ⊢
  have hl : lv_has ls 4 [(0, .ref x0), (1, .int (nI dn)), (2, .int (nI rn)), (3, .int 2)] := hl
  refine lv_iload_n hx hb dX8_best_0 rfl (lv_at hl 1 rfl) ?_
  have hPc := hP.sub (ws' := []) [] rfl
  have hKc := hK.sub (tys' := []) [] rfl
  refine vp_callSi ((va_runS (As := [.int (nI dn)]) (rest := []) ⟨hx, hb, hml, hown, hts⟩ (c_dl_in l dC dI g (dn) hdn) (va_cwS 1 hts (gwS qw_70 qw_71 qw_69 qw_68) rfl rfl rfl (by decide +kernel) ⟨Nat.le_of_ble_eq_true rfl, Nat.le_of_ble_eq_true rfl⟩) ⟨fun a U g9 mk q => ⟨q.1, q.2.1, va_K.moved (u := U) (U := U.calling g9 mk a) (Vm.Alike.refl U.vm) q.2.2.1, Ev.bl q.2.2.2⟩, fun U hU hW => ⟨rfl, by rw [hU]; exact hPc, va_K.moved hW.alike hKc, hE.go hS (fun _ h => h.elim) hU hW⟩⟩ rfl rfl hl.1 rfl (lv_room (Nat.le_of_ble_eq_true rfl)) dX8_best_1 ⟨Nat.le_of_ble_eq_true rfl, Nat.le_of_ble_eq_true rfl⟩)).run (fun r1 h_r1 => ?_)
  have h_r1 : r1 = 1 := h_r1
  subst h_r1
  refine lv_if_eq (tgt := 23) hx hb dX8_best_4 (by decide) (fun c4_2 => by exfalso; exact absurd c4_2 (by decide)) (fun c4_2 => ?_)
  refine lv_iload_n hx hb dX8_best_7 rfl (lv_at hl 2 rfl) ?_
  have hPc := hP.sub (ws' := []) [] rfl
  have hKc := hK.sub (tys' := []) [] rfl
  refine vp_callSi ((va_runS (As := [.int (nI rn)]) (rest := []) ⟨hx, hb, hml, hown, hts⟩ (c_ar_in l dC dI g (rn) hrn) (va_cwS 1 hts (gwS qw_270 qw_271 qw_69 qw_269) rfl rfl rfl (by decide +kernel) ⟨Nat.le_of_ble_eq_true rfl, Nat.le_of_ble_eq_true rfl⟩) ⟨fun a U g9 mk q => ⟨q.1, q.2.1, va_K.moved (u := U) (U := U.calling g9 mk a) (Vm.Alike.refl U.vm) q.2.2.1, Ev.bl q.2.2.2⟩, fun U hU hW => ⟨rfl, by rw [hU]; exact hPc, va_K.moved hW.alike hKc, hE.go hS (fun _ h => h.elim) hU hW⟩⟩ rfl rfl hl.1 rfl (lv_room (Nat.le_of_ble_eq_true rfl)) dX8_best_8 ⟨Nat.le_of_ble_eq_true rfl, Nat.le_of_ble_eq_true rfl⟩)).run (fun r3 h_r3 => ?_)
  have h_r3 : r3 = 1 := h_r3
  subst h_r3
  refine lv_if_eq (tgt := 23) hx hb dX8_best_11 (by decide) (fun c11_4 => by exfalso; exact absurd c11_4 (by decide)) (fun c11_4 => ?_)
  refine lv_iload_n hx hb dX8_best_14 rfl (lv_at hl 3 rfl) ?_
  refine lv_if_lt (tgt := 23) hx hb dX8_best_15 (by decide) (fun c15_5 => by exfalso; exact absurd c15_5 (by decide)) (fun c15_5 => ?_)
  refine lv_iload_n hx hb dX8_best_18 rfl (lv_at hl 3 rfl) ?_
  refine lv_iconst (v := 3) hx hb dX8_best_19 (by decide) ?_
  refine lv_icmp_le (tgt := 25) hx hb dX8_best_20 (by decide) (fun c20_6 => ?_) (fun c20_6 => by exfalso; exact absurd c20_6 (by decide))
  refine lv_aload_n hx hb dX8_best_25 rfl (lv_at hl 0 rfl) ?_
  have hPc := hP.sub (ws' := [(x0, .inr (7, [.ref (b 0), .ref (b 1), .ref (b 2), .ref (b 3), .ref (b 4), .ref (b 5), .ref (b 6), .ref (b 7), .ref (b 8), .ref (b 9), .int 1])), ((b 2), .inr (5, [.ref (f6 0), .ref (f6 1), .ref (f6 2), .ref (f6 3), .ref (f6 4), .ref (f6 5), .int 0, .int 0])), ((b 6), .inr (0, [.int 0, .ref (fT 1), .int 0, .ref (fT 3), .int 0, .ref (fT 5), .ref (fT 6), .ref (fT 7), .int 0, .ref (fT 9), .ref (fT 10), .ref (fT 11), .ref (fT 12), .ref (fT 13)]))]) [0, 1, 2] rfl
  have hKc := hK.sub (tys' := []) [] rfl
  have hDc := hD.sub (ws' := [(x0, .inr (7, [.ref (b 0), .ref (b 1), .ref (b 2), .ref (b 3), .ref (b 4), .ref (b 5), .ref (b 6), .ref (b 7), .ref (b 8), .ref (b 9), .int 1])), ((b 2), .inr (5, [.ref (f6 0), .ref (f6 1), .ref (f6 2), .ref (f6 3), .ref (f6 4), .ref (f6 5), .int 0, .int 0])), ((b 6), .inr (0, [.int 0, .ref (fT 1), .int 0, .ref (fT 3), .int 0, .ref (fT 5), .ref (fT 6), .ref (fT 7), .int 0, .ref (fT 9), .ref (fT 10), .ref (fT 11), .ref (fT 12), .ref (fT 13)]))]) [0, 1, 2] (by decide) rfl
  have hFc := va_free (wc := [(x0, .inr (7, [.ref (b 0), .ref (b 1), .ref (b 2), .ref (b 3), .ref (b 4), .ref (b 5), .ref (b 6), .ref (b 7), .ref (b 8), .ref (b 9), .int 1])), ((b 2), .inr (5, [.ref (f6 0), .ref (f6 1), .ref (f6 2), .ref (f6 3), .ref (f6 4), .ref (f6 5), .int 0, .int 0])), ((b 6), .inr (0, [.int 0, .ref (fT 1), .int 0, .ref (fT 3), .int 0, .ref (fT 5), .ref (fT 6), .ref (fT 7), .int 0, .ref (fT 9), .ref (fT 10), .ref (fT 11), .ref (fT 12), .ref (fT 13)]))]) hD hS hA [0, 1, 2] rfl
  refine va_callr (va_runV (As := []) (rest := []) ⟨hx, hb, hml, hown, hts⟩ (c_utd l dC dI g s.heap.size (x0) (b) (f4) (c4) (f5) (f7) (f6) (f2) (cK) (kf) (cZ) (fT) (fU) (sa) (sf) (sc) (spf) (sdf) (slf) (srf) (sga) (sgb) (rows) ) (cwV 0 hts (gwV qw_273 qw_274 qw_275 qw_69 qw_272) rfl rfl rfl (by decide +kernel) ⟨Nat.le_of_ble_eq_true rfl, Nat.le_of_ble_eq_true rfl⟩) ⟨fun a U g9 mk q => ⟨q.1, q.2.1, q.2.2.1, va_K.moved (u := U) (U := U.calling g9 mk a) (Vm.Alike.refl U.vm) q.2.2.2.1, q.2.2.2.2.1, Ev.bl q.2.2.2.2.2⟩, va_recv hK hP (ci := 7) (q0 := 0) rfl rfl, fun U hU hW => ⟨rfl, by rw [hU], by rw [hU]; exact hPc, va_K.moved hW.alike hKc, hDc.weaken (fun _ _ _ _ => trivial), hE.go hS hFc hU hW⟩⟩ rfl rfl hl.1 rfl (lv_room (Nat.le_of_ble_eq_true rfl)) dX8_best_26 ⟨Nat.le_of_ble_eq_true rfl, Nat.le_of_ble_eq_true rfl⟩) hS (fun q _ h => hFc q h) hFc (fun u7 r8 t H1 locs ht hvm h_u7 hB hz1 hk1 hS => ?_)
  obtain ⟨hrr, hP1, hK1, hD1⟩ := hB
  rw [ht] at hP1
  have hK1 := va_K.moved hvm.symm hK1
  obtain ⟨hP, hD⟩ := va_join (wr := []) (w1 := [(x0, .inr (7, [.ref (b 0), .ref (b 1), .ref (b 2), .ref (b 3), .ref (b 4), .ref (b 5), .ref (b 6), .ref (b 7), .ref (b 8), .ref (b 9), .int 0])), ((b 2), .inr (5, [.ref (f6 0), .ref (f6 1), .ref (f6 2), .ref (f6 3), .ref (f6 4), .ref (f6 5), .int 0, .int 0])), ((b 6), .inr (0, [.int 0, .ref (fT 1), .int 0, .ref (fT 3), .int 0, .ref (fT 5), .ref (fT 6), .ref (fT 7), .int 0, .ref (fT 9), .ref (fT 10), .ref (fT 11), .ref (fT 12), .ref (fT 13)]))]) hP hD [0, 1, 2] [] rfl rfl (by decide) (by decide) hk1 hFc hP1 hD1
  have hK := hK.app hK1
  have hK : va_K (dC, dI) vwCl [] s := hK
  generalize H1 = H at hP hS ⊢
  have hP : va_P (dC, dI) vwCl [(x0, .inr (7, [.ref (b 0), .ref (b 1), .ref (b 2), .ref (b 3), .ref (b 4), .ref (b 5), .ref (b 6), .ref (b 7), .ref (b 8), .ref (b 9), .int 0])), ((b 2), .inr (5, [.ref (f6 0), .ref (f6 1), .ref (f6 2), .ref (f6 3), .ref (f6 4), .ref (f6 5), .int 0, .int 0])), ((b 6), .inr (0, [.int 0, .ref (fT 1), .int 0, .ref (fT 3), .int 0, .ref (fT 5), .ref (fT 6), .ref (fT 7), .int 0, .ref (fT 9), .ref (fT 10), .ref (fT 11), .ref (fT 12), .ref (fT 13)]))] H := hP
  have hD : va_D A [(x0, .inr (7, [.ref (b 0), .ref (b 1), .ref (b 2), .ref (b 3), .ref (b 4), .ref (b 5), .ref (b 6), .ref (b 7), .ref (b 8), .ref (b 9), .int 0])), ((b 2), .inr (5, [.ref (f6 0), .ref (f6 1), .ref (f6 2), .ref (f6 3), .ref (f6 4), .ref (f6 5), .int 0, .int 0])), ((b 6), .inr (0, [.int 0, .ref (fT 1), .int 0, .ref (fT 3), .int 0, .ref (fT 5), .ref (fT 6), .ref (fT 7), .int 0, .ref (fT 9), .ref (fT 10), .ref (fT 11), .ref (fT 12), .ref (fT 13)]))] := hD
  refine W.widen (k := 0) (n := 0) (Nat.le_of_ble_eq_true rfl) (Nat.le_of_ble_eq_true rfl) ?_
  have hrr : r8 = (b 2) := hrr
  subst hrr
  refine lv_iload_n hx hb dX8_best_29 rfl (lv_at hl 1 rfl) ?_
  refine lv_aload_n hx hb dX8_best_30 rfl (lv_at hl 0 rfl) ?_
  refine va_get (D := (dC, dI)) (ci := 7) (v := .ref (b 6)) (C := RX8) (T := TX8) (N := 11) hx hb hts inlX8 hown hK hP 0 rfl rfl 6 (by decide) (hts (.fieldLink RX8 51 "ClosedUntil" "told" "LClosedUntil$Holdings;") qw_205) (fun _ h9 => h9) rfl dX8_best_31 ?_
  refine lv_iload_n hx hb dX8_best_34 rfl (lv_at hl 2 rfl) ?_
  have hPc := hP.sub (ws' := [((b 6), .inr (0, [.int 0, .ref (fT 1), .int 0, .ref (fT 3), .int 0, .ref (fT 5), .ref (fT 6), .ref (fT 7), .int 0, .ref (fT 9), .ref (fT 10), .ref (fT 11), .ref (fT 12), .ref (fT 13)]))]) [2] rfl
  have hKc := hK.sub (tys' := []) [] rfl
  refine vp_callSi ((va_runVN (As := [.int (nI rn)]) (rest := [.int (nI dn), .ref (b 2)]) ⟨hx, hb, hml, hown, hts⟩ (c_hf l dC dI g ((b 6)) (fT) ((nI rn)) ) ⟨va_cnB 1 hts (gwC qw_276) rfl rfl rfl (nm_36 hN) (hts (.initialized RX1) qw_202) (by decide +kernel) ⟨Nat.le_of_ble_eq_true rfl, Nat.le_of_ble_eq_true rfl⟩, (hts (.instanceMethod yX1_holdingFor) qw_277), (hts (.selects RX1 yX1_holdingFor yX1_holdingFor) qw_278)⟩ ⟨fun a U g9 mk q => ⟨q.1, q.2.1, va_K.moved (u := U) (U := U.calling g9 mk a) (Vm.Alike.refl U.vm) q.2.2.1, Ev.bl q.2.2.2⟩, va_recv hK hP (ci := 0) (q0 := 2) rfl rfl, fun U hU hW => ⟨rfl, by rw [hU]; exact hPc, va_K.moved hW.alike hKc, hE.go hS (fun _ h => h.elim) hU hW⟩⟩ rfl rfl hl.1 rfl (lv_room (Nat.le_of_ble_eq_true rfl)) dX8_best_35 ⟨Nat.le_of_ble_eq_true rfl, Nat.le_of_ble_eq_true rfl⟩)).run (fun r9 h_r9 => ?_)
  have h_r9 : r9 = 0 := h_r9
  subst h_r9
  refine lv_iload_n hx hb dX8_best_38 rfl (lv_at hl 3 rfl) ?_
  have hPc := hP.sub (ws' := [((b 2), .inr (5, [.ref (f6 0), .ref (f6 1), .ref (f6 2), .ref (f6 3), .ref (f6 4), .ref (f6 5), .int 0, .int 0]))]) [1] rfl
  have hKc := hK.sub (tys' := []) [] rfl
  refine vp_callSi ((va_runVN (As := [.int (nI dn), .int 0, .int 2]) (rest := []) ⟨hx, hb, hml, hown, hts⟩ (c_btl2 l dC dI g ((b 2)) (f6) ((nI dn)) (0) ) ⟨va_cnB 3 hts (gwC qw_282) rfl rfl rfl (nm_42 hN) (hts (.initialized RX6) qw_184) (by decide +kernel) ⟨Nat.le_of_ble_eq_true rfl, Nat.le_of_ble_eq_true rfl⟩, (hts (.instanceMethod yX6_bestToLift) qw_283), (hts (.selects RX6 yX6_bestToLift yX6_bestToLift) qw_284)⟩ ⟨fun a U g9 mk q => ⟨q.1, q.2.1, va_K.moved (u := U) (U := U.calling g9 mk a) (Vm.Alike.refl U.vm) q.2.2.1, Ev.bl q.2.2.2⟩, va_recv hK hP (ci := 5) (q0 := 1) rfl rfl, fun U hU hW => ⟨rfl, by rw [hU]; exact hPc, va_K.moved hW.alike hKc, hE.go hS (fun _ h => h.elim) hU hW⟩⟩ rfl rfl hl.1 rfl (lv_room (Nat.le_of_ble_eq_true rfl)) dX8_best_39 ⟨Nat.le_of_ble_eq_true rfl, Nat.le_of_ble_eq_true rfl⟩)).run (fun r10 h_r10 => ?_)
  have h_r10 : r10 = 0 := h_r10
  subst h_r10
  refine W.widen (k := 0) (n := 0) (Nat.le_of_ble_eq_true rfl) (Nat.le_of_ble_eq_true rfl) ?_
  exact W.iret (v := 0) hx hb hr (fun t ht hW => ⟨⟨0, (), rfl, (rfl), trivial⟩, hS.F ht⟩) hS.2.2 dX8_best_42
set_option maxHeartbeats 4000000 in
set_option maxRecDepth 100000 in
theorem c_8best_A3 (l : Launch) (dC : Nat → ClassId) (dI : Nat → Nat → Nat) (g : Gv) (sz : Nat) (x0 : Nat) (b : Nat → Nat) (f4 : Nat → Nat) (c4 : ClassId) (f5 : Nat → Nat) (f7 : Nat → Nat) (f6 : Nat → Nat) (f2 : Nat → Nat) (cK : ClassId) (kf : Nat → Option Nat) (cZ : ClassId) (fT : Nat → Nat) (fU : Nat → Nat) (sa : Nat → Nat) (sf : Nat → Nat → Nat) (sc : Nat → Nat → ClassId) (spf : Nat → Nat → Int32) (sdf : Nat → Nat → Int32) (slf : Nat → Nat → Int32) (srf : Nat → Nat → Int32) (sga : Nat → Nat → Option Nat) (sgb : Nat → Nat → Option Nat) (rows : va_W) (dn : Nat) (rn : Nat) (hdn : dn ≤ 219145) (hrn : rn ≤ 15) : Met l yX8_best (.code yX8_best cX8_best 4 (some .int) :: TBL) ({ frames := 3, cells := 0, slots := 0, locals := 180 }) (va_Pc [.ref x0, .int (nI dn), .int (nI rn), .int 3] (fun U => U.heap.size = sz ∧ va_P (dC, dI) vwCl [(x0, .inr (7, [.ref (b 0), .ref (b 1), .ref (b 2), .ref (b 3), .ref (b 4), .ref (b 5), .ref (b 6), .ref (b 7), .ref (b 8), .ref (b 9), .int 1])), ((b 2), .inr (5, [.ref (f6 0), .ref (f6 1), .ref (f6 2), .ref (f6 3), .ref (f6 4), .ref (f6 5), .int 0, .int 0])), ((b 6), .inr (0, [.int 0, .ref (fT 1), .int 0, .ref (fT 3), .int 0, .ref (fT 5), .ref (fT 6), .ref (fT 7), .int 0, .ref (fT 9), .ref (fT 10), .ref (fT 11), .ref (fT 12), .ref (fT 13)]))] U.heap ∧ va_K (dC, dI) vwCl [] U ∧ va_D (fun _ => True) [(x0, .inr (7, [.ref (b 0), .ref (b 1), .ref (b 2), .ref (b 3), .ref (b 4), .ref (b 5), .ref (b 6), .ref (b 7), .ref (b 8), .ref (b 9), .int 1])), ((b 2), .inr (5, [.ref (f6 0), .ref (f6 1), .ref (f6 2), .ref (f6 3), .ref (f6 4), .ref (f6 5), .int 0, .int 0])), ((b 6), .inr (0, [.int 0, .ref (fT 1), .int 0, .ref (fT 3), .int 0, .ref (fT 5), .ref (fT 6), .ref (fT 7), .int 0, .ref (fT 9), .ref (fT 10), .ref (fT 11), .ref (fT 12), .ref (fT 13)]))] ∧ Ev g (va_A [(x0, .inr (7, [.ref (b 0), .ref (b 1), .ref (b 2), .ref (b 3), .ref (b 4), .ref (b 5), .ref (b 6), .ref (b 7), .ref (b 8), .ref (b 9), .int 1])), ((b 2), .inr (5, [.ref (f6 0), .ref (f6 1), .ref (f6 2), .ref (f6 3), .ref (f6 4), .ref (f6 5), .int 0, .int 0])), ((b 6), .inr (0, [.int 0, .ref (fT 1), .int 0, .ref (fT 3), .int 0, .ref (fT 5), .ref (fT 6), .ref (fT 7), .int 0, .ref (fT 9), .ref (fT 10), .ref (fT 11), .ref (fT 12), .ref (fT 13)]))] sz) U)) (va_Qi (fun (r : Int32) (u : Unit) => r = 0) (fun (_ : Unit) (_ : State) => True) (va_A [(x0, .inr (7, [.ref (b 0), .ref (b 1), .ref (b 2), .ref (b 3), .ref (b 4), .ref (b 5), .ref (b 6), .ref (b 7), .ref (b 8), .ref (b 9), .int 1])), ((b 2), .inr (5, [.ref (f6 0), .ref (f6 1), .ref (f6 2), .ref (f6 3), .ref (f6 4), .ref (f6 5), .int 0, .int 0])), ((b 6), .inr (0, [.int 0, .ref (fT 1), .int 0, .ref (fT 3), .int 0, .ref (fT 5), .ref (fT 6), .ref (fT 7), .int 0, .ref (fT 9), .ref (fT 10), .ref (fT 11), .ref (fT 12), .ref (fT 13)]))] sz)) 0 0 (va_A [(x0, .inr (7, [.ref (b 0), .ref (b 1), .ref (b 2), .ref (b 3), .ref (b 4), .ref (b 5), .ref (b 6), .ref (b 7), .ref (b 8), .ref (b 9), .int 1])), ((b 2), .inr (5, [.ref (f6 0), .ref (f6 1), .ref (f6 2), .ref (f6 3), .ref (f6 4), .ref (f6 5), .int 0, .int 0])), ((b 6), .inr (0, [.int 0, .ref (fT 1), .int 0, .ref (fT 3), .int 0, .ref (fT 5), .ref (fT 6), .ref (fT 7), .int 0, .ref (fT 9), .ref (fT 10), .ref (fT 11), .ref (fT 12), .ref (fT 13)]))] sz) := by
  refine Met.ofW (cc := cX8_best) (maxL := 4) (ret := (some .int)) (by decide) rfl ?_
  intro p e s m args below meth c s₁ B hml hv
  obtain ⟨rfl, hsz, hP, hK, hD0, hE⟩ := hv
  have hx := B.exec
  have hb := B.bytes
  have hr := B.returns
  have hts0 := atoms_spec (ws := (.code yX8_best cX8_best 4 (some .int) :: TBL)) B.pre
  have hts := fun (w : Cond) (h : w ∈ TBL) => hts0 w (List.mem_cons_of_mem _ h)
  have hown : s.vm.findClass RX8 = some m.cls := findClass_of_methodNamed B.named
  have hlocks := B.notSynchronized
  have hN := hE.1
  subst hsz
  have hD := hD0.self (sz := s.heap.size)
  generalize hAe : va_A [(x0, .inr (7, [.ref (b 0), .ref (b 1), .ref (b 2), .ref (b 3), .ref (b 4), .ref (b 5), .ref (b 6), .ref (b 7), .ref (b 8), .ref (b 9), .int 1])), ((b 2), .inr (5, [.ref (f6 0), .ref (f6 1), .ref (f6 2), .ref (f6 3), .ref (f6 4), .ref (f6 5), .int 0, .int 0])), ((b 6), .inr (0, [.int 0, .ref (fT 1), .int 0, .ref (fT 3), .int 0, .ref (fT 5), .ref (fT 6), .ref (fT 7), .int 0, .ref (fT 9), .ref (fT 10), .ref (fT 11), .ref (fT 12), .ref (fT 13)]))] s.heap.size = A at hD hE ⊢
  have hA : ∀ q : Nat, s.heap.size ≤ q → A q := fun q h => by rw [← hAe]; exact Or.inr h
  have hS : va_S A s.heap s.heap [] := va_S.rf
  have hP : va_P (dC, dI) vwCl [(x0, .inr (7, [.ref (b 0), .ref (b 1), .ref (b 2), .ref (b 3), .ref (b 4), .ref (b 5), .ref (b 6), .ref (b 7), .ref (b 8), .ref (b 9), .int 1])), ((b 2), .inr (5, [.ref (f6 0), .ref (f6 1), .ref (f6 2), .ref (f6 3), .ref (f6 4), .ref (f6 5), .int 0, .int 0])), ((b 6), .inr (0, [.int 0, .ref (fT 1), .int 0, .ref (fT 3), .int 0, .ref (fT 5), .ref (fT 6), .ref (fT 7), .int 0, .ref (fT 9), .ref (fT 10), .ref (fT 11), .ref (fT 12), .ref (fT 13)]))] s.heap := hP
  have hl := lv_entry ([.ref x0, .int (nI dn), .int (nI rn), .int 3]) (n := 4) (Nat.le_of_ble_eq_true rfl)
  rw [lg_entry_eq]
  generalize (lg_sl ([.ref x0, .int (nI dn), .int (nI rn), .int 3]) ++ List.replicate (4 - (lg_sl ([.ref x0, .int (nI dn), .int (nI rn), .int 3])).length) Slot.unset).toArray = ls at hl ⊢
  have hl : lv_has ls 4 [(0, .ref x0), (1, .int (nI dn)), (2, .int (nI rn)), (3, .int 3)] := hl
  refine lv_iload_n hx hb dX8_best_0 rfl (lv_at hl 1 rfl) ?_
  have hPc := hP.sub (ws' := []) [] rfl
  have hKc := hK.sub (tys' := []) [] rfl
  refine vp_callSi ((va_runS (As := [.int (nI dn)]) (rest := []) ⟨hx, hb, hml, hown, hts⟩ (c_dl_in l dC dI g (dn) hdn) (va_cwS 1 hts (gwS qw_70 qw_71 qw_69 qw_68) rfl rfl rfl (by decide +kernel) ⟨Nat.le_of_ble_eq_true rfl, Nat.le_of_ble_eq_true rfl⟩) ⟨fun a U g9 mk q => ⟨q.1, q.2.1, va_K.moved (u := U) (U := U.calling g9 mk a) (Vm.Alike.refl U.vm) q.2.2.1, Ev.bl q.2.2.2⟩, fun U hU hW => ⟨rfl, by rw [hU]; exact hPc, va_K.moved hW.alike hKc, hE.go hS (fun _ h => h.elim) hU hW⟩⟩ rfl rfl hl.1 rfl (lv_room (Nat.le_of_ble_eq_true rfl)) dX8_best_1 ⟨Nat.le_of_ble_eq_true rfl, Nat.le_of_ble_eq_true rfl⟩)).run (fun r1 h_r1 => ?_)
  have h_r1 : r1 = 1 := h_r1
  subst h_r1
  refine lv_if_eq (tgt := 23) hx hb dX8_best_4 (by decide) (fun c4_2 => by exfalso; exact absurd c4_2 (by decide)) (fun c4_2 => ?_)
  refine lv_iload_n hx hb dX8_best_7 rfl (lv_at hl 2 rfl) ?_
  have hPc := hP.sub (ws' := []) [] rfl
  have hKc := hK.sub (tys' := []) [] rfl
  refine vp_callSi ((va_runS (As := [.int (nI rn)]) (rest := []) ⟨hx, hb, hml, hown, hts⟩ (c_ar_in l dC dI g (rn) hrn) (va_cwS 1 hts (gwS qw_270 qw_271 qw_69 qw_269) rfl rfl rfl (by decide +kernel) ⟨Nat.le_of_ble_eq_true rfl, Nat.le_of_ble_eq_true rfl⟩) ⟨fun a U g9 mk q => ⟨q.1, q.2.1, va_K.moved (u := U) (U := U.calling g9 mk a) (Vm.Alike.refl U.vm) q.2.2.1, Ev.bl q.2.2.2⟩, fun U hU hW => ⟨rfl, by rw [hU]; exact hPc, va_K.moved hW.alike hKc, hE.go hS (fun _ h => h.elim) hU hW⟩⟩ rfl rfl hl.1 rfl (lv_room (Nat.le_of_ble_eq_true rfl)) dX8_best_8 ⟨Nat.le_of_ble_eq_true rfl, Nat.le_of_ble_eq_true rfl⟩)).run (fun r3 h_r3 => ?_)
  have h_r3 : r3 = 1 := h_r3
  subst h_r3
  refine lv_if_eq (tgt := 23) hx hb dX8_best_11 (by decide) (fun c11_4 => by exfalso; exact absurd c11_4 (by decide)) (fun c11_4 => ?_)
  refine lv_iload_n hx hb dX8_best_14 rfl (lv_at hl 3 rfl) ?_
  refine lv_if_lt (tgt := 23) hx hb dX8_best_15 (by decide) (fun c15_5 => by exfalso; exact absurd c15_5 (by decide)) (fun c15_5 => ?_)
  refine lv_iload_n hx hb dX8_best_18 rfl (lv_at hl 3 rfl) ?_
  refine lv_iconst (v := 3) hx hb dX8_best_19 (by decide) ?_
  refine lv_icmp_le (tgt := 25) hx hb dX8_best_20 (by decide) (fun c20_6 => ?_) (fun c20_6 => by exfalso; exact absurd c20_6 (by decide))
  refine lv_aload_n hx hb dX8_best_25 rfl (lv_at hl 0 rfl) ?_
  have hPc := hP.sub (ws' := [(x0, .inr (7, [.ref (b 0), .ref (b 1), .ref (b 2), .ref (b 3), .ref (b 4), .ref (b 5), .ref (b 6), .ref (b 7), .ref (b 8), .ref (b 9), .int 1])), ((b 2), .inr (5, [.ref (f6 0), .ref (f6 1), .ref (f6 2), .ref (f6 3), .ref (f6 4), .ref (f6 5), .int 0, .int 0])), ((b 6), .inr (0, [.int 0, .ref (fT 1), .int 0, .ref (fT 3), .int 0, .ref (fT 5), .ref (fT 6), .ref (fT 7), .int 0, .ref (fT 9), .ref (fT 10), .ref (fT 11), .ref (fT 12), .ref (fT 13)]))]) [0, 1, 2] rfl
  have hKc := hK.sub (tys' := []) [] rfl
  have hDc := hD.sub (ws' := [(x0, .inr (7, [.ref (b 0), .ref (b 1), .ref (b 2), .ref (b 3), .ref (b 4), .ref (b 5), .ref (b 6), .ref (b 7), .ref (b 8), .ref (b 9), .int 1])), ((b 2), .inr (5, [.ref (f6 0), .ref (f6 1), .ref (f6 2), .ref (f6 3), .ref (f6 4), .ref (f6 5), .int 0, .int 0])), ((b 6), .inr (0, [.int 0, .ref (fT 1), .int 0, .ref (fT 3), .int 0, .ref (fT 5), .ref (fT 6), .ref (fT 7), .int 0, .ref (fT 9), .ref (fT 10), .ref (fT 11), .ref (fT 12), .ref (fT 13)]))]) [0, 1, 2] (by decide) rfl
  have hFc := va_free (wc := [(x0, .inr (7, [.ref (b 0), .ref (b 1), .ref (b 2), .ref (b 3), .ref (b 4), .ref (b 5), .ref (b 6), .ref (b 7), .ref (b 8), .ref (b 9), .int 1])), ((b 2), .inr (5, [.ref (f6 0), .ref (f6 1), .ref (f6 2), .ref (f6 3), .ref (f6 4), .ref (f6 5), .int 0, .int 0])), ((b 6), .inr (0, [.int 0, .ref (fT 1), .int 0, .ref (fT 3), .int 0, .ref (fT 5), .ref (fT 6), .ref (fT 7), .int 0, .ref (fT 9), .ref (fT 10), .ref (fT 11), .ref (fT 12), .ref (fT 13)]))]) hD hS hA [0, 1, 2] rfl
  refine va_callr (va_runV (As := []) (rest := []) ⟨hx, hb, hml, hown, hts⟩ (c_utd l dC dI g s.heap.size (x0) (b) (f4) (c4) (f5) (f7) (f6) (f2) (cK) (kf) (cZ) (fT) (fU) (sa) (sf) (sc) (spf) (sdf) (slf) (srf) (sga) (sgb) (rows) ) (cwV 0 hts (gwV qw_273 qw_274 qw_275 qw_69 qw_272) rfl rfl rfl (by decide +kernel) ⟨Nat.le_of_ble_eq_true rfl, Nat.le_of_ble_eq_true rfl⟩) ⟨fun a U g9 mk q => ⟨q.1, q.2.1, q.2.2.1, va_K.moved (u := U) (U := U.calling g9 mk a) (Vm.Alike.refl U.vm) q.2.2.2.1, q.2.2.2.2.1, Ev.bl q.2.2.2.2.2⟩, va_recv hK hP (ci := 7) (q0 := 0) rfl rfl, fun U hU hW => ⟨rfl, by rw [hU], by rw [hU]; exact hPc, va_K.moved hW.alike hKc, hDc.weaken (fun _ _ _ _ => trivial), hE.go hS hFc hU hW⟩⟩ rfl rfl hl.1 rfl (lv_room (Nat.le_of_ble_eq_true rfl)) dX8_best_26 ⟨Nat.le_of_ble_eq_true rfl, Nat.le_of_ble_eq_true rfl⟩) hS (fun q _ h => hFc q h) hFc (fun u7 r8 t H1 locs ht hvm h_u7 hB hz1 hk1 hS => ?_)
  obtain ⟨hrr, hP1, hK1, hD1⟩ := hB
  rw [ht] at hP1
  have hK1 := va_K.moved hvm.symm hK1
  obtain ⟨hP, hD⟩ := va_join (wr := []) (w1 := [(x0, .inr (7, [.ref (b 0), .ref (b 1), .ref (b 2), .ref (b 3), .ref (b 4), .ref (b 5), .ref (b 6), .ref (b 7), .ref (b 8), .ref (b 9), .int 0])), ((b 2), .inr (5, [.ref (f6 0), .ref (f6 1), .ref (f6 2), .ref (f6 3), .ref (f6 4), .ref (f6 5), .int 0, .int 0])), ((b 6), .inr (0, [.int 0, .ref (fT 1), .int 0, .ref (fT 3), .int 0, .ref (fT 5), .ref (fT 6), .ref (fT 7), .int 0, .ref (fT 9), .ref (fT 10), .ref (fT 11), .ref (fT 12), .ref (fT 13)]))]) hP hD [0, 1, 2] [] rfl rfl (by decide) (by decide) hk1 hFc hP1 hD1
  have hK := hK.app hK1
  have hK : va_K (dC, dI) vwCl [] s := hK
  generalize H1 = H at hP hS ⊢
  have hP : va_P (dC, dI) vwCl [(x0, .inr (7, [.ref (b 0), .ref (b 1), .ref (b 2), .ref (b 3), .ref (b 4), .ref (b 5), .ref (b 6), .ref (b 7), .ref (b 8), .ref (b 9), .int 0])), ((b 2), .inr (5, [.ref (f6 0), .ref (f6 1), .ref (f6 2), .ref (f6 3), .ref (f6 4), .ref (f6 5), .int 0, .int 0])), ((b 6), .inr (0, [.int 0, .ref (fT 1), .int 0, .ref (fT 3), .int 0, .ref (fT 5), .ref (fT 6), .ref (fT 7), .int 0, .ref (fT 9), .ref (fT 10), .ref (fT 11), .ref (fT 12), .ref (fT 13)]))] H := hP
  have hD : va_D A [(x0, .inr (7, [.ref (b 0), .ref (b 1), .ref (b 2), .ref (b 3), .ref (b 4), .ref (b 5), .ref (b 6), .ref (b 7), .ref (b 8), .ref (b 9), .int 0])), ((b 2), .inr (5, [.ref (f6 0), .ref (f6 1), .ref (f6 2), .ref (f6 3), .ref (f6 4), .ref (f6 5), .int 0, .int 0])), ((b 6), .inr (0, [.int 0, .ref (fT 1), .int 0, .ref (fT 3), .int 0, .ref (fT 5), .ref (fT 6), .ref (fT 7), .int 0, .ref (fT 9), .ref (fT 10), .ref (fT 11), .ref (fT 12), .ref (fT 13)]))] := hD
  refine W.widen (k := 0) (n := 0) (Nat.le_of_ble_eq_true rfl) (Nat.le_of_ble_eq_true rfl) ?_
  have hrr : r8 = (b 2) := hrr
  subst hrr
  refine lv_iload_n hx hb dX8_best_29 rfl (lv_at hl 1 rfl) ?_
  refine lv_aload_n hx hb dX8_best_30 rfl (lv_at hl 0 rfl) ?_
  refine va_get (D := (dC, dI)) (ci := 7) (v := .ref (b 6)) (C := RX8) (T := TX8) (N := 11) hx hb hts inlX8 hown hK hP 0 rfl rfl 6 (by decide) (hts (.fieldLink RX8 51 "ClosedUntil" "told" "LClosedUntil$Holdings;") qw_205) (fun _ h9 => h9) rfl dX8_best_31 ?_
  refine lv_iload_n hx hb dX8_best_34 rfl (lv_at hl 2 rfl) ?_
  have hPc := hP.sub (ws' := [((b 6), .inr (0, [.int 0, .ref (fT 1), .int 0, .ref (fT 3), .int 0, .ref (fT 5), .ref (fT 6), .ref (fT 7), .int 0, .ref (fT 9), .ref (fT 10), .ref (fT 11), .ref (fT 12), .ref (fT 13)]))]) [2] rfl
  have hKc := hK.sub (tys' := []) [] rfl
  refine vp_callSi ((va_runVN (As := [.int (nI rn)]) (rest := [.int (nI dn), .ref (b 2)]) ⟨hx, hb, hml, hown, hts⟩ (c_hf l dC dI g ((b 6)) (fT) ((nI rn)) ) ⟨va_cnB 1 hts (gwC qw_276) rfl rfl rfl (nm_36 hN) (hts (.initialized RX1) qw_202) (by decide +kernel) ⟨Nat.le_of_ble_eq_true rfl, Nat.le_of_ble_eq_true rfl⟩, (hts (.instanceMethod yX1_holdingFor) qw_277), (hts (.selects RX1 yX1_holdingFor yX1_holdingFor) qw_278)⟩ ⟨fun a U g9 mk q => ⟨q.1, q.2.1, va_K.moved (u := U) (U := U.calling g9 mk a) (Vm.Alike.refl U.vm) q.2.2.1, Ev.bl q.2.2.2⟩, va_recv hK hP (ci := 0) (q0 := 2) rfl rfl, fun U hU hW => ⟨rfl, by rw [hU]; exact hPc, va_K.moved hW.alike hKc, hE.go hS (fun _ h => h.elim) hU hW⟩⟩ rfl rfl hl.1 rfl (lv_room (Nat.le_of_ble_eq_true rfl)) dX8_best_35 ⟨Nat.le_of_ble_eq_true rfl, Nat.le_of_ble_eq_true rfl⟩)).run (fun r9 h_r9 => ?_)
  have h_r9 : r9 = 0 := h_r9
  subst h_r9
  refine lv_iload_n hx hb dX8_best_38 rfl (lv_at hl 3 rfl) ?_
  have hPc := hP.sub (ws' := [((b 2), .inr (5, [.ref (f6 0), .ref (f6 1), .ref (f6 2), .ref (f6 3), .ref (f6 4), .ref (f6 5), .int 0, .int 0]))]) [1] rfl
  have hKc := hK.sub (tys' := []) [] rfl
  refine vp_callSi ((va_runVN (As := [.int (nI dn), .int 0, .int 3]) (rest := []) ⟨hx, hb, hml, hown, hts⟩ (c_btl3 l dC dI g ((b 2)) (f6) ((nI dn)) (0) ) ⟨va_cnB 3 hts (gwC qw_282) rfl rfl rfl (nm_42 hN) (hts (.initialized RX6) qw_184) (by decide +kernel) ⟨Nat.le_of_ble_eq_true rfl, Nat.le_of_ble_eq_true rfl⟩, (hts (.instanceMethod yX6_bestToLift) qw_283), (hts (.selects RX6 yX6_bestToLift yX6_bestToLift) qw_284)⟩ ⟨fun a U g9 mk q => ⟨q.1, q.2.1, va_K.moved (u := U) (U := U.calling g9 mk a) (Vm.Alike.refl U.vm) q.2.2.1, Ev.bl q.2.2.2⟩, va_recv hK hP (ci := 5) (q0 := 1) rfl rfl, fun U hU hW => ⟨rfl, by rw [hU]; exact hPc, va_K.moved hW.alike hKc, hE.go hS (fun _ h => h.elim) hU hW⟩⟩ rfl rfl hl.1 rfl (lv_room (Nat.le_of_ble_eq_true rfl)) dX8_best_39 ⟨Nat.le_of_ble_eq_true rfl, Nat.le_of_ble_eq_true rfl⟩)).run (fun r10 h_r10 => ?_)
  have h_r10 : r10 = 0 := h_r10
  subst h_r10
  refine W.widen (k := 0) (n := 0) (Nat.le_of_ble_eq_true rfl) (Nat.le_of_ble_eq_true rfl) ?_
  exact W.iret (v := 0) hx hb hr (fun t ht hW => ⟨⟨0, (), rfl, (rfl), trivial⟩, hS.F ht⟩) hS.2.2 dX8_best_42
set_option maxHeartbeats 4000000 in
set_option maxRecDepth 100000 in
theorem c_8best_B (l : Launch) (dC : Nat → ClassId) (dI : Nat → Nat → Nat) (g : Gv) (sz : Nat) (x0 : Nat) (b : Nat → Nat) (f4 : Nat → Nat) (c4 : ClassId) (f5 : Nat → Nat) (f7 : Nat → Nat) (f6 : Nat → Nat) (f2 : Nat → Nat) (cK : ClassId) (kf : Nat → Option Nat) (cZ : ClassId) (fT : Nat → Nat) (fU : Nat → Nat) (sa : Nat → Nat) (sf : Nat → Nat → Nat) (sc : Nat → Nat → ClassId) (spf : Nat → Nat → Int32) (sdf : Nat → Nat → Int32) (slf : Nat → Nat → Int32) (srf : Nat → Nat → Int32) (sga : Nat → Nat → Option Nat) (sgb : Nat → Nat → Option Nat) (rows : va_W) (da : Int32) (re : Int32) (nb : Int32) (hdo : ¬ (0 ≤ da.toInt ∧ da.toInt ≤ 219145)) : Met l yX8_best (.code yX8_best cX8_best 4 (some .int) :: TBL) ({ frames := 3, cells := 0, slots := 0, locals := 180 }) (va_Pc [.ref x0, .int da, .int re, .int nb] (fun U => U.heap.size = sz ∧ va_P (dC, dI) vwCl [(x0, .inr (7, [.ref (b 0), .ref (b 1), .ref (b 2), .ref (b 3), .ref (b 4), .ref (b 5), .ref (b 6), .ref (b 7), .ref (b 8), .ref (b 9), .int 1])), ((b 2), .inr (5, [.ref (f6 0), .ref (f6 1), .ref (f6 2), .ref (f6 3), .ref (f6 4), .ref (f6 5), .int 0, .int 0])), ((b 6), .inr (0, [.int 0, .ref (fT 1), .int 0, .ref (fT 3), .int 0, .ref (fT 5), .ref (fT 6), .ref (fT 7), .int 0, .ref (fT 9), .ref (fT 10), .ref (fT 11), .ref (fT 12), .ref (fT 13)]))] U.heap ∧ va_K (dC, dI) vwCl [] U ∧ va_D (fun _ => True) [(x0, .inr (7, [.ref (b 0), .ref (b 1), .ref (b 2), .ref (b 3), .ref (b 4), .ref (b 5), .ref (b 6), .ref (b 7), .ref (b 8), .ref (b 9), .int 1])), ((b 2), .inr (5, [.ref (f6 0), .ref (f6 1), .ref (f6 2), .ref (f6 3), .ref (f6 4), .ref (f6 5), .int 0, .int 0])), ((b 6), .inr (0, [.int 0, .ref (fT 1), .int 0, .ref (fT 3), .int 0, .ref (fT 5), .ref (fT 6), .ref (fT 7), .int 0, .ref (fT 9), .ref (fT 10), .ref (fT 11), .ref (fT 12), .ref (fT 13)]))] ∧ Ev g (va_A [(x0, .inr (7, [.ref (b 0), .ref (b 1), .ref (b 2), .ref (b 3), .ref (b 4), .ref (b 5), .ref (b 6), .ref (b 7), .ref (b 8), .ref (b 9), .int 1])), ((b 2), .inr (5, [.ref (f6 0), .ref (f6 1), .ref (f6 2), .ref (f6 3), .ref (f6 4), .ref (f6 5), .int 0, .int 0])), ((b 6), .inr (0, [.int 0, .ref (fT 1), .int 0, .ref (fT 3), .int 0, .ref (fT 5), .ref (fT 6), .ref (fT 7), .int 0, .ref (fT 9), .ref (fT 10), .ref (fT 11), .ref (fT 12), .ref (fT 13)]))] sz) U)) (va_Qi (fun (r : Int32) (u : Unit) => r = (-1)) (fun (_ : Unit) (_ : State) => True) (va_A [(x0, .inr (7, [.ref (b 0), .ref (b 1), .ref (b 2), .ref (b 3), .ref (b 4), .ref (b 5), .ref (b 6), .ref (b 7), .ref (b 8), .ref (b 9), .int 1])), ((b 2), .inr (5, [.ref (f6 0), .ref (f6 1), .ref (f6 2), .ref (f6 3), .ref (f6 4), .ref (f6 5), .int 0, .int 0])), ((b 6), .inr (0, [.int 0, .ref (fT 1), .int 0, .ref (fT 3), .int 0, .ref (fT 5), .ref (fT 6), .ref (fT 7), .int 0, .ref (fT 9), .ref (fT 10), .ref (fT 11), .ref (fT 12), .ref (fT 13)]))] sz)) 0 0 (va_A [(x0, .inr (7, [.ref (b 0), .ref (b 1), .ref (b 2), .ref (b 3), .ref (b 4), .ref (b 5), .ref (b 6), .ref (b 7), .ref (b 8), .ref (b 9), .int 1])), ((b 2), .inr (5, [.ref (f6 0), .ref (f6 1), .ref (f6 2), .ref (f6 3), .ref (f6 4), .ref (f6 5), .int 0, .int 0])), ((b 6), .inr (0, [.int 0, .ref (fT 1), .int 0, .ref (fT 3), .int 0, .ref (fT 5), .ref (fT 6), .ref (fT 7), .int 0, .ref (fT 9), .ref (fT 10), .ref (fT 11), .ref (fT 12), .ref (fT 13)]))] sz) := by
  refine Met.ofW (cc := cX8_best) (maxL := 4) (ret := (some .int)) (by decide) rfl ?_
  intro p e s m args below meth c s₁ B hml hv
  obtain ⟨rfl, hsz, hP, hK, hD0, hE⟩ := hv
  have hx := B.exec
  have hb := B.bytes
  have hr := B.returns
  have hts0 := atoms_spec (ws := (.code yX8_best cX8_best 4 (some .int) :: TBL)) B.pre
  have hts := fun (w : Cond) (h : w ∈ TBL) => hts0 w (List.mem_cons_of_mem _ h)
  have hown : s.vm.findClass RX8 = some m.cls := findClass_of_methodNamed B.named
  have hlocks := B.notSynchronized
  have hN := hE.1
  subst hsz
  have hD := hD0.self (sz := s.heap.size)
  generalize hAe : va_A [(x0, .inr (7, [.ref (b 0), .ref (b 1), .ref (b 2), .ref (b 3), .ref (b 4), .ref (b 5), .ref (b 6), .ref (b 7), .ref (b 8), .ref (b 9), .int 1])), ((b 2), .inr (5, [.ref (f6 0), .ref (f6 1), .ref (f6 2), .ref (f6 3), .ref (f6 4), .ref (f6 5), .int 0, .int 0])), ((b 6), .inr (0, [.int 0, .ref (fT 1), .int 0, .ref (fT 3), .int 0, .ref (fT 5), .ref (fT 6), .ref (fT 7), .int 0, .ref (fT 9), .ref (fT 10), .ref (fT 11), .ref (fT 12), .ref (fT 13)]))] s.heap.size = A at hD hE ⊢
  have hA : ∀ q : Nat, s.heap.size ≤ q → A q := fun q h => by rw [← hAe]; exact Or.inr h
  have hS : va_S A s.heap s.heap [] := va_S.rf
  have hP : va_P (dC, dI) vwCl [(x0, .inr (7, [.ref (b 0), .ref (b 1), .ref (b 2), .ref (b 3), .ref (b 4), .ref (b 5), .ref (b 6), .ref (b 7), .ref (b 8), .ref (b 9), .int 1])), ((b 2), .inr (5, [.ref (f6 0), .ref (f6 1), .ref (f6 2), .ref (f6 3), .ref (f6 4), .ref (f6 5), .int 0, .int 0])), ((b 6), .inr (0, [.int 0, .ref (fT 1), .int 0, .ref (fT 3), .int 0, .ref (fT 5), .ref (fT 6), .ref (fT 7), .int 0, .ref (fT 9), .ref (fT 10), .ref (fT 11), .ref (fT 12), .ref (fT 13)]))] s.heap := hP
  have hl := lv_entry ([.ref x0, .int da, .int re, .int nb]) (n := 4) (Nat.le_of_ble_eq_true rfl)
  rw [lg_entry_eq]
  generalize (lg_sl ([.ref x0, .int da, .int re, .int nb]) ++ List.replicate (4 - (lg_sl ([.ref x0, .int da, .int re, .int nb])).length) Slot.unset).toArray = ls at hl ⊢
  have hl : lv_has ls 4 [(0, .ref x0), (1, .int da), (2, .int re), (3, .int nb)] := hl
  refine lv_iload_n hx hb dX8_best_0 rfl (lv_at hl 1 rfl) ?_
  have hPc := hP.sub (ws' := []) [] rfl
  have hKc := hK.sub (tys' := []) [] rfl
  refine vp_callSi ((va_runS (As := [.int da]) (rest := []) ⟨hx, hb, hml, hown, hts⟩ (c_dl_out l dC dI g (da) hdo) (va_cwS 1 hts (gwS qw_70 qw_71 qw_69 qw_68) rfl rfl rfl (by decide +kernel) ⟨Nat.le_of_ble_eq_true rfl, Nat.le_of_ble_eq_true rfl⟩) ⟨fun a U g9 mk q => ⟨q.1, q.2.1, va_K.moved (u := U) (U := U.calling g9 mk a) (Vm.Alike.refl U.vm) q.2.2.1, Ev.bl q.2.2.2⟩, fun U hU hW => ⟨rfl, by rw [hU]; exact hPc, va_K.moved hW.alike hKc, hE.go hS (fun _ h => h.elim) hU hW⟩⟩ rfl rfl hl.1 rfl (lv_room (Nat.le_of_ble_eq_true rfl)) dX8_best_1 ⟨Nat.le_of_ble_eq_true rfl, Nat.le_of_ble_eq_true rfl⟩)).run (fun r1 h_r1 => ?_)
  have h_r1 : r1 = 0 := h_r1
  subst h_r1
  refine lv_if_eq (tgt := 23) hx hb dX8_best_4 (by decide) (fun c4_2 => ?_) (fun c4_2 => by exfalso; exact absurd c4_2 (by decide))
  refine lv_iconst (v := (-1)) hx hb dX8_best_23 (by decide) ?_
  refine W.widen (k := 0) (n := 0) (Nat.le_of_ble_eq_true rfl) (Nat.le_of_ble_eq_true rfl) ?_
  exact W.iret (v := (-1)) hx hb hr (fun t ht hW => ⟨⟨(-1), (), rfl, (rfl), trivial⟩, hS.F ht⟩) hS.2.2 dX8_best_24
set_option maxHeartbeats 4000000 in
set_option maxRecDepth 100000 in
theorem c_8best_C (l : Launch) (dC : Nat → ClassId) (dI : Nat → Nat → Nat) (g : Gv) (sz : Nat) (x0 : Nat) (b : Nat → Nat) (f4 : Nat → Nat) (c4 : ClassId) (f5 : Nat → Nat) (f7 : Nat → Nat) (f6 : Nat → Nat) (f2 : Nat → Nat) (cK : ClassId) (kf : Nat → Option Nat) (cZ : ClassId) (fT : Nat → Nat) (fU : Nat → Nat) (sa : Nat → Nat) (sf : Nat → Nat → Nat) (sc : Nat → Nat → ClassId) (spf : Nat → Nat → Int32) (sdf : Nat → Nat → Int32) (slf : Nat → Nat → Int32) (srf : Nat → Nat → Int32) (sga : Nat → Nat → Option Nat) (sgb : Nat → Nat → Option Nat) (rows : va_W) (dn : Nat) (re : Int32) (nb : Int32) (hdn : dn ≤ 219145) (hro0 : ¬ (0 ≤ re.toInt ∧ re.toInt ≤ 15)) : Met l yX8_best (.code yX8_best cX8_best 4 (some .int) :: TBL) ({ frames := 3, cells := 0, slots := 0, locals := 180 }) (va_Pc [.ref x0, .int (nI dn), .int re, .int nb] (fun U => U.heap.size = sz ∧ va_P (dC, dI) vwCl [(x0, .inr (7, [.ref (b 0), .ref (b 1), .ref (b 2), .ref (b 3), .ref (b 4), .ref (b 5), .ref (b 6), .ref (b 7), .ref (b 8), .ref (b 9), .int 1])), ((b 2), .inr (5, [.ref (f6 0), .ref (f6 1), .ref (f6 2), .ref (f6 3), .ref (f6 4), .ref (f6 5), .int 0, .int 0])), ((b 6), .inr (0, [.int 0, .ref (fT 1), .int 0, .ref (fT 3), .int 0, .ref (fT 5), .ref (fT 6), .ref (fT 7), .int 0, .ref (fT 9), .ref (fT 10), .ref (fT 11), .ref (fT 12), .ref (fT 13)]))] U.heap ∧ va_K (dC, dI) vwCl [] U ∧ va_D (fun _ => True) [(x0, .inr (7, [.ref (b 0), .ref (b 1), .ref (b 2), .ref (b 3), .ref (b 4), .ref (b 5), .ref (b 6), .ref (b 7), .ref (b 8), .ref (b 9), .int 1])), ((b 2), .inr (5, [.ref (f6 0), .ref (f6 1), .ref (f6 2), .ref (f6 3), .ref (f6 4), .ref (f6 5), .int 0, .int 0])), ((b 6), .inr (0, [.int 0, .ref (fT 1), .int 0, .ref (fT 3), .int 0, .ref (fT 5), .ref (fT 6), .ref (fT 7), .int 0, .ref (fT 9), .ref (fT 10), .ref (fT 11), .ref (fT 12), .ref (fT 13)]))] ∧ Ev g (va_A [(x0, .inr (7, [.ref (b 0), .ref (b 1), .ref (b 2), .ref (b 3), .ref (b 4), .ref (b 5), .ref (b 6), .ref (b 7), .ref (b 8), .ref (b 9), .int 1])), ((b 2), .inr (5, [.ref (f6 0), .ref (f6 1), .ref (f6 2), .ref (f6 3), .ref (f6 4), .ref (f6 5), .int 0, .int 0])), ((b 6), .inr (0, [.int 0, .ref (fT 1), .int 0, .ref (fT 3), .int 0, .ref (fT 5), .ref (fT 6), .ref (fT 7), .int 0, .ref (fT 9), .ref (fT 10), .ref (fT 11), .ref (fT 12), .ref (fT 13)]))] sz) U)) (va_Qi (fun (r : Int32) (u : Unit) => r = (-1)) (fun (_ : Unit) (_ : State) => True) (va_A [(x0, .inr (7, [.ref (b 0), .ref (b 1), .ref (b 2), .ref (b 3), .ref (b 4), .ref (b 5), .ref (b 6), .ref (b 7), .ref (b 8), .ref (b 9), .int 1])), ((b 2), .inr (5, [.ref (f6 0), .ref (f6 1), .ref (f6 2), .ref (f6 3), .ref (f6 4), .ref (f6 5), .int 0, .int 0])), ((b 6), .inr (0, [.int 0, .ref (fT 1), .int 0, .ref (fT 3), .int 0, .ref (fT 5), .ref (fT 6), .ref (fT 7), .int 0, .ref (fT 9), .ref (fT 10), .ref (fT 11), .ref (fT 12), .ref (fT 13)]))] sz)) 0 0 (va_A [(x0, .inr (7, [.ref (b 0), .ref (b 1), .ref (b 2), .ref (b 3), .ref (b 4), .ref (b 5), .ref (b 6), .ref (b 7), .ref (b 8), .ref (b 9), .int 1])), ((b 2), .inr (5, [.ref (f6 0), .ref (f6 1), .ref (f6 2), .ref (f6 3), .ref (f6 4), .ref (f6 5), .int 0, .int 0])), ((b 6), .inr (0, [.int 0, .ref (fT 1), .int 0, .ref (fT 3), .int 0, .ref (fT 5), .ref (fT 6), .ref (fT 7), .int 0, .ref (fT 9), .ref (fT 10), .ref (fT 11), .ref (fT 12), .ref (fT 13)]))] sz) := by
  refine Met.ofW (cc := cX8_best) (maxL := 4) (ret := (some .int)) (by decide) rfl ?_
  intro p e s m args below meth c s₁ B hml hv
  obtain ⟨rfl, hsz, hP, hK, hD0, hE⟩ := hv
  have hx := B.exec
  have hb := B.bytes
  have hr := B.returns
  have hts0 := atoms_spec (ws := (.code yX8_best cX8_best 4 (some .int) :: TBL)) B.pre
  have hts := fun (w : Cond) (h : w ∈ TBL) => hts0 w (List.mem_cons_of_mem _ h)
  have hown : s.vm.findClass RX8 = some m.cls := findClass_of_methodNamed B.named
  have hlocks := B.notSynchronized
  have hN := hE.1
  subst hsz
  have hD := hD0.self (sz := s.heap.size)
  generalize hAe : va_A [(x0, .inr (7, [.ref (b 0), .ref (b 1), .ref (b 2), .ref (b 3), .ref (b 4), .ref (b 5), .ref (b 6), .ref (b 7), .ref (b 8), .ref (b 9), .int 1])), ((b 2), .inr (5, [.ref (f6 0), .ref (f6 1), .ref (f6 2), .ref (f6 3), .ref (f6 4), .ref (f6 5), .int 0, .int 0])), ((b 6), .inr (0, [.int 0, .ref (fT 1), .int 0, .ref (fT 3), .int 0, .ref (fT 5), .ref (fT 6), .ref (fT 7), .int 0, .ref (fT 9), .ref (fT 10), .ref (fT 11), .ref (fT 12), .ref (fT 13)]))] s.heap.size = A at hD hE ⊢
  have hA : ∀ q : Nat, s.heap.size ≤ q → A q := fun q h => by rw [← hAe]; exact Or.inr h
  have hS : va_S A s.heap s.heap [] := va_S.rf
  have hP : va_P (dC, dI) vwCl [(x0, .inr (7, [.ref (b 0), .ref (b 1), .ref (b 2), .ref (b 3), .ref (b 4), .ref (b 5), .ref (b 6), .ref (b 7), .ref (b 8), .ref (b 9), .int 1])), ((b 2), .inr (5, [.ref (f6 0), .ref (f6 1), .ref (f6 2), .ref (f6 3), .ref (f6 4), .ref (f6 5), .int 0, .int 0])), ((b 6), .inr (0, [.int 0, .ref (fT 1), .int 0, .ref (fT 3), .int 0, .ref (fT 5), .ref (fT 6), .ref (fT 7), .int 0, .ref (fT 9), .ref (fT 10), .ref (fT 11), .ref (fT 12), .ref (fT 13)]))] s.heap := hP
  have hl := lv_entry ([.ref x0, .int (nI dn), .int re, .int nb]) (n := 4) (Nat.le_of_ble_eq_true rfl)
  rw [lg_entry_eq]
  generalize (lg_sl ([.ref x0, .int (nI dn), .int re, .int nb]) ++ List.replicate (4 - (lg_sl ([.ref x0, .int (nI dn), .int re, .int nb])).length) Slot.unset).toArray = ls at hl ⊢
  have hl : lv_has ls 4 [(0, .ref x0), (1, .int (nI dn)), (2, .int re), (3, .int nb)] := hl
  refine lv_iload_n hx hb dX8_best_0 rfl (lv_at hl 1 rfl) ?_
  have hPc := hP.sub (ws' := []) [] rfl
  have hKc := hK.sub (tys' := []) [] rfl
  refine vp_callSi ((va_runS (As := [.int (nI dn)]) (rest := []) ⟨hx, hb, hml, hown, hts⟩ (c_dl_in l dC dI g (dn) hdn) (va_cwS 1 hts (gwS qw_70 qw_71 qw_69 qw_68) rfl rfl rfl (by decide +kernel) ⟨Nat.le_of_ble_eq_true rfl, Nat.le_of_ble_eq_true rfl⟩) ⟨fun a U g9 mk q => ⟨q.1, q.2.1, va_K.moved (u := U) (U := U.calling g9 mk a) (Vm.Alike.refl U.vm) q.2.2.1, Ev.bl q.2.2.2⟩, fun U hU hW => ⟨rfl, by rw [hU]; exact hPc, va_K.moved hW.alike hKc, hE.go hS (fun _ h => h.elim) hU hW⟩⟩ rfl rfl hl.1 rfl (lv_room (Nat.le_of_ble_eq_true rfl)) dX8_best_1 ⟨Nat.le_of_ble_eq_true rfl, Nat.le_of_ble_eq_true rfl⟩)).run (fun r1 h_r1 => ?_)
  have h_r1 : r1 = 1 := h_r1
  subst h_r1
  refine lv_if_eq (tgt := 23) hx hb dX8_best_4 (by decide) (fun c4_2 => by exfalso; exact absurd c4_2 (by decide)) (fun c4_2 => ?_)
  refine lv_iload_n hx hb dX8_best_7 rfl (lv_at hl 2 rfl) ?_
  have hPc := hP.sub (ws' := []) [] rfl
  have hKc := hK.sub (tys' := []) [] rfl
  refine vp_callSi ((va_runS (As := [.int re]) (rest := []) ⟨hx, hb, hml, hown, hts⟩ (c_ar_out l dC dI g (re) hro0) (va_cwS 1 hts (gwS qw_270 qw_271 qw_69 qw_269) rfl rfl rfl (by decide +kernel) ⟨Nat.le_of_ble_eq_true rfl, Nat.le_of_ble_eq_true rfl⟩) ⟨fun a U g9 mk q => ⟨q.1, q.2.1, va_K.moved (u := U) (U := U.calling g9 mk a) (Vm.Alike.refl U.vm) q.2.2.1, Ev.bl q.2.2.2⟩, fun U hU hW => ⟨rfl, by rw [hU]; exact hPc, va_K.moved hW.alike hKc, hE.go hS (fun _ h => h.elim) hU hW⟩⟩ rfl rfl hl.1 rfl (lv_room (Nat.le_of_ble_eq_true rfl)) dX8_best_8 ⟨Nat.le_of_ble_eq_true rfl, Nat.le_of_ble_eq_true rfl⟩)).run (fun r3 h_r3 => ?_)
  have h_r3 : r3 = 0 := h_r3
  subst h_r3
  refine lv_if_eq (tgt := 23) hx hb dX8_best_11 (by decide) (fun c11_4 => ?_) (fun c11_4 => by exfalso; exact absurd c11_4 (by decide))
  refine lv_iconst (v := (-1)) hx hb dX8_best_23 (by decide) ?_
  refine W.widen (k := 0) (n := 0) (Nat.le_of_ble_eq_true rfl) (Nat.le_of_ble_eq_true rfl) ?_
  exact W.iret (v := (-1)) hx hb hr (fun t ht hW => ⟨⟨(-1), (), rfl, (rfl), trivial⟩, hS.F ht⟩) hS.2.2 dX8_best_24
set_option maxHeartbeats 4000000 in
set_option maxRecDepth 100000 in
theorem c_8best_D (l : Launch) (dC : Nat → ClassId) (dI : Nat → Nat → Nat) (g : Gv) (sz : Nat) (x0 : Nat) (b : Nat → Nat) (f4 : Nat → Nat) (c4 : ClassId) (f5 : Nat → Nat) (f7 : Nat → Nat) (f6 : Nat → Nat) (f2 : Nat → Nat) (cK : ClassId) (kf : Nat → Option Nat) (cZ : ClassId) (fT : Nat → Nat) (fU : Nat → Nat) (sa : Nat → Nat) (sf : Nat → Nat → Nat) (sc : Nat → Nat → ClassId) (spf : Nat → Nat → Int32) (sdf : Nat → Nat → Int32) (slf : Nat → Nat → Int32) (srf : Nat → Nat → Int32) (sga : Nat → Nat → Option Nat) (sgb : Nat → Nat → Option Nat) (rows : va_W) (dn : Nat) (rn : Nat) (nb : Int32) (hdn : dn ≤ 219145) (hrn : rn ≤ 15) (hnb : ¬ (0 ≤ nb.toInt ∧ nb.toInt ≤ 3)) : Met l yX8_best (.code yX8_best cX8_best 4 (some .int) :: TBL) ({ frames := 3, cells := 0, slots := 0, locals := 180 }) (va_Pc [.ref x0, .int (nI dn), .int (nI rn), .int nb] (fun U => U.heap.size = sz ∧ va_P (dC, dI) vwCl [(x0, .inr (7, [.ref (b 0), .ref (b 1), .ref (b 2), .ref (b 3), .ref (b 4), .ref (b 5), .ref (b 6), .ref (b 7), .ref (b 8), .ref (b 9), .int 1])), ((b 2), .inr (5, [.ref (f6 0), .ref (f6 1), .ref (f6 2), .ref (f6 3), .ref (f6 4), .ref (f6 5), .int 0, .int 0])), ((b 6), .inr (0, [.int 0, .ref (fT 1), .int 0, .ref (fT 3), .int 0, .ref (fT 5), .ref (fT 6), .ref (fT 7), .int 0, .ref (fT 9), .ref (fT 10), .ref (fT 11), .ref (fT 12), .ref (fT 13)]))] U.heap ∧ va_K (dC, dI) vwCl [] U ∧ va_D (fun _ => True) [(x0, .inr (7, [.ref (b 0), .ref (b 1), .ref (b 2), .ref (b 3), .ref (b 4), .ref (b 5), .ref (b 6), .ref (b 7), .ref (b 8), .ref (b 9), .int 1])), ((b 2), .inr (5, [.ref (f6 0), .ref (f6 1), .ref (f6 2), .ref (f6 3), .ref (f6 4), .ref (f6 5), .int 0, .int 0])), ((b 6), .inr (0, [.int 0, .ref (fT 1), .int 0, .ref (fT 3), .int 0, .ref (fT 5), .ref (fT 6), .ref (fT 7), .int 0, .ref (fT 9), .ref (fT 10), .ref (fT 11), .ref (fT 12), .ref (fT 13)]))] ∧ Ev g (va_A [(x0, .inr (7, [.ref (b 0), .ref (b 1), .ref (b 2), .ref (b 3), .ref (b 4), .ref (b 5), .ref (b 6), .ref (b 7), .ref (b 8), .ref (b 9), .int 1])), ((b 2), .inr (5, [.ref (f6 0), .ref (f6 1), .ref (f6 2), .ref (f6 3), .ref (f6 4), .ref (f6 5), .int 0, .int 0])), ((b 6), .inr (0, [.int 0, .ref (fT 1), .int 0, .ref (fT 3), .int 0, .ref (fT 5), .ref (fT 6), .ref (fT 7), .int 0, .ref (fT 9), .ref (fT 10), .ref (fT 11), .ref (fT 12), .ref (fT 13)]))] sz) U)) (va_Qi (fun (r : Int32) (u : Unit) => r = (-1)) (fun (_ : Unit) (_ : State) => True) (va_A [(x0, .inr (7, [.ref (b 0), .ref (b 1), .ref (b 2), .ref (b 3), .ref (b 4), .ref (b 5), .ref (b 6), .ref (b 7), .ref (b 8), .ref (b 9), .int 1])), ((b 2), .inr (5, [.ref (f6 0), .ref (f6 1), .ref (f6 2), .ref (f6 3), .ref (f6 4), .ref (f6 5), .int 0, .int 0])), ((b 6), .inr (0, [.int 0, .ref (fT 1), .int 0, .ref (fT 3), .int 0, .ref (fT 5), .ref (fT 6), .ref (fT 7), .int 0, .ref (fT 9), .ref (fT 10), .ref (fT 11), .ref (fT 12), .ref (fT 13)]))] sz)) 0 0 (va_A [(x0, .inr (7, [.ref (b 0), .ref (b 1), .ref (b 2), .ref (b 3), .ref (b 4), .ref (b 5), .ref (b 6), .ref (b 7), .ref (b 8), .ref (b 9), .int 1])), ((b 2), .inr (5, [.ref (f6 0), .ref (f6 1), .ref (f6 2), .ref (f6 3), .ref (f6 4), .ref (f6 5), .int 0, .int 0])), ((b 6), .inr (0, [.int 0, .ref (fT 1), .int 0, .ref (fT 3), .int 0, .ref (fT 5), .ref (fT 6), .ref (fT 7), .int 0, .ref (fT 9), .ref (fT 10), .ref (fT 11), .ref (fT 12), .ref (fT 13)]))] sz) := by
  refine Met.ofW (cc := cX8_best) (maxL := 4) (ret := (some .int)) (by decide) rfl ?_
  intro p e s m args below meth c s₁ B hml hv
  obtain ⟨rfl, hsz, hP, hK, hD0, hE⟩ := hv
  have hx := B.exec
  have hb := B.bytes
  have hr := B.returns
  have hts0 := atoms_spec (ws := (.code yX8_best cX8_best 4 (some .int) :: TBL)) B.pre
  have hts := fun (w : Cond) (h : w ∈ TBL) => hts0 w (List.mem_cons_of_mem _ h)
  have hown : s.vm.findClass RX8 = some m.cls := findClass_of_methodNamed B.named
  have hlocks := B.notSynchronized
  have hN := hE.1
  subst hsz
  have hD := hD0.self (sz := s.heap.size)
  generalize hAe : va_A [(x0, .inr (7, [.ref (b 0), .ref (b 1), .ref (b 2), .ref (b 3), .ref (b 4), .ref (b 5), .ref (b 6), .ref (b 7), .ref (b 8), .ref (b 9), .int 1])), ((b 2), .inr (5, [.ref (f6 0), .ref (f6 1), .ref (f6 2), .ref (f6 3), .ref (f6 4), .ref (f6 5), .int 0, .int 0])), ((b 6), .inr (0, [.int 0, .ref (fT 1), .int 0, .ref (fT 3), .int 0, .ref (fT 5), .ref (fT 6), .ref (fT 7), .int 0, .ref (fT 9), .ref (fT 10), .ref (fT 11), .ref (fT 12), .ref (fT 13)]))] s.heap.size = A at hD hE ⊢
  have hA : ∀ q : Nat, s.heap.size ≤ q → A q := fun q h => by rw [← hAe]; exact Or.inr h
  have hS : va_S A s.heap s.heap [] := va_S.rf
  have hP : va_P (dC, dI) vwCl [(x0, .inr (7, [.ref (b 0), .ref (b 1), .ref (b 2), .ref (b 3), .ref (b 4), .ref (b 5), .ref (b 6), .ref (b 7), .ref (b 8), .ref (b 9), .int 1])), ((b 2), .inr (5, [.ref (f6 0), .ref (f6 1), .ref (f6 2), .ref (f6 3), .ref (f6 4), .ref (f6 5), .int 0, .int 0])), ((b 6), .inr (0, [.int 0, .ref (fT 1), .int 0, .ref (fT 3), .int 0, .ref (fT 5), .ref (fT 6), .ref (fT 7), .int 0, .ref (fT 9), .ref (fT 10), .ref (fT 11), .ref (fT 12), .ref (fT 13)]))] s.heap := hP
  have hl := lv_entry ([.ref x0, .int (nI dn), .int (nI rn), .int nb]) (n := 4) (Nat.le_of_ble_eq_true rfl)
  rw [lg_entry_eq]
  generalize (lg_sl ([.ref x0, .int (nI dn), .int (nI rn), .int nb]) ++ List.replicate (4 - (lg_sl ([.ref x0, .int (nI dn), .int (nI rn), .int nb])).length) Slot.unset).toArray = ls at hl ⊢
  have hl : lv_has ls 4 [(0, .ref x0), (1, .int (nI dn)), (2, .int (nI rn)), (3, .int nb)] := hl
  refine lv_iload_n hx hb dX8_best_0 rfl (lv_at hl 1 rfl) ?_
  have hPc := hP.sub (ws' := []) [] rfl
  have hKc := hK.sub (tys' := []) [] rfl
  refine vp_callSi ((va_runS (As := [.int (nI dn)]) (rest := []) ⟨hx, hb, hml, hown, hts⟩ (c_dl_in l dC dI g (dn) hdn) (va_cwS 1 hts (gwS qw_70 qw_71 qw_69 qw_68) rfl rfl rfl (by decide +kernel) ⟨Nat.le_of_ble_eq_true rfl, Nat.le_of_ble_eq_true rfl⟩) ⟨fun a U g9 mk q => ⟨q.1, q.2.1, va_K.moved (u := U) (U := U.calling g9 mk a) (Vm.Alike.refl U.vm) q.2.2.1, Ev.bl q.2.2.2⟩, fun U hU hW => ⟨rfl, by rw [hU]; exact hPc, va_K.moved hW.alike hKc, hE.go hS (fun _ h => h.elim) hU hW⟩⟩ rfl rfl hl.1 rfl (lv_room (Nat.le_of_ble_eq_true rfl)) dX8_best_1 ⟨Nat.le_of_ble_eq_true rfl, Nat.le_of_ble_eq_true rfl⟩)).run (fun r1 h_r1 => ?_)
  have h_r1 : r1 = 1 := h_r1
  subst h_r1
  refine lv_if_eq (tgt := 23) hx hb dX8_best_4 (by decide) (fun c4_2 => by exfalso; exact absurd c4_2 (by decide)) (fun c4_2 => ?_)
  refine lv_iload_n hx hb dX8_best_7 rfl (lv_at hl 2 rfl) ?_
  have hPc := hP.sub (ws' := []) [] rfl
  have hKc := hK.sub (tys' := []) [] rfl
  refine vp_callSi ((va_runS (As := [.int (nI rn)]) (rest := []) ⟨hx, hb, hml, hown, hts⟩ (c_ar_in l dC dI g (rn) hrn) (va_cwS 1 hts (gwS qw_270 qw_271 qw_69 qw_269) rfl rfl rfl (by decide +kernel) ⟨Nat.le_of_ble_eq_true rfl, Nat.le_of_ble_eq_true rfl⟩) ⟨fun a U g9 mk q => ⟨q.1, q.2.1, va_K.moved (u := U) (U := U.calling g9 mk a) (Vm.Alike.refl U.vm) q.2.2.1, Ev.bl q.2.2.2⟩, fun U hU hW => ⟨rfl, by rw [hU]; exact hPc, va_K.moved hW.alike hKc, hE.go hS (fun _ h => h.elim) hU hW⟩⟩ rfl rfl hl.1 rfl (lv_room (Nat.le_of_ble_eq_true rfl)) dX8_best_8 ⟨Nat.le_of_ble_eq_true rfl, Nat.le_of_ble_eq_true rfl⟩)).run (fun r3 h_r3 => ?_)
  have h_r3 : r3 = 1 := h_r3
  subst h_r3
  refine lv_if_eq (tgt := 23) hx hb dX8_best_11 (by decide) (fun c11_4 => by exfalso; exact absurd c11_4 (by decide)) (fun c11_4 => ?_)
  refine lv_iload_n hx hb dX8_best_14 rfl (lv_at hl 3 rfl) ?_
  refine lv_if_lt (tgt := 23) hx hb dX8_best_15 (by decide) (fun c15_5 => ?_) (fun c15_5 => ?_)
  · have c15_5 : nb.toInt < 0 := (cv_lt rfl (by decide)).mp c15_5
    refine lv_iconst (v := (-1)) hx hb dX8_best_23 (by decide) ?_
    refine W.widen (k := 0) (n := 0) (Nat.le_of_ble_eq_true rfl) (Nat.le_of_ble_eq_true rfl) ?_
    exact W.iret (v := (-1)) hx hb hr (fun t ht hW => ⟨⟨(-1), (), rfl, (rfl), trivial⟩, hS.F ht⟩) hS.2.2 dX8_best_24
  · have c15_5 : ¬ (nb.toInt < 0) := mt (cv_lt rfl (by decide)).mpr c15_5
    refine lv_iload_n hx hb dX8_best_18 rfl (lv_at hl 3 rfl) ?_
    refine lv_iconst (v := 3) hx hb dX8_best_19 (by decide) ?_
    refine lv_icmp_le (tgt := 25) hx hb dX8_best_20 (by decide) (fun c20_6 => by exfalso; have c20_6 : nb.toInt ≤ 3 := (cv_le rfl (by decide)).mp c20_6; omega) (fun c20_6 => ?_)
    have c20_6 : ¬ (nb.toInt ≤ 3) := mt (cv_le rfl (by decide)).mpr c20_6
    refine lv_iconst (v := (-1)) hx hb dX8_best_23 (by decide) ?_
    refine W.widen (k := 0) (n := 0) (Nat.le_of_ble_eq_true rfl) (Nat.le_of_ble_eq_true rfl) ?_
    exact W.iret (v := (-1)) hx hb hr (fun t ht hW => ⟨⟨(-1), (), rfl, (rfl), trivial⟩, hS.F ht⟩) hS.2.2 dX8_best_24
set_option maxHeartbeats 4000000 in
set_option maxRecDepth 100000 in
theorem c_8ow_A (l : Launch) (dC : Nat → ClassId) (dI : Nat → Nat → Nat) (g : Gv) (sz : Nat) (x0 : Nat) (b : Nat → Nat) (f4 : Nat → Nat) (c4 : ClassId) (f5 : Nat → Nat) (f7 : Nat → Nat) (f6 : Nat → Nat) (f2 : Nat → Nat) (cK : ClassId) (kf : Nat → Option Nat) (cZ : ClassId) (fT : Nat → Nat) (fU : Nat → Nat) (sa : Nat → Nat) (sf : Nat → Nat → Nat) (sc : Nat → Nat → ClassId) (spf : Nat → Nat → Int32) (sdf : Nat → Nat → Int32) (slf : Nat → Nat → Int32) (srf : Nat → Nat → Int32) (sga : Nat → Nat → Option Nat) (sgb : Nat → Nat → Option Nat) (rows : va_W) (dn : Nat) (rn : Nat) (hdn : dn ≤ 219145) (hrn : rn ≤ 15) : Met l yX8_openWithout (.code yX8_openWithout cX8_openWithout 5 (some .int) :: TBL) ({ frames := 3, cells := 0, slots := 0, locals := 180 }) (va_Pc [.ref x0, .int (nI dn), .int (nI rn), .int 0] (fun U => U.heap.size = sz ∧ va_P (dC, dI) vwCl [(x0, .inr (7, [.ref (b 0), .ref (b 1), .ref (b 2), .ref (b 3), .ref (b 4), .ref (b 5), .ref (b 6), .ref (b 7), .ref (b 8), .ref (b 9), .int 1])), ((b 2), .inr (5, [.ref (f6 0), .ref (f6 1), .ref (f6 2), .ref (f6 3), .ref (f6 4), .ref (f6 5), .int 0, .int 0])), ((b 6), .inr (0, [.int 0, .ref (fT 1), .int 0, .ref (fT 3), .int 0, .ref (fT 5), .ref (fT 6), .ref (fT 7), .int 0, .ref (fT 9), .ref (fT 10), .ref (fT 11), .ref (fT 12), .ref (fT 13)]))] U.heap ∧ va_K (dC, dI) vwCl [] U ∧ va_D (fun _ => True) [(x0, .inr (7, [.ref (b 0), .ref (b 1), .ref (b 2), .ref (b 3), .ref (b 4), .ref (b 5), .ref (b 6), .ref (b 7), .ref (b 8), .ref (b 9), .int 1])), ((b 2), .inr (5, [.ref (f6 0), .ref (f6 1), .ref (f6 2), .ref (f6 3), .ref (f6 4), .ref (f6 5), .int 0, .int 0])), ((b 6), .inr (0, [.int 0, .ref (fT 1), .int 0, .ref (fT 3), .int 0, .ref (fT 5), .ref (fT 6), .ref (fT 7), .int 0, .ref (fT 9), .ref (fT 10), .ref (fT 11), .ref (fT 12), .ref (fT 13)]))] ∧ Ev g (va_A [(x0, .inr (7, [.ref (b 0), .ref (b 1), .ref (b 2), .ref (b 3), .ref (b 4), .ref (b 5), .ref (b 6), .ref (b 7), .ref (b 8), .ref (b 9), .int 1])), ((b 2), .inr (5, [.ref (f6 0), .ref (f6 1), .ref (f6 2), .ref (f6 3), .ref (f6 4), .ref (f6 5), .int 0, .int 0])), ((b 6), .inr (0, [.int 0, .ref (fT 1), .int 0, .ref (fT 3), .int 0, .ref (fT 5), .ref (fT 6), .ref (fT 7), .int 0, .ref (fT 9), .ref (fT 10), .ref (fT 11), .ref (fT 12), .ref (fT 13)]))] sz) U)) (va_Qi (fun (r : Int32) (u : Unit) => r = 0) (fun (_ : Unit) (_ : State) => True) (va_A [(x0, .inr (7, [.ref (b 0), .ref (b 1), .ref (b 2), .ref (b 3), .ref (b 4), .ref (b 5), .ref (b 6), .ref (b 7), .ref (b 8), .ref (b 9), .int 1])), ((b 2), .inr (5, [.ref (f6 0), .ref (f6 1), .ref (f6 2), .ref (f6 3), .ref (f6 4), .ref (f6 5), .int 0, .int 0])), ((b 6), .inr (0, [.int 0, .ref (fT 1), .int 0, .ref (fT 3), .int 0, .ref (fT 5), .ref (fT 6), .ref (fT 7), .int 0, .ref (fT 9), .ref (fT 10), .ref (fT 11), .ref (fT 12), .ref (fT 13)]))] sz)) 0 0 (va_A [(x0, .inr (7, [.ref (b 0), .ref (b 1), .ref (b 2), .ref (b 3), .ref (b 4), .ref (b 5), .ref (b 6), .ref (b 7), .ref (b 8), .ref (b 9), .int 1])), ((b 2), .inr (5, [.ref (f6 0), .ref (f6 1), .ref (f6 2), .ref (f6 3), .ref (f6 4), .ref (f6 5), .int 0, .int 0])), ((b 6), .inr (0, [.int 0, .ref (fT 1), .int 0, .ref (fT 3), .int 0, .ref (fT 5), .ref (fT 6), .ref (fT 7), .int 0, .ref (fT 9), .ref (fT 10), .ref (fT 11), .ref (fT 12), .ref (fT 13)]))] sz) := by
  refine Met.ofW (cc := cX8_openWithout) (maxL := 5) (ret := (some .int)) (by decide) rfl ?_
  intro p e s m args below meth c s₁ B hml hv
  obtain ⟨rfl, hsz, hP, hK, hD0, hE⟩ := hv
  have hx := B.exec
  have hb := B.bytes
  have hr := B.returns
  have hts0 := atoms_spec (ws := (.code yX8_openWithout cX8_openWithout 5 (some .int) :: TBL)) B.pre
  have hts := fun (w : Cond) (h : w ∈ TBL) => hts0 w (List.mem_cons_of_mem _ h)
  have hown : s.vm.findClass RX8 = some m.cls := findClass_of_methodNamed B.named
  have hlocks := B.notSynchronized
  have hN := hE.1
  subst hsz
  have hD := hD0.self (sz := s.heap.size)
  generalize hAe : va_A [(x0, .inr (7, [.ref (b 0), .ref (b 1), .ref (b 2), .ref (b 3), .ref (b 4), .ref (b 5), .ref (b 6), .ref (b 7), .ref (b 8), .ref (b 9), .int 1])), ((b 2), .inr (5, [.ref (f6 0), .ref (f6 1), .ref (f6 2), .ref (f6 3), .ref (f6 4), .ref (f6 5), .int 0, .int 0])), ((b 6), .inr (0, [.int 0, .ref (fT 1), .int 0, .ref (fT 3), .int 0, .ref (fT 5), .ref (fT 6), .ref (fT 7), .int 0, .ref (fT 9), .ref (fT 10), .ref (fT 11), .ref (fT 12), .ref (fT 13)]))] s.heap.size = A at hD hE ⊢
  have hA : ∀ q : Nat, s.heap.size ≤ q → A q := fun q h => by rw [← hAe]; exact Or.inr h
  have hS : va_S A s.heap s.heap [] := va_S.rf
  have hP : va_P (dC, dI) vwCl [(x0, .inr (7, [.ref (b 0), .ref (b 1), .ref (b 2), .ref (b 3), .ref (b 4), .ref (b 5), .ref (b 6), .ref (b 7), .ref (b 8), .ref (b 9), .int 1])), ((b 2), .inr (5, [.ref (f6 0), .ref (f6 1), .ref (f6 2), .ref (f6 3), .ref (f6 4), .ref (f6 5), .int 0, .int 0])), ((b 6), .inr (0, [.int 0, .ref (fT 1), .int 0, .ref (fT 3), .int 0, .ref (fT 5), .ref (fT 6), .ref (fT 7), .int 0, .ref (fT 9), .ref (fT 10), .ref (fT 11), .ref (fT 12), .ref (fT 13)]))] s.heap := hP
  have hl := lv_entry ([.ref x0, .int (nI dn), .int (nI rn), .int 0]) (n := 5) (Nat.le_of_ble_eq_true rfl)
  rw [lg_entry_eq]
  generalize (lg_sl ([.ref x0, .int (nI dn), .int (nI rn), .int 0]) ++ List.replicate (5 - (lg_sl ([.ref x0, .int (nI dn), .int (nI rn), .int 0])).length) Slot.unset).toArray = ls at hl ⊢
  have hl : lv_has ls 5 [(0, .ref x0), (1, .int (nI dn)), (2, .int (nI rn)), (3, .int 0)] := hl
  refine lv_iload_n hx hb dX8_openWithout_0 rfl (lv_at hl 3 rfl) ?_
  refine lv_if_lt (tgt := 21) hx hb dX8_openWithout_1 (by decide) (fun c1_1 => by exfalso; exact absurd c1_1 (by decide)) (fun c1_1 => ?_)
  refine lv_iload_n hx hb dX8_openWithout_4 rfl (lv_at hl 3 rfl) ?_
  refine lv_iconst (v := 1) hx hb dX8_openWithout_5 (by decide) ?_
  refine lv_aload_n hx hb dX8_openWithout_6 rfl (lv_at hl 0 rfl) ?_
  refine va_get (D := (dC, dI)) (ci := 7) (v := .ref (b 6)) (C := RX8) (T := TX8) (N := 11) hx hb hts inlX8 hown hK hP 0 rfl rfl 6 (by decide) (hts (.fieldLink RX8 51 "ClosedUntil" "told" "LClosedUntil$Holdings;") qw_205) (fun _ h9 => h9) rfl dX8_openWithout_7 ?_
  refine va_getN (D := (dC, dI)) (ci := 0) (v := .int 0) (C := RX1) (T := TX1) (N := 14) hx hb hts inlX1 hown hK hP 2 rfl rfl 8 (by decide) (va_Nw.use rfl (nf_47 hN)) (fun _ h9 => h9) rfl dX8_openWithout_10 ?_
  refine lv_ishl hx hb dX8_openWithout_13 ?_
  refine cst (v := 1) (by decide) ?_
  refine lv_icmp_ge (tgt := 21) hx hb dX8_openWithout_14 (by decide) (fun c14_2 => by exfalso; exact absurd c14_2 (by decide)) (fun c14_2 => ?_)
  refine lv_iconst (v := 1) hx hb dX8_openWithout_17 (by decide) ?_
  refine lv_goto (tgt := 22) hx hb dX8_openWithout_18 (by decide) ?_
  refine lv_istore (lv' := [(4, .int 1), (0, .ref x0), (1, .int (nI dn)), (2, .int (nI rn)), (3, .int 0)]) hx hb dX8_openWithout_22 hl (by decide) rfl (fun ls hl => ?_)
  refine lv_iload hx hb dX8_openWithout_24 (lv_at hl 0 rfl) ?_
  refine lv_if_eq (tgt := 43) hx hb dX8_openWithout_26 (by decide) (fun c26_3 => by exfalso; exact absurd c26_3 (by decide)) (fun c26_3 => ?_)
  refine lv_iload_n hx hb dX8_openWithout_29 rfl (lv_at hl 2 rfl) ?_
  have hPc := hP.sub (ws' := []) [] rfl
  have hKc := hK.sub (tys' := []) [] rfl
  refine vp_callSi ((va_runS (As := [.int (nI dn)]) (rest := []) ⟨hx, hb, hml, hown, hts⟩ (c_dl_in l dC dI g (dn) hdn) (va_cwS 1 hts (gwS qw_70 qw_71 qw_69 qw_68) rfl rfl rfl (by decide +kernel) ⟨Nat.le_of_ble_eq_true rfl, Nat.le_of_ble_eq_true rfl⟩) ⟨fun a U g9 mk q => ⟨q.1, q.2.1, va_K.moved (u := U) (U := U.calling g9 mk a) (Vm.Alike.refl U.vm) q.2.2.1, Ev.bl q.2.2.2⟩, fun U hU hW => ⟨rfl, by rw [hU]; exact hPc, va_K.moved hW.alike hKc, hE.go hS (fun _ h => h.elim) hU hW⟩⟩ rfl rfl hl.1 rfl (lv_room (Nat.le_of_ble_eq_true rfl)) dX8_openWithout_30 ⟨Nat.le_of_ble_eq_true rfl, Nat.le_of_ble_eq_true rfl⟩)).run (fun r4 h_r4 => ?_)
  have h_r4 : r4 = 1 := h_r4
  subst h_r4
  refine lv_if_eq (tgt := 43) hx hb dX8_openWithout_33 (by decide) (fun c33_5 => by exfalso; exact absurd c33_5 (by decide)) (fun c33_5 => ?_)
  refine lv_iload_n hx hb dX8_openWithout_36 rfl (lv_at hl 3 rfl) ?_
  have hPc := hP.sub (ws' := []) [] rfl
  have hKc := hK.sub (tys' := []) [] rfl
  refine vp_callSi ((va_runS (As := [.int (nI rn)]) (rest := []) ⟨hx, hb, hml, hown, hts⟩ (c_ar_in l dC dI g (rn) hrn) (va_cwS 1 hts (gwS qw_270 qw_271 qw_69 qw_269) rfl rfl rfl (by decide +kernel) ⟨Nat.le_of_ble_eq_true rfl, Nat.le_of_ble_eq_true rfl⟩) ⟨fun a U g9 mk q => ⟨q.1, q.2.1, va_K.moved (u := U) (U := U.calling g9 mk a) (Vm.Alike.refl U.vm) q.2.2.1, Ev.bl q.2.2.2⟩, fun U hU hW => ⟨rfl, by rw [hU]; exact hPc, va_K.moved hW.alike hKc, hE.go hS (fun _ h => h.elim) hU hW⟩⟩ rfl rfl hl.1 rfl (lv_room (Nat.le_of_ble_eq_true rfl)) dX8_openWithout_37 ⟨Nat.le_of_ble_eq_true rfl, Nat.le_of_ble_eq_true rfl⟩)).run (fun r6 h_r6 => ?_)
  have h_r6 : r6 = 1 := h_r6
  subst h_r6
  refine lv_if_ne (tgt := 45) hx hb dX8_openWithout_40 (by decide) (fun c40_7 => ?_) (fun c40_7 => by exfalso; exact absurd c40_7 (by decide))
  refine lv_aload_n hx hb dX8_openWithout_45 rfl (lv_at hl 1 rfl) ?_
  have hPc := hP.sub (ws' := [(x0, .inr (7, [.ref (b 0), .ref (b 1), .ref (b 2), .ref (b 3), .ref (b 4), .ref (b 5), .ref (b 6), .ref (b 7), .ref (b 8), .ref (b 9), .int 1])), ((b 2), .inr (5, [.ref (f6 0), .ref (f6 1), .ref (f6 2), .ref (f6 3), .ref (f6 4), .ref (f6 5), .int 0, .int 0])), ((b 6), .inr (0, [.int 0, .ref (fT 1), .int 0, .ref (fT 3), .int 0, .ref (fT 5), .ref (fT 6), .ref (fT 7), .int 0, .ref (fT 9), .ref (fT 10), .ref (fT 11), .ref (fT 12), .ref (fT 13)]))]) [0, 1, 2] rfl
  have hKc := hK.sub (tys' := []) [] rfl
  have hDc := hD.sub (ws' := [(x0, .inr (7, [.ref (b 0), .ref (b 1), .ref (b 2), .ref (b 3), .ref (b 4), .ref (b 5), .ref (b 6), .ref (b 7), .ref (b 8), .ref (b 9), .int 1])), ((b 2), .inr (5, [.ref (f6 0), .ref (f6 1), .ref (f6 2), .ref (f6 3), .ref (f6 4), .ref (f6 5), .int 0, .int 0])), ((b 6), .inr (0, [.int 0, .ref (fT 1), .int 0, .ref (fT 3), .int 0, .ref (fT 5), .ref (fT 6), .ref (fT 7), .int 0, .ref (fT 9), .ref (fT 10), .ref (fT 11), .ref (fT 12), .ref (fT 13)]))]) [0, 1, 2] (by decide) rfl
  have hFc := va_free (wc := [(x0, .inr (7, [.ref (b 0), .ref (b 1), .ref (b 2), .ref (b 3), .ref (b 4), .ref (b 5), .ref (b 6), .ref (b 7), .ref (b 8), .ref (b 9), .int 1])), ((b 2), .inr (5, [.ref (f6 0), .ref (f6 1), .ref (f6 2), .ref (f6 3), .ref (f6 4), .ref (f6 5), .int 0, .int 0])), ((b 6), .inr (0, [.int 0, .ref (fT 1), .int 0, .ref (fT 3), .int 0, .ref (fT 5), .ref (fT 6), .ref (fT 7), .int 0, .ref (fT 9), .ref (fT 10), .ref (fT 11), .ref (fT 12), .ref (fT 13)]))]) hD hS hA [0, 1, 2] rfl
  refine va_callr (va_runV (As := []) (rest := []) ⟨hx, hb, hml, hown, hts⟩ (c_utd l dC dI g s.heap.size (x0) (b) (f4) (c4) (f5) (f7) (f6) (f2) (cK) (kf) (cZ) (fT) (fU) (sa) (sf) (sc) (spf) (sdf) (slf) (srf) (sga) (sgb) (rows) ) (cwV 0 hts (gwV qw_273 qw_274 qw_275 qw_69 qw_272) rfl rfl rfl (by decide +kernel) ⟨Nat.le_of_ble_eq_true rfl, Nat.le_of_ble_eq_true rfl⟩) ⟨fun a U g9 mk q => ⟨q.1, q.2.1, q.2.2.1, va_K.moved (u := U) (U := U.calling g9 mk a) (Vm.Alike.refl U.vm) q.2.2.2.1, q.2.2.2.2.1, Ev.bl q.2.2.2.2.2⟩, va_recv hK hP (ci := 7) (q0 := 0) rfl rfl, fun U hU hW => ⟨rfl, by rw [hU], by rw [hU]; exact hPc, va_K.moved hW.alike hKc, hDc.weaken (fun _ _ _ _ => trivial), hE.go hS hFc hU hW⟩⟩ rfl rfl hl.1 rfl (lv_room (Nat.le_of_ble_eq_true rfl)) dX8_openWithout_46 ⟨Nat.le_of_ble_eq_true rfl, Nat.le_of_ble_eq_true rfl⟩) hS (fun q _ h => hFc q h) hFc (fun u8 r9 t H1 locs ht hvm h_u8 hB hz1 hk1 hS => ?_)
  obtain ⟨hrr, hP1, hK1, hD1⟩ := hB
  rw [ht] at hP1
  have hK1 := va_K.moved hvm.symm hK1
  obtain ⟨hP, hD⟩ := va_join (wr := []) (w1 := [(x0, .inr (7, [.ref (b 0), .ref (b 1), .ref (b 2), .ref (b 3), .ref (b 4), .ref (b 5), .ref (b 6), .ref (b 7), .ref (b 8), .ref (b 9), .int 0])), ((b 2), .inr (5, [.ref (f6 0), .ref (f6 1), .ref (f6 2), .ref (f6 3), .ref (f6 4), .ref (f6 5), .int 0, .int 0])), ((b 6), .inr (0, [.int 0, .ref (fT 1), .int 0, .ref (fT 3), .int 0, .ref (fT 5), .ref (fT 6), .ref (fT 7), .int 0, .ref (fT 9), .ref (fT 10), .ref (fT 11), .ref (fT 12), .ref (fT 13)]))]) hP hD [0, 1, 2] [] rfl rfl (by decide) (by decide) hk1 hFc hP1 hD1
  have hK := hK.app hK1
  have hK : va_K (dC, dI) vwCl [] s := hK
  generalize H1 = H at hP hS ⊢
  have hP : va_P (dC, dI) vwCl [(x0, .inr (7, [.ref (b 0), .ref (b 1), .ref (b 2), .ref (b 3), .ref (b 4), .ref (b 5), .ref (b 6), .ref (b 7), .ref (b 8), .ref (b 9), .int 0])), ((b 2), .inr (5, [.ref (f6 0), .ref (f6 1), .ref (f6 2), .ref (f6 3), .ref (f6 4), .ref (f6 5), .int 0, .int 0])), ((b 6), .inr (0, [.int 0, .ref (fT 1), .int 0, .ref (fT 3), .int 0, .ref (fT 5), .ref (fT 6), .ref (fT 7), .int 0, .ref (fT 9), .ref (fT 10), .ref (fT 11), .ref (fT 12), .ref (fT 13)]))] H := hP
  have hD : va_D A [(x0, .inr (7, [.ref (b 0), .ref (b 1), .ref (b 2), .ref (b 3), .ref (b 4), .ref (b 5), .ref (b 6), .ref (b 7), .ref (b 8), .ref (b 9), .int 0])), ((b 2), .inr (5, [.ref (f6 0), .ref (f6 1), .ref (f6 2), .ref (f6 3), .ref (f6 4), .ref (f6 5), .int 0, .int 0])), ((b 6), .inr (0, [.int 0, .ref (fT 1), .int 0, .ref (fT 3), .int 0, .ref (fT 5), .ref (fT 6), .ref (fT 7), .int 0, .ref (fT 9), .ref (fT 10), .ref (fT 11), .ref (fT 12), .ref (fT 13)]))] := hD
  refine W.widen (k := 0) (n := 0) (Nat.le_of_ble_eq_true rfl) (Nat.le_of_ble_eq_true rfl) ?_
  have hrr : r9 = (b 2) := hrr
  subst hrr
  refine lv_iload_n hx hb dX8_openWithout_49 rfl (lv_at hl 2 rfl) ?_
  refine lv_aload_n hx hb dX8_openWithout_50 rfl (lv_at hl 1 rfl) ?_
  refine va_get (D := (dC, dI)) (ci := 7) (v := .ref (b 6)) (C := RX8) (T := TX8) (N := 11) hx hb hts inlX8 hown hK hP 0 rfl rfl 6 (by decide) (hts (.fieldLink RX8 51 "ClosedUntil" "told" "LClosedUntil$Holdings;") qw_205) (fun _ h9 => h9) rfl dX8_openWithout_51 ?_
  refine lv_iload_n hx hb dX8_openWithout_54 rfl (lv_at hl 3 rfl) ?_
  have hPc := hP.sub (ws' := [((b 6), .inr (0, [.int 0, .ref (fT 1), .int 0, .ref (fT 3), .int 0, .ref (fT 5), .ref (fT 6), .ref (fT 7), .int 0, .ref (fT 9), .ref (fT 10), .ref (fT 11), .ref (fT 12), .ref (fT 13)]))]) [2] rfl
  have hKc := hK.sub (tys' := []) [] rfl
  refine vp_callSi ((va_runVN (As := [.int (nI rn)]) (rest := [.int (nI dn), .ref (b 2)]) ⟨hx, hb, hml, hown, hts⟩ (c_hf l dC dI g ((b 6)) (fT) ((nI rn)) ) ⟨va_cnB 1 hts (gwC qw_276) rfl rfl rfl (nm_36 hN) (hts (.initialized RX1) qw_202) (by decide +kernel) ⟨Nat.le_of_ble_eq_true rfl, Nat.le_of_ble_eq_true rfl⟩, (hts (.instanceMethod yX1_holdingFor) qw_277), (hts (.selects RX1 yX1_holdingFor yX1_holdingFor) qw_278)⟩ ⟨fun a U g9 mk q => ⟨q.1, q.2.1, va_K.moved (u := U) (U := U.calling g9 mk a) (Vm.Alike.refl U.vm) q.2.2.1, Ev.bl q.2.2.2⟩, va_recv hK hP (ci := 0) (q0 := 2) rfl rfl, fun U hU hW => ⟨rfl, by rw [hU]; exact hPc, va_K.moved hW.alike hKc, hE.go hS (fun _ h => h.elim) hU hW⟩⟩ rfl rfl hl.1 rfl (lv_room (Nat.le_of_ble_eq_true rfl)) dX8_openWithout_55 ⟨Nat.le_of_ble_eq_true rfl, Nat.le_of_ble_eq_true rfl⟩)).run (fun r10 h_r10 => ?_)
  have h_r10 : r10 = 0 := h_r10
  subst h_r10
  refine lv_iload_n hx hb dX8_openWithout_58 rfl (lv_at hl 4 rfl) ?_
  refine lv_iconst (v := (-1)) hx hb dX8_openWithout_59 (by decide) ?_
  refine lv_ixor hx hb dX8_openWithout_60 ?_
  refine cst (v := (-1)) (by decide) ?_
  refine lv_iand hx hb dX8_openWithout_61 ?_
  refine cst (v := 0) (by decide) ?_
  have hPc := hP.sub (ws' := [((b 2), .inr (5, [.ref (f6 0), .ref (f6 1), .ref (f6 2), .ref (f6 3), .ref (f6 4), .ref (f6 5), .int 0, .int 0]))]) [1] rfl
  have hKc := hK.sub (tys' := []) [] rfl
  refine vp_callSi ((va_runVN (As := [.int (nI dn), .int 0]) (rest := []) ⟨hx, hb, hml, hown, hts⟩ (c_oo l dC dI g ((b 2)) (f6) ((nI dn)) (0) ) ⟨va_cnB 2 hts (gwC qw_279) rfl rfl rfl (nm_40 hN) (hts (.initialized RX6) qw_184) (by decide +kernel) ⟨Nat.le_of_ble_eq_true rfl, Nat.le_of_ble_eq_true rfl⟩, (hts (.instanceMethod yX6_openOn) qw_280), (hts (.selects RX6 yX6_openOn yX6_openOn) qw_281)⟩ ⟨fun a U g9 mk q => ⟨q.1, q.2.1, va_K.moved (u := U) (U := U.calling g9 mk a) (Vm.Alike.refl U.vm) q.2.2.1, Ev.bl q.2.2.2⟩, va_recv hK hP (ci := 5) (q0 := 1) rfl rfl, fun U hU hW => ⟨rfl, by rw [hU]; exact hPc, va_K.moved hW.alike hKc, hE.go hS (fun _ h => h.elim) hU hW⟩⟩ rfl rfl hl.1 rfl (lv_room (Nat.le_of_ble_eq_true rfl)) dX8_openWithout_62 ⟨Nat.le_of_ble_eq_true rfl, Nat.le_of_ble_eq_true rfl⟩)).run (fun r11 h_r11 => ?_)
  have h_r11 : r11 = 0 := h_r11
  subst h_r11
  have hPc := hP.sub (ws' := []) [] rfl
  have hKc := hK.sub (tys' := []) [] rfl
  refine vp_callSi ((va_runS (As := [.int 0]) (rest := []) ⟨hx, hb, hml, hown, hts⟩ (c_bc0 l dC dI g  ) (va_cwS 1 hts (gwS qw_287 qw_288 qw_286 qw_285) rfl rfl rfl (by decide +kernel) ⟨Nat.le_of_ble_eq_true rfl, Nat.le_of_ble_eq_true rfl⟩) ⟨fun a U g9 mk q => ⟨q.1, q.2.1, va_K.moved (u := U) (U := U.calling g9 mk a) (Vm.Alike.refl U.vm) q.2.2.1, Ev.bl q.2.2.2⟩, fun U hU hW => ⟨rfl, by rw [hU]; exact hPc, va_K.moved hW.alike hKc, hE.go hS (fun _ h => h.elim) hU hW⟩⟩ rfl rfl hl.1 rfl (lv_room (Nat.le_of_ble_eq_true rfl)) dX8_openWithout_65 ⟨Nat.le_of_ble_eq_true rfl, Nat.le_of_ble_eq_true rfl⟩)).run (fun r12 h_r12 => ?_)
  have h_r12 : r12 = 0 := h_r12
  subst h_r12
  refine W.widen (k := 0) (n := 0) (Nat.le_of_ble_eq_true rfl) (Nat.le_of_ble_eq_true rfl) ?_
  exact W.iret (v := 0) hx hb hr (fun t ht hW => ⟨⟨0, (), rfl, (rfl), trivial⟩, hS.F ht⟩) hS.2.2 dX8_openWithout_68
set_option maxHeartbeats 4000000 in
set_option maxRecDepth 100000 in
theorem c_8ow_B (l : Launch) (dC : Nat → ClassId) (dI : Nat → Nat → Nat) (g : Gv) (sz : Nat) (x0 : Nat) (b : Nat → Nat) (f4 : Nat → Nat) (c4 : ClassId) (f5 : Nat → Nat) (f7 : Nat → Nat) (f6 : Nat → Nat) (f2 : Nat → Nat) (cK : ClassId) (kf : Nat → Option Nat) (cZ : ClassId) (fT : Nat → Nat) (fU : Nat → Nat) (sa : Nat → Nat) (sf : Nat → Nat → Nat) (sc : Nat → Nat → ClassId) (spf : Nat → Nat → Int32) (sdf : Nat → Nat → Int32) (slf : Nat → Nat → Int32) (srf : Nat → Nat → Int32) (sga : Nat → Nat → Option Nat) (sgb : Nat → Nat → Option Nat) (rows : va_W) (da : Int32) (re : Int32) (nb : Int32) (hdo : ¬ (0 ≤ da.toInt ∧ da.toInt ≤ 219145)) : Met l yX8_openWithout (.code yX8_openWithout cX8_openWithout 5 (some .int) :: TBL) ({ frames := 3, cells := 0, slots := 0, locals := 180 }) (va_Pc [.ref x0, .int da, .int re, .int nb] (fun U => U.heap.size = sz ∧ va_P (dC, dI) vwCl [(x0, .inr (7, [.ref (b 0), .ref (b 1), .ref (b 2), .ref (b 3), .ref (b 4), .ref (b 5), .ref (b 6), .ref (b 7), .ref (b 8), .ref (b 9), .int 1])), ((b 2), .inr (5, [.ref (f6 0), .ref (f6 1), .ref (f6 2), .ref (f6 3), .ref (f6 4), .ref (f6 5), .int 0, .int 0])), ((b 6), .inr (0, [.int 0, .ref (fT 1), .int 0, .ref (fT 3), .int 0, .ref (fT 5), .ref (fT 6), .ref (fT 7), .int 0, .ref (fT 9), .ref (fT 10), .ref (fT 11), .ref (fT 12), .ref (fT 13)]))] U.heap ∧ va_K (dC, dI) vwCl [] U ∧ va_D (fun _ => True) [(x0, .inr (7, [.ref (b 0), .ref (b 1), .ref (b 2), .ref (b 3), .ref (b 4), .ref (b 5), .ref (b 6), .ref (b 7), .ref (b 8), .ref (b 9), .int 1])), ((b 2), .inr (5, [.ref (f6 0), .ref (f6 1), .ref (f6 2), .ref (f6 3), .ref (f6 4), .ref (f6 5), .int 0, .int 0])), ((b 6), .inr (0, [.int 0, .ref (fT 1), .int 0, .ref (fT 3), .int 0, .ref (fT 5), .ref (fT 6), .ref (fT 7), .int 0, .ref (fT 9), .ref (fT 10), .ref (fT 11), .ref (fT 12), .ref (fT 13)]))] ∧ Ev g (va_A [(x0, .inr (7, [.ref (b 0), .ref (b 1), .ref (b 2), .ref (b 3), .ref (b 4), .ref (b 5), .ref (b 6), .ref (b 7), .ref (b 8), .ref (b 9), .int 1])), ((b 2), .inr (5, [.ref (f6 0), .ref (f6 1), .ref (f6 2), .ref (f6 3), .ref (f6 4), .ref (f6 5), .int 0, .int 0])), ((b 6), .inr (0, [.int 0, .ref (fT 1), .int 0, .ref (fT 3), .int 0, .ref (fT 5), .ref (fT 6), .ref (fT 7), .int 0, .ref (fT 9), .ref (fT 10), .ref (fT 11), .ref (fT 12), .ref (fT 13)]))] sz) U)) (va_Qi (fun (r : Int32) (u : Unit) => r = (-1)) (fun (_ : Unit) (_ : State) => True) (va_A [(x0, .inr (7, [.ref (b 0), .ref (b 1), .ref (b 2), .ref (b 3), .ref (b 4), .ref (b 5), .ref (b 6), .ref (b 7), .ref (b 8), .ref (b 9), .int 1])), ((b 2), .inr (5, [.ref (f6 0), .ref (f6 1), .ref (f6 2), .ref (f6 3), .ref (f6 4), .ref (f6 5), .int 0, .int 0])), ((b 6), .inr (0, [.int 0, .ref (fT 1), .int 0, .ref (fT 3), .int 0, .ref (fT 5), .ref (fT 6), .ref (fT 7), .int 0, .ref (fT 9), .ref (fT 10), .ref (fT 11), .ref (fT 12), .ref (fT 13)]))] sz)) 0 0 (va_A [(x0, .inr (7, [.ref (b 0), .ref (b 1), .ref (b 2), .ref (b 3), .ref (b 4), .ref (b 5), .ref (b 6), .ref (b 7), .ref (b 8), .ref (b 9), .int 1])), ((b 2), .inr (5, [.ref (f6 0), .ref (f6 1), .ref (f6 2), .ref (f6 3), .ref (f6 4), .ref (f6 5), .int 0, .int 0])), ((b 6), .inr (0, [.int 0, .ref (fT 1), .int 0, .ref (fT 3), .int 0, .ref (fT 5), .ref (fT 6), .ref (fT 7), .int 0, .ref (fT 9), .ref (fT 10), .ref (fT 11), .ref (fT 12), .ref (fT 13)]))] sz) := by
  refine Met.ofW (cc := cX8_openWithout) (maxL := 5) (ret := (some .int)) (by decide) rfl ?_
  intro p e s m args below meth c s₁ B hml hv
  obtain ⟨rfl, hsz, hP, hK, hD0, hE⟩ := hv
  have hx := B.exec
  have hb := B.bytes
  have hr := B.returns
  have hts0 := atoms_spec (ws := (.code yX8_openWithout cX8_openWithout 5 (some .int) :: TBL)) B.pre
  have hts := fun (w : Cond) (h : w ∈ TBL) => hts0 w (List.mem_cons_of_mem _ h)
  have hown : s.vm.findClass RX8 = some m.cls := findClass_of_methodNamed B.named
  have hlocks := B.notSynchronized
  have hN := hE.1
  subst hsz
  have hD := hD0.self (sz := s.heap.size)
  generalize hAe : va_A [(x0, .inr (7, [.ref (b 0), .ref (b 1), .ref (b 2), .ref (b 3), .ref (b 4), .ref (b 5), .ref (b 6), .ref (b 7), .ref (b 8), .ref (b 9), .int 1])), ((b 2), .inr (5, [.ref (f6 0), .ref (f6 1), .ref (f6 2), .ref (f6 3), .ref (f6 4), .ref (f6 5), .int 0, .int 0])), ((b 6), .inr (0, [.int 0, .ref (fT 1), .int 0, .ref (fT 3), .int 0, .ref (fT 5), .ref (fT 6), .ref (fT 7), .int 0, .ref (fT 9), .ref (fT 10), .ref (fT 11), .ref (fT 12), .ref (fT 13)]))] s.heap.size = A at hD hE ⊢
  have hA : ∀ q : Nat, s.heap.size ≤ q → A q := fun q h => by rw [← hAe]; exact Or.inr h
  have hS : va_S A s.heap s.heap [] := va_S.rf
  have hP : va_P (dC, dI) vwCl [(x0, .inr (7, [.ref (b 0), .ref (b 1), .ref (b 2), .ref (b 3), .ref (b 4), .ref (b 5), .ref (b 6), .ref (b 7), .ref (b 8), .ref (b 9), .int 1])), ((b 2), .inr (5, [.ref (f6 0), .ref (f6 1), .ref (f6 2), .ref (f6 3), .ref (f6 4), .ref (f6 5), .int 0, .int 0])), ((b 6), .inr (0, [.int 0, .ref (fT 1), .int 0, .ref (fT 3), .int 0, .ref (fT 5), .ref (fT 6), .ref (fT 7), .int 0, .ref (fT 9), .ref (fT 10), .ref (fT 11), .ref (fT 12), .ref (fT 13)]))] s.heap := hP
  have hl := lv_entry ([.ref x0, .int da, .int re, .int nb]) (n := 5) (Nat.le_of_ble_eq_true rfl)
  rw [lg_entry_eq]
  generalize (lg_sl ([.ref x0, .int da, .int re, .int nb]) ++ List.replicate (5 - (lg_sl ([.ref x0, .int da, .int re, .int nb])).length) Slot.unset).toArray = ls at hl ⊢
  have hl : lv_has ls 5 [(0, .ref x0), (1, .int da), (2, .int re), (3, .int nb)] := hl
  refine lv_iload_n hx hb dX8_openWithout_0 rfl (lv_at hl 3 rfl) ?_
  refine lv_if_lt (tgt := 21) hx hb dX8_openWithout_1 (by decide) (fun c1_1 => ?_) (fun c1_1 => ?_)
  · have c1_1 : nb.toInt < 0 := (cv_lt rfl (by decide)).mp c1_1
    refine lv_iconst (v := 0) hx hb dX8_openWithout_21 (by decide) ?_
    refine lv_istore (lv' := [(4, .int 0), (0, .ref x0), (1, .int da), (2, .int re), (3, .int nb)]) hx hb dX8_openWithout_22 hl (by decide) rfl (fun ls hl => ?_)
    refine lv_iload hx hb dX8_openWithout_24 (lv_at hl 0 rfl) ?_
    refine lv_if_eq (tgt := 43) hx hb dX8_openWithout_26 (by decide) (fun c26_2 => ?_) (fun c26_2 => by exfalso; exact absurd c26_2 (by decide))
    refine lv_iconst (v := (-1)) hx hb dX8_openWithout_43 (by decide) ?_
    refine W.widen (k := 0) (n := 0) (Nat.le_of_ble_eq_true rfl) (Nat.le_of_ble_eq_true rfl) ?_
    exact W.iret (v := (-1)) hx hb hr (fun t ht hW => ⟨⟨(-1), (), rfl, (rfl), trivial⟩, hS.F ht⟩) hS.2.2 dX8_openWithout_44
  · have c1_1 : ¬ (nb.toInt < 0) := mt (cv_lt rfl (by decide)).mpr c1_1
    refine lv_iload_n hx hb dX8_openWithout_4 rfl (lv_at hl 3 rfl) ?_
    refine lv_iconst (v := 1) hx hb dX8_openWithout_5 (by decide) ?_
    refine lv_aload_n hx hb dX8_openWithout_6 rfl (lv_at hl 0 rfl) ?_
    refine va_get (D := (dC, dI)) (ci := 7) (v := .ref (b 6)) (C := RX8) (T := TX8) (N := 11) hx hb hts inlX8 hown hK hP 0 rfl rfl 6 (by decide) (hts (.fieldLink RX8 51 "ClosedUntil" "told" "LClosedUntil$Holdings;") qw_205) (fun _ h9 => h9) rfl dX8_openWithout_7 ?_
    refine va_getN (D := (dC, dI)) (ci := 0) (v := .int 0) (C := RX1) (T := TX1) (N := 14) hx hb hts inlX1 hown hK hP 2 rfl rfl 8 (by decide) (va_Nw.use rfl (nf_47 hN)) (fun _ h9 => h9) rfl dX8_openWithout_10 ?_
    refine lv_ishl hx hb dX8_openWithout_13 ?_
    refine cst (v := 1) (by decide) ?_
    refine lv_icmp_ge (tgt := 21) hx hb dX8_openWithout_14 (by decide) (fun c14_3 => ?_) (fun c14_3 => ?_)
    · have c14_3 : 1 ≤ nb.toInt := (cv_le (by decide) rfl).mp c14_3
      refine lv_iconst (v := 0) hx hb dX8_openWithout_21 (by decide) ?_
      refine lv_istore (lv' := [(4, .int 0), (0, .ref x0), (1, .int da), (2, .int re), (3, .int nb)]) hx hb dX8_openWithout_22 hl (by decide) rfl (fun ls hl => ?_)
      refine lv_iload hx hb dX8_openWithout_24 (lv_at hl 0 rfl) ?_
      refine lv_if_eq (tgt := 43) hx hb dX8_openWithout_26 (by decide) (fun c26_4 => ?_) (fun c26_4 => by exfalso; exact absurd c26_4 (by decide))
      refine lv_iconst (v := (-1)) hx hb dX8_openWithout_43 (by decide) ?_
      refine W.widen (k := 0) (n := 0) (Nat.le_of_ble_eq_true rfl) (Nat.le_of_ble_eq_true rfl) ?_
      exact W.iret (v := (-1)) hx hb hr (fun t ht hW => ⟨⟨(-1), (), rfl, (rfl), trivial⟩, hS.F ht⟩) hS.2.2 dX8_openWithout_44
    · have c14_3 : ¬ (1 ≤ nb.toInt) := mt (cv_le (by decide) rfl).mpr c14_3
      refine lv_iconst (v := 1) hx hb dX8_openWithout_17 (by decide) ?_
      refine lv_goto (tgt := 22) hx hb dX8_openWithout_18 (by decide) ?_
      refine lv_istore (lv' := [(4, .int 1), (0, .ref x0), (1, .int da), (2, .int re), (3, .int nb)]) hx hb dX8_openWithout_22 hl (by decide) rfl (fun ls hl => ?_)
      refine lv_iload hx hb dX8_openWithout_24 (lv_at hl 0 rfl) ?_
      refine lv_if_eq (tgt := 43) hx hb dX8_openWithout_26 (by decide) (fun c26_5 => by exfalso; exact absurd c26_5 (by decide)) (fun c26_5 => ?_)
      refine lv_iload_n hx hb dX8_openWithout_29 rfl (lv_at hl 2 rfl) ?_
      have hPc := hP.sub (ws' := []) [] rfl
      have hKc := hK.sub (tys' := []) [] rfl
      refine vp_callSi ((va_runS (As := [.int da]) (rest := []) ⟨hx, hb, hml, hown, hts⟩ (c_dl_out l dC dI g (da) hdo) (va_cwS 1 hts (gwS qw_70 qw_71 qw_69 qw_68) rfl rfl rfl (by decide +kernel) ⟨Nat.le_of_ble_eq_true rfl, Nat.le_of_ble_eq_true rfl⟩) ⟨fun a U g9 mk q => ⟨q.1, q.2.1, va_K.moved (u := U) (U := U.calling g9 mk a) (Vm.Alike.refl U.vm) q.2.2.1, Ev.bl q.2.2.2⟩, fun U hU hW => ⟨rfl, by rw [hU]; exact hPc, va_K.moved hW.alike hKc, hE.go hS (fun _ h => h.elim) hU hW⟩⟩ rfl rfl hl.1 rfl (lv_room (Nat.le_of_ble_eq_true rfl)) dX8_openWithout_30 ⟨Nat.le_of_ble_eq_true rfl, Nat.le_of_ble_eq_true rfl⟩)).run (fun r6 h_r6 => ?_)
      have h_r6 : r6 = 0 := h_r6
      subst h_r6
      refine lv_if_eq (tgt := 43) hx hb dX8_openWithout_33 (by decide) (fun c33_7 => ?_) (fun c33_7 => by exfalso; exact absurd c33_7 (by decide))
      refine lv_iconst (v := (-1)) hx hb dX8_openWithout_43 (by decide) ?_
      refine W.widen (k := 0) (n := 0) (Nat.le_of_ble_eq_true rfl) (Nat.le_of_ble_eq_true rfl) ?_
      exact W.iret (v := (-1)) hx hb hr (fun t ht hW => ⟨⟨(-1), (), rfl, (rfl), trivial⟩, hS.F ht⟩) hS.2.2 dX8_openWithout_44
set_option maxHeartbeats 4000000 in
set_option maxRecDepth 100000 in
theorem c_8ow_C (l : Launch) (dC : Nat → ClassId) (dI : Nat → Nat → Nat) (g : Gv) (sz : Nat) (x0 : Nat) (b : Nat → Nat) (f4 : Nat → Nat) (c4 : ClassId) (f5 : Nat → Nat) (f7 : Nat → Nat) (f6 : Nat → Nat) (f2 : Nat → Nat) (cK : ClassId) (kf : Nat → Option Nat) (cZ : ClassId) (fT : Nat → Nat) (fU : Nat → Nat) (sa : Nat → Nat) (sf : Nat → Nat → Nat) (sc : Nat → Nat → ClassId) (spf : Nat → Nat → Int32) (sdf : Nat → Nat → Int32) (slf : Nat → Nat → Int32) (srf : Nat → Nat → Int32) (sga : Nat → Nat → Option Nat) (sgb : Nat → Nat → Option Nat) (rows : va_W) (dn : Nat) (re : Int32) (nb : Int32) (hdn : dn ≤ 219145) (hro0 : ¬ (0 ≤ re.toInt ∧ re.toInt ≤ 15)) : Met l yX8_openWithout (.code yX8_openWithout cX8_openWithout 5 (some .int) :: TBL) ({ frames := 3, cells := 0, slots := 0, locals := 180 }) (va_Pc [.ref x0, .int (nI dn), .int re, .int nb] (fun U => U.heap.size = sz ∧ va_P (dC, dI) vwCl [(x0, .inr (7, [.ref (b 0), .ref (b 1), .ref (b 2), .ref (b 3), .ref (b 4), .ref (b 5), .ref (b 6), .ref (b 7), .ref (b 8), .ref (b 9), .int 1])), ((b 2), .inr (5, [.ref (f6 0), .ref (f6 1), .ref (f6 2), .ref (f6 3), .ref (f6 4), .ref (f6 5), .int 0, .int 0])), ((b 6), .inr (0, [.int 0, .ref (fT 1), .int 0, .ref (fT 3), .int 0, .ref (fT 5), .ref (fT 6), .ref (fT 7), .int 0, .ref (fT 9), .ref (fT 10), .ref (fT 11), .ref (fT 12), .ref (fT 13)]))] U.heap ∧ va_K (dC, dI) vwCl [] U ∧ va_D (fun _ => True) [(x0, .inr (7, [.ref (b 0), .ref (b 1), .ref (b 2), .ref (b 3), .ref (b 4), .ref (b 5), .ref (b 6), .ref (b 7), .ref (b 8), .ref (b 9), .int 1])), ((b 2), .inr (5, [.ref (f6 0), .ref (f6 1), .ref (f6 2), .ref (f6 3), .ref (f6 4), .ref (f6 5), .int 0, .int 0])), ((b 6), .inr (0, [.int 0, .ref (fT 1), .int 0, .ref (fT 3), .int 0, .ref (fT 5), .ref (fT 6), .ref (fT 7), .int 0, .ref (fT 9), .ref (fT 10), .ref (fT 11), .ref (fT 12), .ref (fT 13)]))] ∧ Ev g (va_A [(x0, .inr (7, [.ref (b 0), .ref (b 1), .ref (b 2), .ref (b 3), .ref (b 4), .ref (b 5), .ref (b 6), .ref (b 7), .ref (b 8), .ref (b 9), .int 1])), ((b 2), .inr (5, [.ref (f6 0), .ref (f6 1), .ref (f6 2), .ref (f6 3), .ref (f6 4), .ref (f6 5), .int 0, .int 0])), ((b 6), .inr (0, [.int 0, .ref (fT 1), .int 0, .ref (fT 3), .int 0, .ref (fT 5), .ref (fT 6), .ref (fT 7), .int 0, .ref (fT 9), .ref (fT 10), .ref (fT 11), .ref (fT 12), .ref (fT 13)]))] sz) U)) (va_Qi (fun (r : Int32) (u : Unit) => r = (-1)) (fun (_ : Unit) (_ : State) => True) (va_A [(x0, .inr (7, [.ref (b 0), .ref (b 1), .ref (b 2), .ref (b 3), .ref (b 4), .ref (b 5), .ref (b 6), .ref (b 7), .ref (b 8), .ref (b 9), .int 1])), ((b 2), .inr (5, [.ref (f6 0), .ref (f6 1), .ref (f6 2), .ref (f6 3), .ref (f6 4), .ref (f6 5), .int 0, .int 0])), ((b 6), .inr (0, [.int 0, .ref (fT 1), .int 0, .ref (fT 3), .int 0, .ref (fT 5), .ref (fT 6), .ref (fT 7), .int 0, .ref (fT 9), .ref (fT 10), .ref (fT 11), .ref (fT 12), .ref (fT 13)]))] sz)) 0 0 (va_A [(x0, .inr (7, [.ref (b 0), .ref (b 1), .ref (b 2), .ref (b 3), .ref (b 4), .ref (b 5), .ref (b 6), .ref (b 7), .ref (b 8), .ref (b 9), .int 1])), ((b 2), .inr (5, [.ref (f6 0), .ref (f6 1), .ref (f6 2), .ref (f6 3), .ref (f6 4), .ref (f6 5), .int 0, .int 0])), ((b 6), .inr (0, [.int 0, .ref (fT 1), .int 0, .ref (fT 3), .int 0, .ref (fT 5), .ref (fT 6), .ref (fT 7), .int 0, .ref (fT 9), .ref (fT 10), .ref (fT 11), .ref (fT 12), .ref (fT 13)]))] sz) := by
  refine Met.ofW (cc := cX8_openWithout) (maxL := 5) (ret := (some .int)) (by decide) rfl ?_
  intro p e s m args below meth c s₁ B hml hv
  obtain ⟨rfl, hsz, hP, hK, hD0, hE⟩ := hv
  have hx := B.exec
  have hb := B.bytes
  have hr := B.returns
  have hts0 := atoms_spec (ws := (.code yX8_openWithout cX8_openWithout 5 (some .int) :: TBL)) B.pre
  have hts := fun (w : Cond) (h : w ∈ TBL) => hts0 w (List.mem_cons_of_mem _ h)
  have hown : s.vm.findClass RX8 = some m.cls := findClass_of_methodNamed B.named
  have hlocks := B.notSynchronized
  have hN := hE.1
  subst hsz
  have hD := hD0.self (sz := s.heap.size)
  generalize hAe : va_A [(x0, .inr (7, [.ref (b 0), .ref (b 1), .ref (b 2), .ref (b 3), .ref (b 4), .ref (b 5), .ref (b 6), .ref (b 7), .ref (b 8), .ref (b 9), .int 1])), ((b 2), .inr (5, [.ref (f6 0), .ref (f6 1), .ref (f6 2), .ref (f6 3), .ref (f6 4), .ref (f6 5), .int 0, .int 0])), ((b 6), .inr (0, [.int 0, .ref (fT 1), .int 0, .ref (fT 3), .int 0, .ref (fT 5), .ref (fT 6), .ref (fT 7), .int 0, .ref (fT 9), .ref (fT 10), .ref (fT 11), .ref (fT 12), .ref (fT 13)]))] s.heap.size = A at hD hE ⊢
  have hA : ∀ q : Nat, s.heap.size ≤ q → A q := fun q h => by rw [← hAe]; exact Or.inr h
  have hS : va_S A s.heap s.heap [] := va_S.rf
  have hP : va_P (dC, dI) vwCl [(x0, .inr (7, [.ref (b 0), .ref (b 1), .ref (b 2), .ref (b 3), .ref (b 4), .ref (b 5), .ref (b 6), .ref (b 7), .ref (b 8), .ref (b 9), .int 1])), ((b 2), .inr (5, [.ref (f6 0), .ref (f6 1), .ref (f6 2), .ref (f6 3), .ref (f6 4), .ref (f6 5), .int 0, .int 0])), ((b 6), .inr (0, [.int 0, .ref (fT 1), .int 0, .ref (fT 3), .int 0, .ref (fT 5), .ref (fT 6), .ref (fT 7), .int 0, .ref (fT 9), .ref (fT 10), .ref (fT 11), .ref (fT 12), .ref (fT 13)]))] s.heap := hP
  have hl := lv_entry ([.ref x0, .int (nI dn), .int re, .int nb]) (n := 5) (Nat.le_of_ble_eq_true rfl)
  rw [lg_entry_eq]
  generalize (lg_sl ([.ref x0, .int (nI dn), .int re, .int nb]) ++ List.replicate (5 - (lg_sl ([.ref x0, .int (nI dn), .int re, .int nb])).length) Slot.unset).toArray = ls at hl ⊢
  have hl : lv_has ls 5 [(0, .ref x0), (1, .int (nI dn)), (2, .int re), (3, .int nb)] := hl
  refine lv_iload_n hx hb dX8_openWithout_0 rfl (lv_at hl 3 rfl) ?_
  refine lv_if_lt (tgt := 21) hx hb dX8_openWithout_1 (by decide) (fun c1_1 => ?_) (fun c1_1 => ?_)
  · have c1_1 : nb.toInt < 0 := (cv_lt rfl (by decide)).mp c1_1
    refine lv_iconst (v := 0) hx hb dX8_openWithout_21 (by decide) ?_
    refine lv_istore (lv' := [(4, .int 0), (0, .ref x0), (1, .int (nI dn)), (2, .int re), (3, .int nb)]) hx hb dX8_openWithout_22 hl (by decide) rfl (fun ls hl => ?_)
    refine lv_iload hx hb dX8_openWithout_24 (lv_at hl 0 rfl) ?_
    refine lv_if_eq (tgt := 43) hx hb dX8_openWithout_26 (by decide) (fun c26_2 => ?_) (fun c26_2 => by exfalso; exact absurd c26_2 (by decide))
    refine lv_iconst (v := (-1)) hx hb dX8_openWithout_43 (by decide) ?_
    refine W.widen (k := 0) (n := 0) (Nat.le_of_ble_eq_true rfl) (Nat.le_of_ble_eq_true rfl) ?_
    exact W.iret (v := (-1)) hx hb hr (fun t ht hW => ⟨⟨(-1), (), rfl, (rfl), trivial⟩, hS.F ht⟩) hS.2.2 dX8_openWithout_44
  · have c1_1 : ¬ (nb.toInt < 0) := mt (cv_lt rfl (by decide)).mpr c1_1
    refine lv_iload_n hx hb dX8_openWithout_4 rfl (lv_at hl 3 rfl) ?_
    refine lv_iconst (v := 1) hx hb dX8_openWithout_5 (by decide) ?_
    refine lv_aload_n hx hb dX8_openWithout_6 rfl (lv_at hl 0 rfl) ?_
    refine va_get (D := (dC, dI)) (ci := 7) (v := .ref (b 6)) (C := RX8) (T := TX8) (N := 11) hx hb hts inlX8 hown hK hP 0 rfl rfl 6 (by decide) (hts (.fieldLink RX8 51 "ClosedUntil" "told" "LClosedUntil$Holdings;") qw_205) (fun _ h9 => h9) rfl dX8_openWithout_7 ?_
    refine va_getN (D := (dC, dI)) (ci := 0) (v := .int 0) (C := RX1) (T := TX1) (N := 14) hx hb hts inlX1 hown hK hP 2 rfl rfl 8 (by decide) (va_Nw.use rfl (nf_47 hN)) (fun _ h9 => h9) rfl dX8_openWithout_10 ?_
    refine lv_ishl hx hb dX8_openWithout_13 ?_
    refine cst (v := 1) (by decide) ?_
    refine lv_icmp_ge (tgt := 21) hx hb dX8_openWithout_14 (by decide) (fun c14_3 => ?_) (fun c14_3 => ?_)
    · have c14_3 : 1 ≤ nb.toInt := (cv_le (by decide) rfl).mp c14_3
      refine lv_iconst (v := 0) hx hb dX8_openWithout_21 (by decide) ?_
      refine lv_istore (lv' := [(4, .int 0), (0, .ref x0), (1, .int (nI dn)), (2, .int re), (3, .int nb)]) hx hb dX8_openWithout_22 hl (by decide) rfl (fun ls hl => ?_)
      refine lv_iload hx hb dX8_openWithout_24 (lv_at hl 0 rfl) ?_
      refine lv_if_eq (tgt := 43) hx hb dX8_openWithout_26 (by decide) (fun c26_4 => ?_) (fun c26_4 => by exfalso; exact absurd c26_4 (by decide))
      refine lv_iconst (v := (-1)) hx hb dX8_openWithout_43 (by decide) ?_
      refine W.widen (k := 0) (n := 0) (Nat.le_of_ble_eq_true rfl) (Nat.le_of_ble_eq_true rfl) ?_
      exact W.iret (v := (-1)) hx hb hr (fun t ht hW => ⟨⟨(-1), (), rfl, (rfl), trivial⟩, hS.F ht⟩) hS.2.2 dX8_openWithout_44
    · have c14_3 : ¬ (1 ≤ nb.toInt) := mt (cv_le (by decide) rfl).mpr c14_3
      refine lv_iconst (v := 1) hx hb dX8_openWithout_17 (by decide) ?_
      refine lv_goto (tgt := 22) hx hb dX8_openWithout_18 (by decide) ?_
      refine lv_istore (lv' := [(4, .int 1), (0, .ref x0), (1, .int (nI dn)), (2, .int re), (3, .int nb)]) hx hb dX8_openWithout_22 hl (by decide) rfl (fun ls hl => ?_)
      refine lv_iload hx hb dX8_openWithout_24 (lv_at hl 0 rfl) ?_
      refine lv_if_eq (tgt := 43) hx hb dX8_openWithout_26 (by decide) (fun c26_5 => by exfalso; exact absurd c26_5 (by decide)) (fun c26_5 => ?_)
      refine lv_iload_n hx hb dX8_openWithout_29 rfl (lv_at hl 2 rfl) ?_
      have hPc := hP.sub (ws' := []) [] rfl
      have hKc := hK.sub (tys' := []) [] rfl
      refine vp_callSi ((va_runS (As := [.int (nI dn)]) (rest := []) ⟨hx, hb, hml, hown, hts⟩ (c_dl_in l dC dI g (dn) hdn) (va_cwS 1 hts (gwS qw_70 qw_71 qw_69 qw_68) rfl rfl rfl (by decide +kernel) ⟨Nat.le_of_ble_eq_true rfl, Nat.le_of_ble_eq_true rfl⟩) ⟨fun a U g9 mk q => ⟨q.1, q.2.1, va_K.moved (u := U) (U := U.calling g9 mk a) (Vm.Alike.refl U.vm) q.2.2.1, Ev.bl q.2.2.2⟩, fun U hU hW => ⟨rfl, by rw [hU]; exact hPc, va_K.moved hW.alike hKc, hE.go hS (fun _ h => h.elim) hU hW⟩⟩ rfl rfl hl.1 rfl (lv_room (Nat.le_of_ble_eq_true rfl)) dX8_openWithout_30 ⟨Nat.le_of_ble_eq_true rfl, Nat.le_of_ble_eq_true rfl⟩)).run (fun r6 h_r6 => ?_)
      have h_r6 : r6 = 1 := h_r6
      subst h_r6
      refine lv_if_eq (tgt := 43) hx hb dX8_openWithout_33 (by decide) (fun c33_7 => by exfalso; exact absurd c33_7 (by decide)) (fun c33_7 => ?_)
      refine lv_iload_n hx hb dX8_openWithout_36 rfl (lv_at hl 3 rfl) ?_
      have hPc := hP.sub (ws' := []) [] rfl
      have hKc := hK.sub (tys' := []) [] rfl
      refine vp_callSi ((va_runS (As := [.int re]) (rest := []) ⟨hx, hb, hml, hown, hts⟩ (c_ar_out l dC dI g (re) hro0) (va_cwS 1 hts (gwS qw_270 qw_271 qw_69 qw_269) rfl rfl rfl (by decide +kernel) ⟨Nat.le_of_ble_eq_true rfl, Nat.le_of_ble_eq_true rfl⟩) ⟨fun a U g9 mk q => ⟨q.1, q.2.1, va_K.moved (u := U) (U := U.calling g9 mk a) (Vm.Alike.refl U.vm) q.2.2.1, Ev.bl q.2.2.2⟩, fun U hU hW => ⟨rfl, by rw [hU]; exact hPc, va_K.moved hW.alike hKc, hE.go hS (fun _ h => h.elim) hU hW⟩⟩ rfl rfl hl.1 rfl (lv_room (Nat.le_of_ble_eq_true rfl)) dX8_openWithout_37 ⟨Nat.le_of_ble_eq_true rfl, Nat.le_of_ble_eq_true rfl⟩)).run (fun r8 h_r8 => ?_)
      have h_r8 : r8 = 0 := h_r8
      subst h_r8
      refine lv_if_ne (tgt := 45) hx hb dX8_openWithout_40 (by decide) (fun c40_9 => by exfalso; exact absurd c40_9 (by decide)) (fun c40_9 => ?_)
      refine lv_iconst (v := (-1)) hx hb dX8_openWithout_43 (by decide) ?_
      refine W.widen (k := 0) (n := 0) (Nat.le_of_ble_eq_true rfl) (Nat.le_of_ble_eq_true rfl) ?_
      exact W.iret (v := (-1)) hx hb hr (fun t ht hW => ⟨⟨(-1), (), rfl, (rfl), trivial⟩, hS.F ht⟩) hS.2.2 dX8_openWithout_44
set_option maxHeartbeats 4000000 in
set_option maxRecDepth 100000 in
theorem c_8ow_D (l : Launch) (dC : Nat → ClassId) (dI : Nat → Nat → Nat) (g : Gv) (sz : Nat) (x0 : Nat) (b : Nat → Nat) (f4 : Nat → Nat) (c4 : ClassId) (f5 : Nat → Nat) (f7 : Nat → Nat) (f6 : Nat → Nat) (f2 : Nat → Nat) (cK : ClassId) (kf : Nat → Option Nat) (cZ : ClassId) (fT : Nat → Nat) (fU : Nat → Nat) (sa : Nat → Nat) (sf : Nat → Nat → Nat) (sc : Nat → Nat → ClassId) (spf : Nat → Nat → Int32) (sdf : Nat → Nat → Int32) (slf : Nat → Nat → Int32) (srf : Nat → Nat → Int32) (sga : Nat → Nat → Option Nat) (sgb : Nat → Nat → Option Nat) (rows : va_W) (dn : Nat) (rn : Nat) (nb : Int32) (hdn : dn ≤ 219145) (hrn : rn ≤ 15) (hnb : nb.toInt ≠ 0) : Met l yX8_openWithout (.code yX8_openWithout cX8_openWithout 5 (some .int) :: TBL) ({ frames := 3, cells := 0, slots := 0, locals := 180 }) (va_Pc [.ref x0, .int (nI dn), .int (nI rn), .int nb] (fun U => U.heap.size = sz ∧ va_P (dC, dI) vwCl [(x0, .inr (7, [.ref (b 0), .ref (b 1), .ref (b 2), .ref (b 3), .ref (b 4), .ref (b 5), .ref (b 6), .ref (b 7), .ref (b 8), .ref (b 9), .int 1])), ((b 2), .inr (5, [.ref (f6 0), .ref (f6 1), .ref (f6 2), .ref (f6 3), .ref (f6 4), .ref (f6 5), .int 0, .int 0])), ((b 6), .inr (0, [.int 0, .ref (fT 1), .int 0, .ref (fT 3), .int 0, .ref (fT 5), .ref (fT 6), .ref (fT 7), .int 0, .ref (fT 9), .ref (fT 10), .ref (fT 11), .ref (fT 12), .ref (fT 13)]))] U.heap ∧ va_K (dC, dI) vwCl [] U ∧ va_D (fun _ => True) [(x0, .inr (7, [.ref (b 0), .ref (b 1), .ref (b 2), .ref (b 3), .ref (b 4), .ref (b 5), .ref (b 6), .ref (b 7), .ref (b 8), .ref (b 9), .int 1])), ((b 2), .inr (5, [.ref (f6 0), .ref (f6 1), .ref (f6 2), .ref (f6 3), .ref (f6 4), .ref (f6 5), .int 0, .int 0])), ((b 6), .inr (0, [.int 0, .ref (fT 1), .int 0, .ref (fT 3), .int 0, .ref (fT 5), .ref (fT 6), .ref (fT 7), .int 0, .ref (fT 9), .ref (fT 10), .ref (fT 11), .ref (fT 12), .ref (fT 13)]))] ∧ Ev g (va_A [(x0, .inr (7, [.ref (b 0), .ref (b 1), .ref (b 2), .ref (b 3), .ref (b 4), .ref (b 5), .ref (b 6), .ref (b 7), .ref (b 8), .ref (b 9), .int 1])), ((b 2), .inr (5, [.ref (f6 0), .ref (f6 1), .ref (f6 2), .ref (f6 3), .ref (f6 4), .ref (f6 5), .int 0, .int 0])), ((b 6), .inr (0, [.int 0, .ref (fT 1), .int 0, .ref (fT 3), .int 0, .ref (fT 5), .ref (fT 6), .ref (fT 7), .int 0, .ref (fT 9), .ref (fT 10), .ref (fT 11), .ref (fT 12), .ref (fT 13)]))] sz) U)) (va_Qi (fun (r : Int32) (u : Unit) => r = (-1)) (fun (_ : Unit) (_ : State) => True) (va_A [(x0, .inr (7, [.ref (b 0), .ref (b 1), .ref (b 2), .ref (b 3), .ref (b 4), .ref (b 5), .ref (b 6), .ref (b 7), .ref (b 8), .ref (b 9), .int 1])), ((b 2), .inr (5, [.ref (f6 0), .ref (f6 1), .ref (f6 2), .ref (f6 3), .ref (f6 4), .ref (f6 5), .int 0, .int 0])), ((b 6), .inr (0, [.int 0, .ref (fT 1), .int 0, .ref (fT 3), .int 0, .ref (fT 5), .ref (fT 6), .ref (fT 7), .int 0, .ref (fT 9), .ref (fT 10), .ref (fT 11), .ref (fT 12), .ref (fT 13)]))] sz)) 0 0 (va_A [(x0, .inr (7, [.ref (b 0), .ref (b 1), .ref (b 2), .ref (b 3), .ref (b 4), .ref (b 5), .ref (b 6), .ref (b 7), .ref (b 8), .ref (b 9), .int 1])), ((b 2), .inr (5, [.ref (f6 0), .ref (f6 1), .ref (f6 2), .ref (f6 3), .ref (f6 4), .ref (f6 5), .int 0, .int 0])), ((b 6), .inr (0, [.int 0, .ref (fT 1), .int 0, .ref (fT 3), .int 0, .ref (fT 5), .ref (fT 6), .ref (fT 7), .int 0, .ref (fT 9), .ref (fT 10), .ref (fT 11), .ref (fT 12), .ref (fT 13)]))] sz) := by
  refine Met.ofW (cc := cX8_openWithout) (maxL := 5) (ret := (some .int)) (by decide) rfl ?_
  intro p e s m args below meth c s₁ B hml hv
  obtain ⟨rfl, hsz, hP, hK, hD0, hE⟩ := hv
  have hx := B.exec
  have hb := B.bytes
  have hr := B.returns
  have hts0 := atoms_spec (ws := (.code yX8_openWithout cX8_openWithout 5 (some .int) :: TBL)) B.pre
  have hts := fun (w : Cond) (h : w ∈ TBL) => hts0 w (List.mem_cons_of_mem _ h)
  have hown : s.vm.findClass RX8 = some m.cls := findClass_of_methodNamed B.named
  have hlocks := B.notSynchronized
  have hN := hE.1
  subst hsz
  have hD := hD0.self (sz := s.heap.size)
  generalize hAe : va_A [(x0, .inr (7, [.ref (b 0), .ref (b 1), .ref (b 2), .ref (b 3), .ref (b 4), .ref (b 5), .ref (b 6), .ref (b 7), .ref (b 8), .ref (b 9), .int 1])), ((b 2), .inr (5, [.ref (f6 0), .ref (f6 1), .ref (f6 2), .ref (f6 3), .ref (f6 4), .ref (f6 5), .int 0, .int 0])), ((b 6), .inr (0, [.int 0, .ref (fT 1), .int 0, .ref (fT 3), .int 0, .ref (fT 5), .ref (fT 6), .ref (fT 7), .int 0, .ref (fT 9), .ref (fT 10), .ref (fT 11), .ref (fT 12), .ref (fT 13)]))] s.heap.size = A at hD hE ⊢
  have hA : ∀ q : Nat, s.heap.size ≤ q → A q := fun q h => by rw [← hAe]; exact Or.inr h
  have hS : va_S A s.heap s.heap [] := va_S.rf
  have hP : va_P (dC, dI) vwCl [(x0, .inr (7, [.ref (b 0), .ref (b 1), .ref (b 2), .ref (b 3), .ref (b 4), .ref (b 5), .ref (b 6), .ref (b 7), .ref (b 8), .ref (b 9), .int 1])), ((b 2), .inr (5, [.ref (f6 0), .ref (f6 1), .ref (f6 2), .ref (f6 3), .ref (f6 4), .ref (f6 5), .int 0, .int 0])), ((b 6), .inr (0, [.int 0, .ref (fT 1), .int 0, .ref (fT 3), .int 0, .ref (fT 5), .ref (fT 6), .ref (fT 7), .int 0, .ref (fT 9), .ref (fT 10), .ref (fT 11), .ref (fT 12), .ref (fT 13)]))] s.heap := hP
  have hl := lv_entry ([.ref x0, .int (nI dn), .int (nI rn), .int nb]) (n := 5) (Nat.le_of_ble_eq_true rfl)
  rw [lg_entry_eq]
  generalize (lg_sl ([.ref x0, .int (nI dn), .int (nI rn), .int nb]) ++ List.replicate (5 - (lg_sl ([.ref x0, .int (nI dn), .int (nI rn), .int nb])).length) Slot.unset).toArray = ls at hl ⊢
  have hl : lv_has ls 5 [(0, .ref x0), (1, .int (nI dn)), (2, .int (nI rn)), (3, .int nb)] := hl
  refine lv_iload_n hx hb dX8_openWithout_0 rfl (lv_at hl 3 rfl) ?_
  refine lv_if_lt (tgt := 21) hx hb dX8_openWithout_1 (by decide) (fun c1_1 => ?_) (fun c1_1 => ?_)
  · have c1_1 : nb.toInt < 0 := (cv_lt rfl (by decide)).mp c1_1
    refine lv_iconst (v := 0) hx hb dX8_openWithout_21 (by decide) ?_
    refine lv_istore (lv' := [(4, .int 0), (0, .ref x0), (1, .int (nI dn)), (2, .int (nI rn)), (3, .int nb)]) hx hb dX8_openWithout_22 hl (by decide) rfl (fun ls hl => ?_)
    refine lv_iload hx hb dX8_openWithout_24 (lv_at hl 0 rfl) ?_
    refine lv_if_eq (tgt := 43) hx hb dX8_openWithout_26 (by decide) (fun c26_2 => ?_) (fun c26_2 => by exfalso; exact absurd c26_2 (by decide))
    refine lv_iconst (v := (-1)) hx hb dX8_openWithout_43 (by decide) ?_
    refine W.widen (k := 0) (n := 0) (Nat.le_of_ble_eq_true rfl) (Nat.le_of_ble_eq_true rfl) ?_
    exact W.iret (v := (-1)) hx hb hr (fun t ht hW => ⟨⟨(-1), (), rfl, (rfl), trivial⟩, hS.F ht⟩) hS.2.2 dX8_openWithout_44
  · have c1_1 : ¬ (nb.toInt < 0) := mt (cv_lt rfl (by decide)).mpr c1_1
    refine lv_iload_n hx hb dX8_openWithout_4 rfl (lv_at hl 3 rfl) ?_
    refine lv_iconst (v := 1) hx hb dX8_openWithout_5 (by decide) ?_
    refine lv_aload_n hx hb dX8_openWithout_6 rfl (lv_at hl 0 rfl) ?_
    refine va_get (D := (dC, dI)) (ci := 7) (v := .ref (b 6)) (C := RX8) (T := TX8) (N := 11) hx hb hts inlX8 hown hK hP 0 rfl rfl 6 (by decide) (hts (.fieldLink RX8 51 "ClosedUntil" "told" "LClosedUntil$Holdings;") qw_205) (fun _ h9 => h9) rfl dX8_openWithout_7 ?_
    refine va_getN (D := (dC, dI)) (ci := 0) (v := .int 0) (C := RX1) (T := TX1) (N := 14) hx hb hts inlX1 hown hK hP 2 rfl rfl 8 (by decide) (va_Nw.use rfl (nf_47 hN)) (fun _ h9 => h9) rfl dX8_openWithout_10 ?_
    refine lv_ishl hx hb dX8_openWithout_13 ?_
    refine cst (v := 1) (by decide) ?_
    refine lv_icmp_ge (tgt := 21) hx hb dX8_openWithout_14 (by decide) (fun c14_3 => ?_) (fun c14_3 => by exfalso; have c14_3 : ¬ (1 ≤ nb.toInt) := mt (cv_le (by decide) rfl).mpr c14_3; omega)
    have c14_3 : 1 ≤ nb.toInt := (cv_le (by decide) rfl).mp c14_3
    refine lv_iconst (v := 0) hx hb dX8_openWithout_21 (by decide) ?_
    refine lv_istore (lv' := [(4, .int 0), (0, .ref x0), (1, .int (nI dn)), (2, .int (nI rn)), (3, .int nb)]) hx hb dX8_openWithout_22 hl (by decide) rfl (fun ls hl => ?_)
    refine lv_iload hx hb dX8_openWithout_24 (lv_at hl 0 rfl) ?_
    refine lv_if_eq (tgt := 43) hx hb dX8_openWithout_26 (by decide) (fun c26_4 => ?_) (fun c26_4 => by exfalso; exact absurd c26_4 (by decide))
    refine lv_iconst (v := (-1)) hx hb dX8_openWithout_43 (by decide) ?_
    refine W.widen (k := 0) (n := 0) (Nat.le_of_ble_eq_true rfl) (Nat.le_of_ble_eq_true rfl) ?_
    exact W.iret (v := (-1)) hx hb hr (fun t ht hW => ⟨⟨(-1), (), rfl, (rfl), trivial⟩, hS.F ht⟩) hS.2.2 dX8_openWithout_44
