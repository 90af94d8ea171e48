theorem dX1_init_0 : decode cX1_init 0 = .ok (.aload_n 0, 1) := by decide +kernel
theorem dX1_init_1 : decode cX1_init 1 = .ok (.invokespecial 3, 3) := by decide +kernel
theorem dX1_init_4 : decode cX1_init 4 = .ok (.aload_n 0, 1) := by decide +kernel
theorem dX1_init_5 : decode cX1_init 5 = .ok (.bipush 8, 2) := by decide +kernel
theorem dX1_init_7 : decode cX1_init 7 = .ok (.newarray .int, 2) := by decide +kernel
theorem dX1_init_9 : decode cX1_init 9 = .ok (.putfield 9, 3) := by decide +kernel
theorem dX1_init_12 : decode cX1_init 12 = .ok (.aload_n 0, 1) := by decide +kernel
theorem dX1_init_13 : decode cX1_init 13 = .ok (.iconst 4, 1) := by decide +kernel
theorem dX1_init_14 : decode cX1_init 14 = .ok (.newarray .int, 2) := by decide +kernel
theorem dX1_init_16 : decode cX1_init 16 = .ok (.putfield 15, 3) := by decide +kernel
theorem dX1_init_19 : decode cX1_init 19 = .ok (.aload_n 0, 1) := by decide +kernel
theorem dX1_init_20 : decode cX1_init 20 = .ok (.bipush 24, 2) := by decide +kernel
theorem dX1_init_22 : decode cX1_init 22 = .ok (.newarray .int, 2) := by decide +kernel
theorem dX1_init_24 : decode cX1_init 24 = .ok (.putfield 18, 3) := by decide +kernel
theorem dX1_init_27 : decode cX1_init 27 = .ok (.aload_n 0, 1) := by decide +kernel
theorem dX1_init_28 : decode cX1_init 28 = .ok (.bipush 24, 2) := by decide +kernel
theorem dX1_init_30 : decode cX1_init 30 = .ok (.newarray .int, 2) := by decide +kernel
theorem dX1_init_32 : decode cX1_init 32 = .ok (.putfield 21, 3) := by decide +kernel
theorem dX1_init_35 : decode cX1_init 35 = .ok (.aload_n 0, 1) := by decide +kernel
theorem dX1_init_36 : decode cX1_init 36 = .ok (.bipush 24, 2) := by decide +kernel
theorem dX1_init_38 : decode cX1_init 38 = .ok (.newarray .int, 2) := by decide +kernel
theorem dX1_init_40 : decode cX1_init 40 = .ok (.putfield 24, 3) := by decide +kernel
theorem dX1_init_43 : decode cX1_init 43 = .ok (.aload_n 0, 1) := by decide +kernel
theorem dX1_init_44 : decode cX1_init 44 = .ok (.bipush 12, 2) := by decide +kernel
theorem dX1_init_46 : decode cX1_init 46 = .ok (.newarray .int, 2) := by decide +kernel
theorem dX1_init_48 : decode cX1_init 48 = .ok (.putfield 27, 3) := by decide +kernel
theorem dX1_init_51 : decode cX1_init 51 = .ok (.aload_n 0, 1) := by decide +kernel
theorem dX1_init_52 : decode cX1_init 52 = .ok (.bipush 12, 2) := by decide +kernel
theorem dX1_init_54 : decode cX1_init 54 = .ok (.newarray .int, 2) := by decide +kernel
theorem dX1_init_56 : decode cX1_init 56 = .ok (.putfield 30, 3) := by decide +kernel
theorem dX1_init_59 : decode cX1_init 59 = .ok (.aload_n 0, 1) := by decide +kernel
theorem dX1_init_60 : decode cX1_init 60 = .ok (.bipush 12, 2) := by decide +kernel
theorem dX1_init_62 : decode cX1_init 62 = .ok (.newarray .boolean, 2) := by decide +kernel
theorem dX1_init_64 : decode cX1_init 64 = .ok (.putfield 33, 3) := by decide +kernel
theorem dX1_init_67 : decode cX1_init 67 = .ok (.aload_n 0, 1) := by decide +kernel
theorem dX1_init_68 : decode cX1_init 68 = .ok (.bipush 12, 2) := by decide +kernel
theorem dX1_init_70 : decode cX1_init 70 = .ok (.iconst 3, 1) := by decide +kernel
theorem dX1_init_71 : decode cX1_init 71 = .ok (.multianewarray 37 2, 4) := by decide +kernel
theorem dX1_init_75 : decode cX1_init 75 = .ok (.putfield 39, 3) := by decide +kernel
theorem dX1_init_78 : decode cX1_init 78 = .ok (.aload_n 0, 1) := by decide +kernel
theorem dX1_init_79 : decode cX1_init 79 = .ok (.bipush 12, 2) := by decide +kernel
theorem dX1_init_81 : decode cX1_init 81 = .ok (.newarray .int, 2) := by decide +kernel
theorem dX1_init_83 : decode cX1_init 83 = .ok (.putfield 42, 3) := by decide +kernel
theorem dX1_init_86 : decode cX1_init 86 = .ok (.return_, 1) := by decide +kernel
theorem dX2_init_0 : decode cX2_init 0 = .ok (.aload_n 0, 1) := by decide +kernel
theorem dX2_init_1 : decode cX2_init 1 = .ok (.invokespecial 3, 3) := by decide +kernel
theorem dX2_init_4 : decode cX2_init 4 = .ok (.aload_n 0, 1) := by decide +kernel
theorem dX2_init_5 : decode cX2_init 5 = .ok (.bipush 12, 2) := by decide +kernel
theorem dX2_init_7 : decode cX2_init 7 = .ok (.newarray .int, 2) := by decide +kernel
theorem dX2_init_9 : decode cX2_init 9 = .ok (.putfield 9, 3) := by decide +kernel
theorem dX2_init_12 : decode cX2_init 12 = .ok (.aload_n 0, 1) := by decide +kernel
theorem dX2_init_13 : decode cX2_init 13 = .ok (.bipush 12, 2) := by decide +kernel
theorem dX2_init_15 : decode cX2_init 15 = .ok (.newarray .int, 2) := by decide +kernel
theorem dX2_init_17 : decode cX2_init 17 = .ok (.putfield 15, 3) := by decide +kernel
theorem dX2_init_20 : decode cX2_init 20 = .ok (.aload_n 0, 1) := by decide +kernel
theorem dX2_init_21 : decode cX2_init 21 = .ok (.bipush 12, 2) := by decide +kernel
theorem dX2_init_23 : decode cX2_init 23 = .ok (.newarray .int, 2) := by decide +kernel
theorem dX2_init_25 : decode cX2_init 25 = .ok (.putfield 18, 3) := by decide +kernel
theorem dX2_init_28 : decode cX2_init 28 = .ok (.return_, 1) := by decide +kernel
theorem dX3_clear_0 : decode cX3_clear 0 = .ok (.iconst 0, 1) := by decide +kernel
theorem dX3_clear_1 : decode cX3_clear 1 = .ok (.istore_n 1, 1) := by decide +kernel
theorem dX3_clear_2 : decode cX3_clear 2 = .ok (.iload_n 1, 1) := by decide +kernel
theorem dX3_clear_3 : decode cX3_clear 3 = .ok (.bipush 24, 2) := by decide +kernel
theorem dX3_clear_5 : decode cX3_clear 5 = .ok (.if_icmp .ge 16, 3) := by decide +kernel
theorem dX3_clear_8 : decode cX3_clear 8 = .ok (.aload_n 0, 1) := by decide +kernel
theorem dX3_clear_9 : decode cX3_clear 9 = .ok (.getfield 9, 3) := by decide +kernel
theorem dX3_clear_12 : decode cX3_clear 12 = .ok (.iload_n 1, 1) := by decide +kernel
theorem dX3_clear_13 : decode cX3_clear 13 = .ok (.iconst (-1), 1) := by decide +kernel
theorem dX3_clear_14 : decode cX3_clear 14 = .ok (.iastore, 1) := by decide +kernel
theorem dX3_clear_15 : decode cX3_clear 15 = .ok (.iinc 1 1, 3) := by decide +kernel
theorem dX3_clear_18 : decode cX3_clear 18 = .ok (.goto (-16), 3) := by decide +kernel
theorem dX3_clear_21 : decode cX3_clear 21 = .ok (.iconst 0, 1) := by decide +kernel
theorem dX3_clear_22 : decode cX3_clear 22 = .ok (.istore_n 1, 1) := by decide +kernel
theorem dX3_clear_23 : decode cX3_clear 23 = .ok (.iload_n 1, 1) := by decide +kernel
theorem dX3_clear_24 : decode cX3_clear 24 = .ok (.bipush 8, 2) := by decide +kernel
theorem dX3_clear_26 : decode cX3_clear 26 = .ok (.if_icmp .ge 16, 3) := by decide +kernel
theorem dX3_clear_29 : decode cX3_clear 29 = .ok (.aload_n 0, 1) := by decide +kernel
theorem dX3_clear_30 : decode cX3_clear 30 = .ok (.getfield 15, 3) := by decide +kernel
theorem dX3_clear_33 : decode cX3_clear 33 = .ok (.iload_n 1, 1) := by decide +kernel
theorem dX3_clear_34 : decode cX3_clear 34 = .ok (.iconst (-1), 1) := by decide +kernel
theorem dX3_clear_35 : decode cX3_clear 35 = .ok (.iastore, 1) := by decide +kernel
theorem dX3_clear_36 : decode cX3_clear 36 = .ok (.iinc 1 1, 3) := by decide +kernel
theorem dX3_clear_39 : decode cX3_clear 39 = .ok (.goto (-16), 3) := by decide +kernel
theorem dX3_clear_42 : decode cX3_clear 42 = .ok (.iconst 0, 1) := by decide +kernel
theorem dX3_clear_43 : decode cX3_clear 43 = .ok (.istore_n 1, 1) := by decide +kernel
theorem dX3_clear_44 : decode cX3_clear 44 = .ok (.iload_n 1, 1) := by decide +kernel
theorem dX3_clear_45 : decode cX3_clear 45 = .ok (.bipush 12, 2) := by decide +kernel
theorem dX3_clear_47 : decode cX3_clear 47 = .ok (.if_icmp .ge 23, 3) := by decide +kernel
theorem dX3_clear_50 : decode cX3_clear 50 = .ok (.aload_n 0, 1) := by decide +kernel
theorem dX3_clear_51 : decode cX3_clear 51 = .ok (.getfield 18, 3) := by decide +kernel
theorem dX3_clear_54 : decode cX3_clear 54 = .ok (.iload_n 1, 1) := by decide +kernel
theorem dX3_clear_55 : decode cX3_clear 55 = .ok (.iconst (-1), 1) := by decide +kernel
theorem dX3_clear_56 : decode cX3_clear 56 = .ok (.iastore, 1) := by decide +kernel
theorem dX3_clear_57 : decode cX3_clear 57 = .ok (.aload_n 0, 1) := by decide +kernel
theorem dX3_clear_58 : decode cX3_clear 58 = .ok (.getfield 21, 3) := by decide +kernel
theorem dX3_clear_61 : decode cX3_clear 61 = .ok (.iload_n 1, 1) := by decide +kernel
theorem dX3_clear_62 : decode cX3_clear 62 = .ok (.iconst 0, 1) := by decide +kernel
theorem dX3_clear_63 : decode cX3_clear 63 = .ok (.iastore, 1) := by decide +kernel
theorem dX3_clear_64 : decode cX3_clear 64 = .ok (.iinc 1 1, 3) := by decide +kernel
theorem dX3_clear_67 : decode cX3_clear 67 = .ok (.goto (-23), 3) := by decide +kernel
theorem dX3_clear_70 : decode cX3_clear 70 = .ok (.return_, 1) := by decide +kernel
theorem dX4_init_0 : decode cX4_init 0 = .ok (.aload_n 0, 1) := by decide +kernel
theorem dX4_init_1 : decode cX4_init 1 = .ok (.invokespecial 3, 3) := by decide +kernel
theorem dX4_init_4 : decode cX4_init 4 = .ok (.aload_n 0, 1) := by decide +kernel
theorem dX4_init_5 : decode cX4_init 5 = .ok (.sipush 1000, 3) := by decide +kernel
theorem dX4_init_8 : decode cX4_init 8 = .ok (.newarray .byte, 2) := by decide +kernel
theorem dX4_init_10 : decode cX4_init 10 = .ok (.putfield 9, 3) := by decide +kernel
theorem dX4_init_13 : decode cX4_init 13 = .ok (.return_, 1) := by decide +kernel
theorem dX6_init_0 : decode cX6_init 0 = .ok (.aload_n 0, 1) := by decide +kernel
theorem dX6_init_1 : decode cX6_init 1 = .ok (.invokespecial 3, 3) := by decide +kernel
theorem dX6_init_4 : decode cX6_init 4 = .ok (.aload_n 0, 1) := by decide +kernel
theorem dX6_init_5 : decode cX6_init 5 = .ok (.bipush 24, 2) := by decide +kernel
theorem dX6_init_7 : decode cX6_init 7 = .ok (.newarray .int, 2) := by decide +kernel
theorem dX6_init_9 : decode cX6_init 9 = .ok (.putfield 9, 3) := by decide +kernel
theorem dX6_init_12 : decode cX6_init 12 = .ok (.aload_n 0, 1) := by decide +kernel
theorem dX6_init_13 : decode cX6_init 13 = .ok (.bipush 24, 2) := by decide +kernel
theorem dX6_init_15 : decode cX6_init 15 = .ok (.newarray .int, 2) := by decide +kernel
theorem dX6_init_17 : decode cX6_init 17 = .ok (.putfield 15, 3) := by decide +kernel
theorem dX6_init_20 : decode cX6_init 20 = .ok (.aload_n 0, 1) := by decide +kernel
theorem dX6_init_21 : decode cX6_init 21 = .ok (.bipush 12, 2) := by decide +kernel
theorem dX6_init_23 : decode cX6_init 23 = .ok (.bipush 24, 2) := by decide +kernel
theorem dX6_init_25 : decode cX6_init 25 = .ok (.multianewarray 18 2, 4) := by decide +kernel
theorem dX6_init_29 : decode cX6_init 29 = .ok (.putfield 20, 3) := by decide +kernel
theorem dX6_init_32 : decode cX6_init 32 = .ok (.aload_n 0, 1) := by decide +kernel
theorem dX6_init_33 : decode cX6_init 33 = .ok (.bipush 12, 2) := by decide +kernel
theorem dX6_init_35 : decode cX6_init 35 = .ok (.bipush 24, 2) := by decide +kernel
theorem dX6_init_37 : decode cX6_init 37 = .ok (.multianewarray 18 2, 4) := by decide +kernel
theorem dX6_init_41 : decode cX6_init 41 = .ok (.putfield 23, 3) := by decide +kernel
theorem dX6_init_44 : decode cX6_init 44 = .ok (.aload_n 0, 1) := by decide +kernel
theorem dX6_init_45 : decode cX6_init 45 = .ok (.bipush 24, 2) := by decide +kernel
theorem dX6_init_47 : decode cX6_init 47 = .ok (.newarray .int, 2) := by decide +kernel
theorem dX6_init_49 : decode cX6_init 49 = .ok (.putfield 26, 3) := by decide +kernel
theorem dX6_init_52 : decode cX6_init 52 = .ok (.aload_n 0, 1) := by decide +kernel
theorem dX6_init_53 : decode cX6_init 53 = .ok (.bipush 24, 2) := by decide +kernel
theorem dX6_init_55 : decode cX6_init 55 = .ok (.newarray .int, 2) := by decide +kernel
theorem dX6_init_57 : decode cX6_init 57 = .ok (.putfield 29, 3) := by decide +kernel
theorem dX6_init_60 : decode cX6_init 60 = .ok (.return_, 1) := by decide +kernel
theorem qw_100 : (Cond.methodLink RX4 3 objectInit : Cond) ∈ TBL := List.mem_of_getElem? (i := 45) (by decide +kernel)
theorem qw_101 : (Cond.instanceMethod objectInit : Cond) ∈ TBL := List.mem_of_getElem? (i := 11) (by decide +kernel)
theorem qw_102 : (Cond.code objectInit ⟨#[0xb1]⟩ 1 none : Cond) ∈ TBL := List.mem_of_getElem? (i := 12) (by decide +kernel)
theorem qw_103 : (Cond.arrayClass .byte : Cond) ∈ TBL := List.mem_of_getElem? (i := 46) (by decide +kernel)
theorem qw_104 : (Cond.fieldLink RX4 9 "ClosedUntil$Tape" "bytes" "[B" : Cond) ∈ TBL := List.mem_of_getElem? (i := 47) (by decide +kernel)
theorem qw_105 : (Cond.methodLink RX2 3 objectInit : Cond) ∈ TBL := List.mem_of_getElem? (i := 130) (by decide +kernel)
theorem qw_106 : (Cond.arrayClass .int : Cond) ∈ TBL := List.mem_of_getElem? (i := 56) (by decide +kernel)
theorem qw_107 : (Cond.fieldLink RX2 9 "ClosedUntil$Journal" "acts" "[I" : Cond) ∈ TBL := List.mem_of_getElem? (i := 131) (by decide +kernel)
theorem qw_108 : (Cond.fieldLink RX2 15 "ClosedUntil$Journal" "whose" "[I" : Cond) ∈ TBL := List.mem_of_getElem? (i := 132) (by decide +kernel)
theorem qw_109 : (Cond.fieldLink RX2 18 "ClosedUntil$Journal" "before" "[I" : Cond) ∈ TBL := List.mem_of_getElem? (i := 133) (by decide +kernel)
theorem qw_110 : (Cond.methodLink RX6 3 objectInit : Cond) ∈ TBL := List.mem_of_getElem? (i := 120) (by decide +kernel)
theorem qw_111 : (Cond.fieldLink RX6 9 "ClosedUntil$Timetable" "below" "[I" : Cond) ∈ TBL := List.mem_of_getElem? (i := 121) (by decide +kernel)
theorem qw_112 : (Cond.fieldLink RX6 15 "ClosedUntil$Timetable" "depth" "[I" : Cond) ∈ TBL := List.mem_of_getElem? (i := 122) (by decide +kernel)
theorem qw_113 : (Cond.classLink RX6 18 "[[I" : Cond) ∈ TBL := List.mem_of_getElem? (i := 123) (by decide +kernel)
theorem qw_114 : (Cond.fieldLink RX6 20 "ClosedUntil$Timetable" "terms" "[[I" : Cond) ∈ TBL := List.mem_of_getElem? (i := 124) (by decide +kernel)
theorem qw_115 : (Cond.fieldLink RX6 23 "ClosedUntil$Timetable" "ends" "[[I" : Cond) ∈ TBL := List.mem_of_getElem? (i := 125) (by decide +kernel)
theorem qw_116 : (Cond.fieldLink RX6 26 "ClosedUntil$Timetable" "closers" "[I" : Cond) ∈ TBL := List.mem_of_getElem? (i := 126) (by decide +kernel)
theorem qw_117 : (Cond.fieldLink RX6 29 "ClosedUntil$Timetable" "openings" "[I" : Cond) ∈ TBL := List.mem_of_getElem? (i := 127) (by decide +kernel)
theorem qw_118 : (Cond.methodLink RX1 3 objectInit : Cond) ∈ TBL := List.mem_of_getElem? (i := 150) (by decide +kernel)
theorem qw_119 : (Cond.fieldLink RX1 9 "ClosedUntil$Holdings" "birth" "[I" : Cond) ∈ TBL := List.mem_of_getElem? (i := 151) (by decide +kernel)
theorem qw_120 : (Cond.fieldLink RX1 15 "ClosedUntil$Holdings" "depositDay" "[I" : Cond) ∈ TBL := List.mem_of_getElem? (i := 152) (by decide +kernel)
theorem qw_121 : (Cond.fieldLink RX1 18 "ClosedUntil$Holdings" "lastDay" "[I" : Cond) ∈ TBL := List.mem_of_getElem? (i := 153) (by decide +kernel)
theorem qw_122 : (Cond.fieldLink RX1 21 "ClosedUntil$Holdings" "peopleOf" "[I" : Cond) ∈ TBL := List.mem_of_getElem? (i := 154) (by decide +kernel)
theorem qw_123 : (Cond.fieldLink RX1 24 "ClosedUntil$Holdings" "depositOf" "[I" : Cond) ∈ TBL := List.mem_of_getElem? (i := 155) (by decide +kernel)
theorem qw_124 : (Cond.fieldLink RX1 27 "ClosedUntil$Holdings" "sort" "[I" : Cond) ∈ TBL := List.mem_of_getElem? (i := 156) (by decide +kernel)
theorem qw_125 : (Cond.fieldLink RX1 30 "ClosedUntil$Holdings" "subject" "[I" : Cond) ∈ TBL := List.mem_of_getElem? (i := 157) (by decide +kernel)
theorem qw_126 : (Cond.arrayClass .boolean : Cond) ∈ TBL := List.mem_of_getElem? (i := 33) (by decide +kernel)
theorem qw_127 : (Cond.fieldLink RX1 33 "ClosedUntil$Holdings" "whole" "[Z" : Cond) ∈ TBL := List.mem_of_getElem? (i := 158) (by decide +kernel)
theorem qw_128 : (Cond.classLink RX1 37 "[[I" : Cond) ∈ TBL := List.mem_of_getElem? (i := 159) (by decide +kernel)
theorem qw_129 : (Cond.fieldLink RX1 39 "ClosedUntil$Holdings" "years" "[[I" : Cond) ∈ TBL := List.mem_of_getElem? (i := 160) (by decide +kernel)
theorem qw_130 : (Cond.fieldLink RX1 42 "ClosedUntil$Holdings" "untilDay" "[I" : Cond) ∈ TBL := List.mem_of_getElem? (i := 161) (by decide +kernel)
theorem qw_131 : (Cond.fieldLink RX3 18 "ClosedUntil$State" "lifted" "[I" : Cond) ∈ TBL := List.mem_of_getElem? (i := 139) (by decide +kernel)
theorem qw_132 : (Cond.fieldLink RX3 21 "ClosedUntil$State" "reviews" "[I" : Cond) ∈ TBL := List.mem_of_getElem? (i := 140) (by decide +kernel)
theorem qw_133 : (Cond.fieldLink RX3 15 "ClosedUntil$State" "death" "[I" : Cond) ∈ TBL := List.mem_of_getElem? (i := 138) (by decide +kernel)
theorem qw_134 : (Cond.fieldLink RX3 9 "ClosedUntil$State" "parent" "[I" : Cond) ∈ TBL := List.mem_of_getElem? (i := 137) (by decide +kernel)
set_option maxHeartbeats 4000000 in
set_option maxRecDepth 100000 in
theorem c_X4i (l : Launch) (dC : Nat → ClassId) (dI : Nat → Nat → Nat) (g : Gv) (sz : Nat) (h0 : Nat)  : Met l yX4_init (.code yX4_init cX4_init 1 none :: TBL) ({ frames := 1, cells := 1, slots := 1000, locals := 60 }) (va_Pc [.ref h0] (fun U => U.heap.size = sz ∧ va_P (dC, dI) vwCl [(h0, .inr (3, [.null, .int 0]))] U.heap ∧ va_K (dC, dI) vwCl [] U ∧ va_D (fun _ => True) [(h0, .inr (3, [.null, .int 0]))] ∧ Ev g (va_A [(h0, .inr (3, [.null, .int 0]))] sz) U)) (va_Qv (fun (u : (Nat) × (ClassId)) => True) (fun (u : (Nat) × (ClassId)) (t : State) => va_P (dC, dI) vwCl [(h0, .inr (3, [.ref u.1, .int 0])), (u.1, .inl (u.2, 1000, .inl (fun _ => 0)))] t.heap ∧ va_K (dC, dI) vwCl [(u.2, .byte)] t ∧ va_D (va_A [(h0, .inr (3, [.null, .int 0]))] sz) [(h0, .inr (3, [.ref u.1, .int 0])), (u.1, .inl (u.2, 1000, .inl (fun _ => 0)))]) (va_A [(h0, .inr (3, [.null, .int 0]))] sz)) 1 1000 (va_A [(h0, .inr (3, [.null, .int 0]))] sz) := by
  refine Met.ofW (cc := cX4_init) (maxL := 1) (ret := none) (by decide) rfl ?_
  intro p e s m args below meth c s₁ B hml hv
  obtain ⟨rfl, hsz, hP, hK, hD0, hE⟩ := hv
  have hx := B.exec
  have hb := B.bytes
  have hr := B.returns
  have hts0 := atoms_spec (ws := (.code yX4_init cX4_init 1 none :: TBL)) B.pre
  have hts := fun (w : Cond) (h : w ∈ TBL) => hts0 w (List.mem_cons_of_mem _ h)
  have hown : s.vm.findClass RX4 = some m.cls := findClass_of_methodNamed B.named
  have hlocks := B.notSynchronized
  have hN := hE.1
  have hin : meth.name = "<init>" := (name_of_methodNamed B.named B.method).1
  subst hsz
  have hD := hD0.self (sz := s.heap.size)
  generalize hAe : va_A [(h0, .inr (3, [.null, .int 0]))] s.heap.size = A at hD hE ⊢
  have hA : ∀ q : Nat, s.heap.size ≤ q → A q := fun q h => by rw [← hAe]; exact Or.inr h
  have hS : va_S A s.heap s.heap [] := va_S.rf
  have hP : va_P (dC, dI) vwCl [(h0, .inr (3, [.null, .int 0]))] s.heap := hP
  have hl := lv_entry ([.ref h0]) (n := 1) (Nat.le_of_ble_eq_true rfl)
  rw [lg_entry_eq]
  generalize (lg_sl ([.ref h0]) ++ List.replicate (1 - (lg_sl ([.ref h0])).length) Slot.unset).toArray = ls at hl ⊢
  have hl : lv_has ls 1 [(0, .ref h0)] := hl
  refine lv_aload_n hx hb dX4_init_0 rfl (lv_at hl 0 rfl) ?_
  refine W.objInit hx hb hown (hts (.methodLink RX4 3 objectInit) qw_100) (hts (.instanceMethod objectInit) qw_101) (hts (.code objectInit ⟨#[0xb1]⟩ 1 none) qw_102) rfl (by rw [hml]; exact hl.1) rfl dX4_init_1 (Nat.le_of_ble_eq_true rfl) (Nat.le_of_ble_eq_true rfl) ?_
  refine W.eq (g2 := F0 m 4 ls []) rfl ?_
  refine lv_aload_n hx hb dX4_init_4 rfl (lv_at hl 0 rfl) ?_
  refine lv_sipush (v := 1000) hx hb dX4_init_5 (by decide) ?_
  refine va_newa (atype := .byte) (ty := .byte) (a0 := (1000, .inl (fun _ => 0))) (N' := 1000) hx hb (hts (.arrayClass .byte) qw_103) rfl hK hP hD hS hA (fun _ => rfl) (by decide) (by decide) (Nat.le_of_ble_eq_true rfl) (Nat.le_of_ble_eq_true rfl) (Nat.le_of_ble_eq_true rfl) dX4_init_8 (fun q1 cA2 H hK hP hD hS => ?_)
  have hK : va_K (dC, dI) vwCl [(cA2, .byte)] s := hK
  have hP : va_P (dC, dI) vwCl [(h0, .inr (3, [.null, .int 0])), (q1, .inl (cA2, 1000, .inl (fun _ => 0)))] H := hP
  have hD : va_D A [(h0, .inr (3, [.null, .int 0])), (q1, .inl (cA2, 1000, .inl (fun _ => 0)))] := hD
  refine W.widen (k := 1) (n := 1000) (Nat.le_of_ble_eq_true rfl) (Nat.le_of_ble_eq_true rfl) ?_
  refine va_putF (D := (dC, dI)) (ci := 3) (v := .ref q1) (ty := .array .byte) (C := RX4) (T := TX4) (N := 2) hx hb hts inlX4 tyX4 tyX4_ok nmX4 hown hK hP hD hS 0 rfl rfl 0 (by decide) (hts (.fieldLink RX4 9 "ClosedUntil$Tape" "bytes" "[B") qw_104) (fun _ h9 => h9) rfl hin rfl (by decide +kernel) rfl rfl (Nat.le_of_ble_eq_true rfl) dX4_init_10 (fun H locs hP hD hS => ?_)
  have hP : va_P (dC, dI) vwCl [(h0, .inr (3, [.ref q1, .int 0])), (q1, .inl (cA2, 1000, .inl (fun _ => 0)))] H := hP
  have hD : va_D A [(h0, .inr (3, [.ref q1, .int 0])), (q1, .inl (cA2, 1000, .inl (fun _ => 0)))] := hD
  refine W.widen (k := 1) (n := 1000) (Nat.le_of_ble_eq_true rfl) (Nat.le_of_ble_eq_true rfl) ?_
  have hP9 := hP.sub (ws' := [(h0, .inr (3, [.ref q1, .int 0])), (q1, .inl (cA2, 1000, .inl (fun _ => 0)))]) [0, 1] rfl
  have hD9 := hD.sub (ws' := [(h0, .inr (3, [.ref q1, .int 0])), (q1, .inl (cA2, 1000, .inl (fun _ => 0)))]) [0, 1] (by decide) rfl
  have hK9 := hK.sub (tys' := [(cA2, .byte)]) [0] rfl
  exact W.vret hx hb hr (fun t ht hW => ⟨⟨(q1, cA2), rfl, (trivial), by rw [ht]; exact hP9, va_K.moved hW.alike hK9, hD9⟩, hS.F ht⟩) hS.2.2 dX4_init_13
set_option maxHeartbeats 4000000 in
set_option maxRecDepth 100000 in
theorem c_X2i (l : Launch) (dC : Nat → ClassId) (dI : Nat → Nat → Nat) (g : Gv) (sz : Nat) (h0 : Nat)  : Met l yX2_init (.code yX2_init cX2_init 1 none :: TBL) ({ frames := 1, cells := 3, slots := 36, locals := 60 }) (va_Pc [.ref h0] (fun U => U.heap.size = sz ∧ va_P (dC, dI) vwCl [(h0, .inr (1, [.null, .null, .null, .int 0]))] U.heap ∧ va_K (dC, dI) vwCl [] U ∧ va_D (fun _ => True) [(h0, .inr (1, [.null, .null, .null, .int 0]))] ∧ Ev g (va_A [(h0, .inr (1, [.null, .null, .null, .int 0]))] sz) U)) (va_Qv (fun (u : (Nat → Nat)) => True) (fun (u : (Nat → Nat)) (t : State) => va_P (dC, dI) vwCl [(h0, .inr (1, [.ref (u 0), .ref (u 1), .ref (u 2), .int 0]))] t.heap ∧ va_K (dC, dI) vwCl [] t ∧ va_D (va_A [(h0, .inr (1, [.null, .null, .null, .int 0]))] sz) [(h0, .inr (1, [.ref (u 0), .ref (u 1), .ref (u 2), .int 0]))]) (va_A [(h0, .inr (1, [.null, .null, .null, .int 0]))] sz)) 3 36 (va_A [(h0, .inr (1, [.null, .null, .null, .int 0]))] sz) := by
  refine Met.ofW (cc := cX2_init) (maxL := 1) (ret := none) (by decide) rfl ?_
  intro p e s m args below meth c s₁ B hml hv
  obtain ⟨rfl, hsz, hP, hK, hD0, hE⟩ := hv
  have hx := B.exec
  have hb := B.bytes
  have hr := B.returns
  have hts0 := atoms_spec (ws := (.code yX2_init cX2_init 1 none :: TBL)) B.pre
  have hts := fun (w : Cond) (h : w ∈ TBL) => hts0 w (List.mem_cons_of_mem _ h)
  have hown : s.vm.findClass RX2 = some m.cls := findClass_of_methodNamed B.named
  have hlocks := B.notSynchronized
  have hN := hE.1
  have hin : meth.name = "<init>" := (name_of_methodNamed B.named B.method).1
  subst hsz
  have hD := hD0.self (sz := s.heap.size)
  generalize hAe : va_A [(h0, .inr (1, [.null, .null, .null, .int 0]))] s.heap.size = A at hD hE ⊢
  have hA : ∀ q : Nat, s.heap.size ≤ q → A q := fun q h => by rw [← hAe]; exact Or.inr h
  have hS : va_S A s.heap s.heap [] := va_S.rf
  have hP : va_P (dC, dI) vwCl [(h0, .inr (1, [.null, .null, .null, .int 0]))] s.heap := hP
  have hl := lv_entry ([.ref h0]) (n := 1) (Nat.le_of_ble_eq_true rfl)
  rw [lg_entry_eq]
  generalize (lg_sl ([.ref h0]) ++ List.replicate (1 - (lg_sl ([.ref h0])).length) Slot.unset).toArray = ls at hl ⊢
  have hl : lv_has ls 1 [(0, .ref h0)] := hl
  refine lv_aload_n hx hb dX2_init_0 rfl (lv_at hl 0 rfl) ?_
  refine W.objInit hx hb hown (hts (.methodLink RX2 3 objectInit) qw_105) (hts (.instanceMethod objectInit) qw_101) (hts (.code objectInit ⟨#[0xb1]⟩ 1 none) qw_102) rfl (by rw [hml]; exact hl.1) rfl dX2_init_1 (Nat.le_of_ble_eq_true rfl) (Nat.le_of_ble_eq_true rfl) ?_
  refine W.eq (g2 := F0 m 4 ls []) rfl ?_
  refine lv_aload_n hx hb dX2_init_4 rfl (lv_at hl 0 rfl) ?_
  refine lv_bipush (v := 12) hx hb dX2_init_5 (by decide) ?_
  refine va_newa (atype := .int) (ty := .int) (a0 := (12, .inl (fun _ => 0))) (N' := 12) hx hb (hts (.arrayClass .int) qw_106) rfl hK hP hD hS hA (fun _ => rfl) (by decide) (by decide) (Nat.le_of_ble_eq_true rfl) (Nat.le_of_ble_eq_true rfl) (Nat.le_of_ble_eq_true rfl) dX2_init_7 (fun q1 cA2 H hK hP hD hS => ?_)
  have hK : va_K (dC, dI) vwCl [(cA2, .int)] s := hK
  have hP : va_P (dC, dI) vwCl [(h0, .inr (1, [.null, .null, .null, .int 0])), (q1, .inl (cA2, 12, .inl (fun _ => 0)))] H := hP
  have hD : va_D A [(h0, .inr (1, [.null, .null, .null, .int 0])), (q1, .inl (cA2, 12, .inl (fun _ => 0)))] := hD
  refine W.widen (k := 1) (n := 12) (Nat.le_of_ble_eq_true rfl) (Nat.le_of_ble_eq_true rfl) ?_
  refine va_putF (D := (dC, dI)) (ci := 1) (v := .ref q1) (ty := .array .int) (C := RX2) (T := TX2) (N := 4) hx hb hts inlX2 tyX2 tyX2_ok nmX2 hown hK hP hD hS 0 rfl rfl 0 (by decide) (hts (.fieldLink RX2 9 "ClosedUntil$Journal" "acts" "[I") qw_107) (fun _ h9 => h9) rfl hin rfl (by decide +kernel) rfl rfl (Nat.le_of_ble_eq_true rfl) dX2_init_9 (fun H locs hP hD hS => ?_)
  have hP : va_P (dC, dI) vwCl [(h0, .inr (1, [.ref q1, .null, .null, .int 0])), (q1, .inl (cA2, 12, .inl (fun _ => 0)))] H := hP
  have hD : va_D A [(h0, .inr (1, [.ref q1, .null, .null, .int 0])), (q1, .inl (cA2, 12, .inl (fun _ => 0)))] := hD
  refine lv_aload_n hx hb dX2_init_12 rfl (lv_at hl 0 rfl) ?_
  refine lv_bipush (v := 12) hx hb dX2_init_13 (by decide) ?_
  refine va_newa (atype := .int) (ty := .int) (a0 := (12, .inl (fun _ => 0))) (N' := 12) hx hb (hts (.arrayClass .int) qw_106) rfl hK hP hD hS hA (fun _ => rfl) (by decide) (by decide) (Nat.le_of_ble_eq_true rfl) (Nat.le_of_ble_eq_true rfl) (Nat.le_of_ble_eq_true rfl) dX2_init_15 (fun q3 cA4 H hK hP hD hS => ?_)
  have hK : va_K (dC, dI) vwCl [(cA2, .int), (cA4, .int)] s := hK
  have hP : va_P (dC, dI) vwCl [(h0, .inr (1, [.ref q1, .null, .null, .int 0])), (q1, .inl (cA2, 12, .inl (fun _ => 0))), (q3, .inl (cA4, 12, .inl (fun _ => 0)))] H := hP
  have hD : va_D A [(h0, .inr (1, [.ref q1, .null, .null, .int 0])), (q1, .inl (cA2, 12, .inl (fun _ => 0))), (q3, .inl (cA4, 12, .inl (fun _ => 0)))] := hD
  refine W.widen (k := 2) (n := 24) (Nat.le_of_ble_eq_true rfl) (Nat.le_of_ble_eq_true rfl) ?_
  refine va_putF (D := (dC, dI)) (ci := 1) (v := .ref q3) (ty := .array .int) (C := RX2) (T := TX2) (N := 4) hx hb hts inlX2 tyX2 tyX2_ok nmX2 hown hK hP hD hS 0 rfl rfl 1 (by decide) (hts (.fieldLink RX2 15 "ClosedUntil$Journal" "whose" "[I") qw_108) (fun _ h9 => h9) rfl hin rfl (by decide +kernel) rfl rfl (Nat.le_of_ble_eq_true rfl) dX2_init_17 (fun H locs hP hD hS => ?_)
  have hP : va_P (dC, dI) vwCl [(h0, .inr (1, [.ref q1, .ref q3, .null, .int 0])), (q1, .inl (cA2, 12, .inl (fun _ => 0))), (q3, .inl (cA4, 12, .inl (fun _ => 0)))] H := hP
  have hD : va_D A [(h0, .inr (1, [.ref q1, .ref q3, .null, .int 0])), (q1, .inl (cA2, 12, .inl (fun _ => 0))), (q3, .inl (cA4, 12, .inl (fun _ => 0)))] := hD
  refine lv_aload_n hx hb dX2_init_20 rfl (lv_at hl 0 rfl) ?_
  refine lv_bipush (v := 12) hx hb dX2_init_21 (by decide) ?_
  refine va_newa (atype := .int) (ty := .int) (a0 := (12, .inl (fun _ => 0))) (N' := 12) hx hb (hts (.arrayClass .int) qw_106) rfl hK hP hD hS hA (fun _ => rfl) (by decide) (by decide) (Nat.le_of_ble_eq_true rfl) (Nat.le_of_ble_eq_true rfl) (Nat.le_of_ble_eq_true rfl) dX2_init_23 (fun q5 cA6 H hK hP hD hS => ?_)
  have hK : va_K (dC, dI) vwCl [(cA2, .int), (cA4, .int), (cA6, .int)] s := hK
  have hP : va_P (dC, dI) vwCl [(h0, .inr (1, [.ref q1, .ref q3, .null, .int 0])), (q1, .inl (cA2, 12, .inl (fun _ => 0))), (q3, .inl (cA4, 12, .inl (fun _ => 0))), (q5, .inl (cA6, 12, .inl (fun _ => 0)))] H := hP
  have hD : va_D A [(h0, .inr (1, [.ref q1, .ref q3, .null, .int 0])), (q1, .inl (cA2, 12, .inl (fun _ => 0))), (q3, .inl (cA4, 12, .inl (fun _ => 0))), (q5, .inl (cA6, 12, .inl (fun _ => 0)))] := hD
  refine W.widen (k := 3) (n := 36) (Nat.le_of_ble_eq_true rfl) (Nat.le_of_ble_eq_true rfl) ?_
  refine va_putF (D := (dC, dI)) (ci := 1) (v := .ref q5) (ty := .array .int) (C := RX2) (T := TX2) (N := 4) hx hb hts inlX2 tyX2 tyX2_ok nmX2 hown hK hP hD hS 0 rfl rfl 2 (by decide) (hts (.fieldLink RX2 18 "ClosedUntil$Journal" "before" "[I") qw_109) (fun _ h9 => h9) rfl hin rfl (by decide +kernel) rfl rfl (Nat.le_of_ble_eq_true rfl) dX2_init_25 (fun H locs hP hD hS => ?_)
  have hP : va_P (dC, dI) vwCl [(h0, .inr (1, [.ref q1, .ref q3, .ref q5, .int 0])), (q1, .inl (cA2, 12, .inl (fun _ => 0))), (q3, .inl (cA4, 12, .inl (fun _ => 0))), (q5, .inl (cA6, 12, .inl (fun _ => 0)))] H := hP
  have hD : va_D A [(h0, .inr (1, [.ref q1, .ref q3, .ref q5, .int 0])), (q1, .inl (cA2, 12, .inl (fun _ => 0))), (q3, .inl (cA4, 12, .inl (fun _ => 0))), (q5, .inl (cA6, 12, .inl (fun _ => 0)))] := hD
  refine W.widen (k := 3) (n := 36) (Nat.le_of_ble_eq_true rfl) (Nat.le_of_ble_eq_true rfl) ?_
  have hP9 := hP.sub (ws' := [(h0, .inr (1, [.ref ((fun k => match k with | 0 => q1 | 1 => q3 | 2 => q5 | _ => 0) 0), .ref ((fun k => match k with | 0 => q1 | 1 => q3 | 2 => q5 | _ => 0) 1), .ref ((fun k => match k with | 0 => q1 | 1 => q3 | 2 => q5 | _ => 0) 2), .int 0]))]) [0] rfl
  have hD9 := hD.sub (ws' := [(h0, .inr (1, [.ref ((fun k => match k with | 0 => q1 | 1 => q3 | 2 => q5 | _ => 0) 0), .ref ((fun k => match k with | 0 => q1 | 1 => q3 | 2 => q5 | _ => 0) 1), .ref ((fun k => match k with | 0 => q1 | 1 => q3 | 2 => q5 | _ => 0) 2), .int 0]))]) [0] (by decide) rfl
  have hK9 := hK.sub (tys' := []) [] rfl
  exact W.vret hx hb hr (fun t ht hW => ⟨⟨((fun k => match k with | 0 => q1 | 1 => q3 | 2 => q5 | _ => 0)), rfl, (trivial), by rw [ht]; exact hP9, va_K.moved hW.alike hK9, hD9⟩, hS.F ht⟩) hS.2.2 dX2_init_28
set_option maxHeartbeats 4000000 in
set_option maxRecDepth 100000 in
theorem c_X6i (l : Launch) (dC : Nat → ClassId) (dI : Nat → Nat → Nat) (g : Gv) (sz : Nat) (h0 : Nat)  : Met l yX6_init (.code yX6_init cX6_init 1 none :: TBL) ({ frames := 1, cells := 30, slots := 696, locals := 60 }) (va_Pc [.ref h0] (fun U => U.heap.size = sz ∧ va_P (dC, dI) vwCl [(h0, .inr (5, [.null, .null, .null, .null, .null, .null, .int 0, .int 0]))] U.heap ∧ va_K (dC, dI) vwCl [] U ∧ va_D (fun _ => True) [(h0, .inr (5, [.null, .null, .null, .null, .null, .null, .int 0, .int 0]))] ∧ Ev g (va_A [(h0, .inr (5, [.null, .null, .null, .null, .null, .null, .int 0, .int 0]))] sz) U)) (va_Qv (fun (u : (Nat → Nat)) => True) (fun (u : (Nat → Nat)) (t : State) => va_P (dC, dI) vwCl [(h0, .inr (5, [.ref (u 0), .ref (u 1), .ref (u 2), .ref (u 3), .ref (u 4), .ref (u 5), .int 0, .int 0]))] t.heap ∧ va_K (dC, dI) vwCl [] t ∧ va_D (va_A [(h0, .inr (5, [.null, .null, .null, .null, .null, .null, .int 0, .int 0]))] sz) [(h0, .inr (5, [.ref (u 0), .ref (u 1), .ref (u 2), .ref (u 3), .ref (u 4), .ref (u 5), .int 0, .int 0]))]) (va_A [(h0, .inr (5, [.null, .null, .null, .null, .null, .null, .int 0, .int 0]))] sz)) 30 696 (va_A [(h0, .inr (5, [.null, .null, .null, .null, .null, .null, .int 0, .int 0]))] sz) := by
  refine Met.ofW (cc := cX6_init) (maxL := 1) (ret := none) (by decide) rfl ?_
  intro p e s m args below meth c s₁ B hml hv
  obtain ⟨rfl, hsz, hP, hK, hD0, hE⟩ := hv
  have hx := B.exec
  have hb := B.bytes
  have hr := B.returns
  have hts0 := atoms_spec (ws := (.code yX6_init cX6_init 1 none :: TBL)) B.pre
  have hts := fun (w : Cond) (h : w ∈ TBL) => hts0 w (List.mem_cons_of_mem _ h)
  have hown : s.vm.findClass RX6 = some m.cls := findClass_of_methodNamed B.named
  have hlocks := B.notSynchronized
  have hN := hE.1
  have hin : meth.name = "<init>" := (name_of_methodNamed B.named B.method).1
  subst hsz
  have hD := hD0.self (sz := s.heap.size)
  generalize hAe : va_A [(h0, .inr (5, [.null, .null, .null, .null, .null, .null, .int 0, .int 0]))] s.heap.size = A at hD hE ⊢
  have hA : ∀ q : Nat, s.heap.size ≤ q → A q := fun q h => by rw [← hAe]; exact Or.inr h
  have hS : va_S A s.heap s.heap [] := va_S.rf
  have hP : va_P (dC, dI) vwCl [(h0, .inr (5, [.null, .null, .null, .null, .null, .null, .int 0, .int 0]))] s.heap := hP
  have hl := lv_entry ([.ref h0]) (n := 1) (Nat.le_of_ble_eq_true rfl)
  rw [lg_entry_eq]
  generalize (lg_sl ([.ref h0]) ++ List.replicate (1 - (lg_sl ([.ref h0])).length) Slot.unset).toArray = ls at hl ⊢
  have hl : lv_has ls 1 [(0, .ref h0)] := hl
  refine lv_aload_n hx hb dX6_init_0 rfl (lv_at hl 0 rfl) ?_
  refine W.objInit hx hb hown (hts (.methodLink RX6 3 objectInit) qw_110) (hts (.instanceMethod objectInit) qw_101) (hts (.code objectInit ⟨#[0xb1]⟩ 1 none) qw_102) rfl (by rw [hml]; exact hl.1) rfl dX6_init_1 (Nat.le_of_ble_eq_true rfl) (Nat.le_of_ble_eq_true rfl) ?_
  refine W.eq (g2 := F0 m 4 ls []) rfl ?_
  refine lv_aload_n hx hb dX6_init_4 rfl (lv_at hl 0 rfl) ?_
  refine lv_bipush (v := 24) hx hb dX6_init_5 (by decide) ?_
  refine va_newa (atype := .int) (ty := .int) (a0 := (24, .inl (fun _ => 0))) (N' := 24) hx hb (hts (.arrayClass .int) qw_106) rfl hK hP hD hS hA (fun _ => rfl) (by decide) (by decide) (Nat.le_of_ble_eq_true rfl) (Nat.le_of_ble_eq_true rfl) (Nat.le_of_ble_eq_true rfl) dX6_init_7 (fun q1 cA2 H hK hP hD hS => ?_)
  have hK : va_K (dC, dI) vwCl [(cA2, .int)] s := hK
  have hP : va_P (dC, dI) vwCl [(h0, .inr (5, [.null, .null, .null, .null, .null, .null, .int 0, .int 0])), (q1, .inl (cA2, 24, .inl (fun _ => 0)))] H := hP
  have hD : va_D A [(h0, .inr (5, [.null, .null, .null, .null, .null, .null, .int 0, .int 0])), (q1, .inl (cA2, 24, .inl (fun _ => 0)))] := hD
  refine W.widen (k := 1) (n := 24) (Nat.le_of_ble_eq_true rfl) (Nat.le_of_ble_eq_true rfl) ?_
  refine va_putF (D := (dC, dI)) (ci := 5) (v := .ref q1) (ty := .array .int) (C := RX6) (T := TX6) (N := 8) hx hb hts inlX6 tyX6 tyX6_ok nmX6 hown hK hP hD hS 0 rfl rfl 0 (by decide) (hts (.fieldLink RX6 9 "ClosedUntil$Timetable" "below" "[I") qw_111) (fun _ h9 => h9) rfl hin rfl (by decide +kernel) rfl rfl (Nat.le_of_ble_eq_true rfl) dX6_init_9 (fun H locs hP hD hS => ?_)
  have hP : va_P (dC, dI) vwCl [(h0, .inr (5, [.ref q1, .null, .null, .null, .null, .null, .int 0, .int 0])), (q1, .inl (cA2, 24, .inl (fun _ => 0)))] H := hP
  have hD : va_D A [(h0, .inr (5, [.ref q1, .null, .null, .null, .null, .null, .int 0, .int 0])), (q1, .inl (cA2, 24, .inl (fun _ => 0)))] := hD
  refine lv_aload_n hx hb dX6_init_12 rfl (lv_at hl 0 rfl) ?_
  refine lv_bipush (v := 24) hx hb dX6_init_13 (by decide) ?_
  refine va_newa (atype := .int) (ty := .int) (a0 := (24, .inl (fun _ => 0))) (N' := 24) hx hb (hts (.arrayClass .int) qw_106) rfl hK hP hD hS hA (fun _ => rfl) (by decide) (by decide) (Nat.le_of_ble_eq_true rfl) (Nat.le_of_ble_eq_true rfl) (Nat.le_of_ble_eq_true rfl) dX6_init_15 (fun q3 cA4 H hK hP hD hS => ?_)
  have hK : va_K (dC, dI) vwCl [(cA2, .int), (cA4, .int)] s := hK
  have hP : va_P (dC, dI) vwCl [(h0, .inr (5, [.ref q1, .null, .null, .null, .null, .null, .int 0, .int 0])), (q1, .inl (cA2, 24, .inl (fun _ => 0))), (q3, .inl (cA4, 24, .inl (fun _ => 0)))] H := hP
  have hD : va_D A [(h0, .inr (5, [.ref q1, .null, .null, .null, .null, .null, .int 0, .int 0])), (q1, .inl (cA2, 24, .inl (fun _ => 0))), (q3, .inl (cA4, 24, .inl (fun _ => 0)))] := hD
  refine W.widen (k := 2) (n := 48) (Nat.le_of_ble_eq_true rfl) (Nat.le_of_ble_eq_true rfl) ?_
  refine va_putF (D := (dC, dI)) (ci := 5) (v := .ref q3) (ty := .array .int) (C := RX6) (T := TX6) (N := 8) hx hb hts inlX6 tyX6 tyX6_ok nmX6 hown hK hP hD hS 0 rfl rfl 1 (by decide) (hts (.fieldLink RX6 15 "ClosedUntil$Timetable" "depth" "[I") qw_112) (fun _ h9 => h9) rfl hin rfl (by decide +kernel) rfl rfl (Nat.le_of_ble_eq_true rfl) dX6_init_17 (fun H locs hP hD hS => ?_)
  have hP : va_P (dC, dI) vwCl [(h0, .inr (5, [.ref q1, .ref q3, .null, .null, .null, .null, .int 0, .int 0])), (q1, .inl (cA2, 24, .inl (fun _ => 0))), (q3, .inl (cA4, 24, .inl (fun _ => 0)))] H := hP
  have hD : va_D A [(h0, .inr (5, [.ref q1, .ref q3, .null, .null, .null, .null, .int 0, .int 0])), (q1, .inl (cA2, 24, .inl (fun _ => 0))), (q3, .inl (cA4, 24, .inl (fun _ => 0)))] := hD
  refine lv_aload_n hx hb dX6_init_20 rfl (lv_at hl 0 rfl) ?_
  refine lv_bipush (v := 12) hx hb dX6_init_21 (by decide) ?_
  refine lv_bipush (v := 24) hx hb dX6_init_23 (by decide) ?_
  refine mna (cy := g.2.2.2.2) (N' := 12) (K' := 24) hx hb hown (hts (.classLink RX6 18 "[[I") qw_113) hE.2.2.2.2.2.2.2.2.2.2.1 (hts (.arrayClass .int) qw_106) hE.2.2.2.2.2.2.2.2.2.2.2.2 hK hP hD hS hA (by decide) (by decide) (by decide) (by decide) (Nat.le_of_ble_eq_true rfl) (Nat.le_of_ble_eq_true rfl) (Nat.le_of_ble_eq_true rfl) (Nat.le_of_ble_eq_true rfl) dX6_init_25 (fun q5 gf6 rw7 cA8 H hro9 hgr10 hK hP hD hS => ?_)
  have hP := hP.pre
  have hD := hD.pre
  have hK : va_K (dC, dI) vwCl [(cA2, .int), (cA4, .int), (cA8, .array .int)] s := hK
  have hP : va_P (dC, dI) vwCl [(h0, .inr (5, [.ref q1, .ref q3, .null, .null, .null, .null, .int 0, .int 0])), (q1, .inl (cA2, 24, .inl (fun _ => 0))), (q3, .inl (cA4, 24, .inl (fun _ => 0))), (q5, .inl (cA8, 12, .inr (.inr (.inr (.inr gf6)))))] H := hP
  have hD : va_D A [(h0, .inr (5, [.ref q1, .ref q3, .null, .null, .null, .null, .int 0, .int 0])), (q1, .inl (cA2, 24, .inl (fun _ => 0))), (q3, .inl (cA4, 24, .inl (fun _ => 0))), (q5, .inl (cA8, 12, .inr (.inr (.inr (.inr gf6)))))] := hD
  refine W.widen (k := 15) (n := 348) (Nat.le_of_ble_eq_true rfl) (Nat.le_of_ble_eq_true rfl) ?_
  refine va_putF (D := (dC, dI)) (ci := 5) (v := .ref q5) (ty := .array (.array .int)) (C := RX6) (T := TX6) (N := 8) hx hb hts inlX6 tyX6 tyX6_ok nmX6 hown hK hP hD hS 0 rfl rfl 2 (by decide) (hts (.fieldLink RX6 20 "ClosedUntil$Timetable" "terms" "[[I") qw_114) (fun _ h9 => h9) rfl hin rfl (by decide +kernel) rfl rfl (Nat.le_of_ble_eq_true rfl) dX6_init_29 (fun H locs hP hD hS => ?_)
  have hP : va_P (dC, dI) vwCl [(h0, .inr (5, [.ref q1, .ref q3, .ref q5, .null, .null, .null, .int 0, .int 0])), (q1, .inl (cA2, 24, .inl (fun _ => 0))), (q3, .inl (cA4, 24, .inl (fun _ => 0))), (q5, .inl (cA8, 12, .inr (.inr (.inr (.inr gf6)))))] H := hP
  have hD : va_D A [(h0, .inr (5, [.ref q1, .ref q3, .ref q5, .null, .null, .null, .int 0, .int 0])), (q1, .inl (cA2, 24, .inl (fun _ => 0))), (q3, .inl (cA4, 24, .inl (fun _ => 0))), (q5, .inl (cA8, 12, .inr (.inr (.inr (.inr gf6)))))] := hD
  refine lv_aload_n hx hb dX6_init_32 rfl (lv_at hl 0 rfl) ?_
  refine lv_bipush (v := 12) hx hb dX6_init_33 (by decide) ?_
  refine lv_bipush (v := 24) hx hb dX6_init_35 (by decide) ?_
  refine mna (cy := g.2.2.2.2) (N' := 12) (K' := 24) hx hb hown (hts (.classLink RX6 18 "[[I") qw_113) hE.2.2.2.2.2.2.2.2.2.2.1 (hts (.arrayClass .int) qw_106) hE.2.2.2.2.2.2.2.2.2.2.2.2 hK hP hD hS hA (by decide) (by decide) (by decide) (by decide) (Nat.le_of_ble_eq_true rfl) (Nat.le_of_ble_eq_true rfl) (Nat.le_of_ble_eq_true rfl) (Nat.le_of_ble_eq_true rfl) dX6_init_37 (fun q11 gf12 rw13 cA14 H hro15 hgr16 hK hP hD hS => ?_)
  have hP := hP.pre
  have hD := hD.pre
  have hK : va_K (dC, dI) vwCl [(cA2, .int), (cA4, .int), (cA8, .array .int), (cA14, .array .int)] s := hK
  have hP : va_P (dC, dI) vwCl [(h0, .inr (5, [.ref q1, .ref q3, .ref q5, .null, .null, .null, .int 0, .int 0])), (q1, .inl (cA2, 24, .inl (fun _ => 0))), (q3, .inl (cA4, 24, .inl (fun _ => 0))), (q5, .inl (cA8, 12, .inr (.inr (.inr (.inr gf6))))), (q11, .inl (cA14, 12, .inr (.inr (.inr (.inr gf12)))))] H := hP
  have hD : va_D A [(h0, .inr (5, [.ref q1, .ref q3, .ref q5, .null, .null, .null, .int 0, .int 0])), (q1, .inl (cA2, 24, .inl (fun _ => 0))), (q3, .inl (cA4, 24, .inl (fun _ => 0))), (q5, .inl (cA8, 12, .inr (.inr (.inr (.inr gf6))))), (q11, .inl (cA14, 12, .inr (.inr (.inr (.inr gf12)))))] := hD
  refine W.widen (k := 28) (n := 648) (Nat.le_of_ble_eq_true rfl) (Nat.le_of_ble_eq_true rfl) ?_
  refine va_putF (D := (dC, dI)) (ci := 5) (v := .ref q11) (ty := .array (.array .int)) (C := RX6) (T := TX6) (N := 8) hx hb hts inlX6 tyX6 tyX6_ok nmX6 hown hK hP hD hS 0 rfl rfl 3 (by decide) (hts (.fieldLink RX6 23 "ClosedUntil$Timetable" "ends" "[[I") qw_115) (fun _ h9 => h9) rfl hin rfl (by decide +kernel) rfl rfl (Nat.le_of_ble_eq_true rfl) dX6_init_41 (fun H locs hP hD hS => ?_)
  have hP : va_P (dC, dI) vwCl [(h0, .inr (5, [.ref q1, .ref q3, .ref q5, .ref q11, .null, .null, .int 0, .int 0])), (q1, .inl (cA2, 24, .inl (fun _ => 0))), (q3, .inl (cA4, 24, .inl (fun _ => 0))), (q5, .inl (cA8, 12, .inr (.inr (.inr (.inr gf6))))), (q11, .inl (cA14, 12, .inr (.inr (.inr (.inr gf12)))))] H := hP
  have hD : va_D A [(h0, .inr (5, [.ref q1, .ref q3, .ref q5, .ref q11, .null, .null, .int 0, .int 0])), (q1, .inl (cA2, 24, .inl (fun _ => 0))), (q3, .inl (cA4, 24, .inl (fun _ => 0))), (q5, .inl (cA8, 12, .inr (.inr (.inr (.inr gf6))))), (q11, .inl (cA14, 12, .inr (.inr (.inr (.inr gf12)))))] := hD
  refine lv_aload_n hx hb dX6_init_44 rfl (lv_at hl 0 rfl) ?_
  refine lv_bipush (v := 24) hx hb dX6_init_45 (by decide) ?_
  refine va_newa (atype := .int) (ty := .int) (a0 := (24, .inl (fun _ => 0))) (N' := 24) hx hb (hts (.arrayClass .int) qw_106) rfl hK hP hD hS hA (fun _ => rfl) (by decide) (by decide) (Nat.le_of_ble_eq_true rfl) (Nat.le_of_ble_eq_true rfl) (Nat.le_of_ble_eq_true rfl) dX6_init_47 (fun q17 cA18 H hK hP hD hS => ?_)
  have hK : va_K (dC, dI) vwCl [(cA2, .int), (cA4, .int), (cA8, .array .int), (cA14, .array .int), (cA18, .int)] s := hK
  have hP : va_P (dC, dI) vwCl [(h0, .inr (5, [.ref q1, .ref q3, .ref q5, .ref q11, .null, .null, .int 0, .int 0])), (q1, .inl (cA2, 24, .inl (fun _ => 0))), (q3, .inl (cA4, 24, .inl (fun _ => 0))), (q5, .inl (cA8, 12, .inr (.inr (.inr (.inr gf6))))), (q11, .inl (cA14, 12, .inr (.inr (.inr (.inr gf12))))), (q17, .inl (cA18, 24, .inl (fun _ => 0)))] H := hP
  have hD : va_D A [(h0, .inr (5, [.ref q1, .ref q3, .ref q5, .ref q11, .null, .null, .int 0, .int 0])), (q1, .inl (cA2, 24, .inl (fun _ => 0))), (q3, .inl (cA4, 24, .inl (fun _ => 0))), (q5, .inl (cA8, 12, .inr (.inr (.inr (.inr gf6))))), (q11, .inl (cA14, 12, .inr (.inr (.inr (.inr gf12))))), (q17, .inl (cA18, 24, .inl (fun _ => 0)))] := hD
  refine W.widen (k := 29) (n := 672) (Nat.le_of_ble_eq_true rfl) (Nat.le_of_ble_eq_true rfl) ?_
  refine va_putF (D := (dC, dI)) (ci := 5) (v := .ref q17) (ty := .array .int) (C := RX6) (T := TX6) (N := 8) hx hb hts inlX6 tyX6 tyX6_ok nmX6 hown hK hP hD hS 0 rfl rfl 4 (by decide) (hts (.fieldLink RX6 26 "ClosedUntil$Timetable" "closers" "[I") qw_116) (fun _ h9 => h9) rfl hin rfl (by decide +kernel) rfl rfl (Nat.le_of_ble_eq_true rfl) dX6_init_49 (fun H locs hP hD hS => ?_)
  have hP : va_P (dC, dI) vwCl [(h0, .inr (5, [.ref q1, .ref q3, .ref q5, .ref q11, .ref q17, .null, .int 0, .int 0])), (q1, .inl (cA2, 24, .inl (fun _ => 0))), (q3, .inl (cA4, 24, .inl (fun _ => 0))), (q5, .inl (cA8, 12, .inr (.inr (.inr (.inr gf6))))), (q11, .inl (cA14, 12, .inr (.inr (.inr (.inr gf12))))), (q17, .inl (cA18, 24, .inl (fun _ => 0)))] H := hP
  have hD : va_D A [(h0, .inr (5, [.ref q1, .ref q3, .ref q5, .ref q11, .ref q17, .null, .int 0, .int 0])), (q1, .inl (cA2, 24, .inl (fun _ => 0))), (q3, .inl (cA4, 24, .inl (fun _ => 0))), (q5, .inl (cA8, 12, .inr (.inr (.inr (.inr gf6))))), (q11, .inl (cA14, 12, .inr (.inr (.inr (.inr gf12))))), (q17, .inl (cA18, 24, .inl (fun _ => 0)))] := hD
  refine lv_aload_n hx hb dX6_init_52 rfl (lv_at hl 0 rfl) ?_
  refine lv_bipush (v := 24) hx hb dX6_init_53 (by decide) ?_
  refine va_newa (atype := .int) (ty := .int) (a0 := (24, .inl (fun _ => 0))) (N' := 24) hx hb (hts (.arrayClass .int) qw_106) rfl hK hP hD hS hA (fun _ => rfl) (by decide) (by decide) (Nat.le_of_ble_eq_true rfl) (Nat.le_of_ble_eq_true rfl) (Nat.le_of_ble_eq_true rfl) dX6_init_55 (fun q19 cA20 H hK hP hD hS => ?_)
  have hK : va_K (dC, dI) vwCl [(cA2, .int), (cA4, .int), (cA8, .array .int), (cA14, .array .int), (cA18, .int), (cA20, .int)] s := hK
  have hP : va_P (dC, dI) vwCl [(h0, .inr (5, [.ref q1, .ref q3, .ref q5, .ref q11, .ref q17, .null, .int 0, .int 0])), (q1, .inl (cA2, 24, .inl (fun _ => 0))), (q3, .inl (cA4, 24, .inl (fun _ => 0))), (q5, .inl (cA8, 12, .inr (.inr (.inr (.inr gf6))))), (q11, .inl (cA14, 12, .inr (.inr (.inr (.inr gf12))))), (q17, .inl (cA18, 24, .inl (fun _ => 0))), (q19, .inl (cA20, 24, .inl (fun _ => 0)))] H := hP
  have hD : va_D A [(h0, .inr (5, [.ref q1, .ref q3, .ref q5, .ref q11, .ref q17, .null, .int 0, .int 0])), (q1, .inl (cA2, 24, .inl (fun _ => 0))), (q3, .inl (cA4, 24, .inl (fun _ => 0))), (q5, .inl (cA8, 12, .inr (.inr (.inr (.inr gf6))))), (q11, .inl (cA14, 12, .inr (.inr (.inr (.inr gf12))))), (q17, .inl (cA18, 24, .inl (fun _ => 0))), (q19, .inl (cA20, 24, .inl (fun _ => 0)))] := hD
  refine W.widen (k := 30) (n := 696) (Nat.le_of_ble_eq_true rfl) (Nat.le_of_ble_eq_true rfl) ?_
  refine va_putF (D := (dC, dI)) (ci := 5) (v := .ref q19) (ty := .array .int) (C := RX6) (T := TX6) (N := 8) hx hb hts inlX6 tyX6 tyX6_ok nmX6 hown hK hP hD hS 0 rfl rfl 5 (by decide) (hts (.fieldLink RX6 29 "ClosedUntil$Timetable" "openings" "[I") qw_117) (fun _ h9 => h9) rfl hin rfl (by decide +kernel) rfl rfl (Nat.le_of_ble_eq_true rfl) dX6_init_57 (fun H locs hP hD hS => ?_)
  have hP : va_P (dC, dI) vwCl [(h0, .inr (5, [.ref q1, .ref q3, .ref q5, .ref q11, .ref q17, .ref q19, .int 0, .int 0])), (q1, .inl (cA2, 24, .inl (fun _ => 0))), (q3, .inl (cA4, 24, .inl (fun _ => 0))), (q5, .inl (cA8, 12, .inr (.inr (.inr (.inr gf6))))), (q11, .inl (cA14, 12, .inr (.inr (.inr (.inr gf12))))), (q17, .inl (cA18, 24, .inl (fun _ => 0))), (q19, .inl (cA20, 24, .inl (fun _ => 0)))] H := hP
  have hD : va_D A [(h0, .inr (5, [.ref q1, .ref q3, .ref q5, .ref q11, .ref q17, .ref q19, .int 0, .int 0])), (q1, .inl (cA2, 24, .inl (fun _ => 0))), (q3, .inl (cA4, 24, .inl (fun _ => 0))), (q5, .inl (cA8, 12, .inr (.inr (.inr (.inr gf6))))), (q11, .inl (cA14, 12, .inr (.inr (.inr (.inr gf12))))), (q17, .inl (cA18, 24, .inl (fun _ => 0))), (q19, .inl (cA20, 24, .inl (fun _ => 0)))] := hD
  refine W.widen (k := 30) (n := 696) (Nat.le_of_ble_eq_true rfl) (Nat.le_of_ble_eq_true rfl) ?_
  have hP9 := hP.sub (ws' := [(h0, .inr (5, [.ref ((fun k => match k with | 0 => q1 | 1 => q3 | 2 => q5 | 3 => q11 | 4 => q17 | 5 => q19 | _ => 0) 0), .ref ((fun k => match k with | 0 => q1 | 1 => q3 | 2 => q5 | 3 => q11 | 4 => q17 | 5 => q19 | _ => 0) 1), .ref ((fun k => match k with | 0 => q1 | 1 => q3 | 2 => q5 | 3 => q11 | 4 => q17 | 5 => q19 | _ => 0) 2), .ref ((fun k => match k with | 0 => q1 | 1 => q3 | 2 => q5 | 3 => q11 | 4 => q17 | 5 => q19 | _ => 0) 3), .ref ((fun k => match k with | 0 => q1 | 1 => q3 | 2 => q5 | 3 => q11 | 4 => q17 | 5 => q19 | _ => 0) 4), .ref ((fun k => match k with | 0 => q1 | 1 => q3 | 2 => q5 | 3 => q11 | 4 => q17 | 5 => q19 | _ => 0) 5), .int 0, .int 0]))]) [0] rfl
  have hD9 := hD.sub (ws' := [(h0, .inr (5, [.ref ((fun k => match k with | 0 => q1 | 1 => q3 | 2 => q5 | 3 => q11 | 4 => q17 | 5 => q19 | _ => 0) 0), .ref ((fun k => match k with | 0 => q1 | 1 => q3 | 2 => q5 | 3 => q11 | 4 => q17 | 5 => q19 | _ => 0) 1), .ref ((fun k => match k with | 0 => q1 | 1 => q3 | 2 => q5 | 3 => q11 | 4 => q17 | 5 => q19 | _ => 0) 2), .ref ((fun k => match k with | 0 => q1 | 1 => q3 | 2 => q5 | 3 => q11 | 4 => q17 | 5 => q19 | _ => 0) 3), .ref ((fun k => match k with | 0 => q1 | 1 => q3 | 2 => q5 | 3 => q11 | 4 => q17 | 5 => q19 | _ => 0) 4), .ref ((fun k => match k with | 0 => q1 | 1 => q3 | 2 => q5 | 3 => q11 | 4 => q17 | 5 => q19 | _ => 0) 5), .int 0, .int 0]))]) [0] (by decide) rfl
  have hK9 := hK.sub (tys' := []) [] rfl
  exact W.vret hx hb hr (fun t ht hW => ⟨⟨((fun k => match k with | 0 => q1 | 1 => q3 | 2 => q5 | 3 => q11 | 4 => q17 | 5 => q19 | _ => 0)), rfl, (trivial), by rw [ht]; exact hP9, va_K.moved hW.alike hK9, hD9⟩, hS.F ht⟩) hS.2.2 dX6_init_60
set_option maxHeartbeats 4000000 in
set_option maxRecDepth 100000 in
theorem c_X1i (l : Launch) (dC : Nat → ClassId) (dI : Nat → Nat → Nat) (g : Gv) (sz : Nat) (h0 : Nat)  : Met l yX1_init (.code yX1_init cX1_init 1 none :: TBL) ({ frames := 1, cells := 22, slots := 192, locals := 60 }) (va_Pc [.ref h0] (fun U => U.heap.size = sz ∧ va_P (dC, dI) vwCl [(h0, .inr (0, [.int 0, .null, .int 0, .null, .int 0, .null, .null, .null, .int 0, .null, .null, .null, .null, .null]))] U.heap ∧ va_K (dC, dI) vwCl [] U ∧ va_D (fun _ => True) [(h0, .inr (0, [.int 0, .null, .int 0, .null, .int 0, .null, .null, .null, .int 0, .null, .null, .null, .null, .null]))] ∧ Ev g (va_A [(h0, .inr (0, [.int 0, .null, .int 0, .null, .int 0, .null, .null, .null, .int 0, .null, .null, .null, .null, .null]))] sz) U)) (va_Qv (fun (u : (Nat → Nat)) => True) (fun (u : (Nat → Nat)) (t : State) => va_P (dC, dI) vwCl [(h0, .inr (0, [.int 0, .ref (u 1), .int 0, .ref (u 3), .int 0, .ref (u 5), .ref (u 6), .ref (u 7), .int 0, .ref (u 9), .ref (u 10), .ref (u 11), .ref (u 12), .ref (u 13)]))] t.heap ∧ va_K (dC, dI) vwCl [] t ∧ va_D (va_A [(h0, .inr (0, [.int 0, .null, .int 0, .null, .int 0, .null, .null, .null, .int 0, .null, .null, .null, .null, .null]))] sz) [(h0, .inr (0, [.int 0, .ref (u 1), .int 0, .ref (u 3), .int 0, .ref (u 5), .ref (u 6), .ref (u 7), .int 0, .ref (u 9), .ref (u 10), .ref (u 11), .ref (u 12), .ref (u 13)]))]) (va_A [(h0, .inr (0, [.int 0, .null, .int 0, .null, .int 0, .null, .null, .null, .int 0, .null, .null, .null, .null, .null]))] sz)) 22 192 (va_A [(h0, .inr (0, [.int 0, .null, .int 0, .null, .int 0, .null, .null, .null, .int 0, .null, .null, .null, .null, .null]))] sz) := by
  refine Met.ofW (cc := cX1_init) (maxL := 1) (ret := none) (by decide) rfl ?_
  intro p e s m args below meth c s₁ B hml hv
  obtain ⟨rfl, hsz, hP, hK, hD0, hE⟩ := hv
  have hx := B.exec
  have hb := B.bytes
  have hr := B.returns
  have hts0 := atoms_spec (ws := (.code yX1_init cX1_init 1 none :: TBL)) B.pre
  have hts := fun (w : Cond) (h : w ∈ TBL) => hts0 w (List.mem_cons_of_mem _ h)
  have hown : s.vm.findClass RX1 = some m.cls := findClass_of_methodNamed B.named
  have hlocks := B.notSynchronized
  have hN := hE.1
  have hin : meth.name = "<init>" := (name_of_methodNamed B.named B.method).1
  subst hsz
  have hD := hD0.self (sz := s.heap.size)
  generalize hAe : va_A [(h0, .inr (0, [.int 0, .null, .int 0, .null, .int 0, .null, .null, .null, .int 0, .null, .null, .null, .null, .null]))] s.heap.size = A at hD hE ⊢
  have hA : ∀ q : Nat, s.heap.size ≤ q → A q := fun q h => by rw [← hAe]; exact Or.inr h
  have hS : va_S A s.heap s.heap [] := va_S.rf
  have hP : va_P (dC, dI) vwCl [(h0, .inr (0, [.int 0, .null, .int 0, .null, .int 0, .null, .null, .null, .int 0, .null, .null, .null, .null, .null]))] s.heap := hP
  have hl := lv_entry ([.ref h0]) (n := 1) (Nat.le_of_ble_eq_true rfl)
  rw [lg_entry_eq]
  generalize (lg_sl ([.ref h0]) ++ List.replicate (1 - (lg_sl ([.ref h0])).length) Slot.unset).toArray = ls at hl ⊢
  have hl : lv_has ls 1 [(0, .ref h0)] := hl
  refine lv_aload_n hx hb dX1_init_0 rfl (lv_at hl 0 rfl) ?_
  refine W.objInit hx hb hown (hts (.methodLink RX1 3 objectInit) qw_118) (hts (.instanceMethod objectInit) qw_101) (hts (.code objectInit ⟨#[0xb1]⟩ 1 none) qw_102) rfl (by rw [hml]; exact hl.1) rfl dX1_init_1 (Nat.le_of_ble_eq_true rfl) (Nat.le_of_ble_eq_true rfl) ?_
  refine W.eq (g2 := F0 m 4 ls []) rfl ?_
  refine lv_aload_n hx hb dX1_init_4 rfl (lv_at hl 0 rfl) ?_
  refine lv_bipush (v := 8) hx hb dX1_init_5 (by decide) ?_
  refine va_newa (atype := .int) (ty := .int) (a0 := (8, .inl (fun _ => 0))) (N' := 8) hx hb (hts (.arrayClass .int) qw_106) rfl hK hP hD hS hA (fun _ => rfl) (by decide) (by decide) (Nat.le_of_ble_eq_true rfl) (Nat.le_of_ble_eq_true rfl) (Nat.le_of_ble_eq_true rfl) dX1_init_7 (fun q1 cA2 H hK hP hD hS => ?_)
  have hK : va_K (dC, dI) vwCl [(cA2, .int)] s := hK
  have hP : va_P (dC, dI) vwCl [(h0, .inr (0, [.int 0, .null, .int 0, .null, .int 0, .null, .null, .null, .int 0, .null, .null, .null, .null, .null])), (q1, .inl (cA2, 8, .inl (fun _ => 0)))] H := hP
  have hD : va_D A [(h0, .inr (0, [.int 0, .null, .int 0, .null, .int 0, .null, .null, .null, .int 0, .null, .null, .null, .null, .null])), (q1, .inl (cA2, 8, .inl (fun _ => 0)))] := hD
  refine W.widen (k := 1) (n := 8) (Nat.le_of_ble_eq_true rfl) (Nat.le_of_ble_eq_true rfl) ?_
  refine va_putF (D := (dC, dI)) (ci := 0) (v := .ref q1) (ty := .array .int) (C := RX1) (T := TX1) (N := 14) hx hb hts inlX1 tyX1 tyX1_ok nmX1 hown hK hP hD hS 0 rfl rfl 1 (by decide) (hts (.fieldLink RX1 9 "ClosedUntil$Holdings" "birth" "[I") qw_119) (fun _ h9 => h9) rfl hin rfl (by decide +kernel) rfl rfl (Nat.le_of_ble_eq_true rfl) dX1_init_9 (fun H locs hP hD hS => ?_)
  have hP : va_P (dC, dI) vwCl [(h0, .inr (0, [.int 0, .ref q1, .int 0, .null, .int 0, .null, .null, .null, .int 0, .null, .null, .null, .null, .null])), (q1, .inl (cA2, 8, .inl (fun _ => 0)))] H := hP
  have hD : va_D A [(h0, .inr (0, [.int 0, .ref q1, .int 0, .null, .int 0, .null, .null, .null, .int 0, .null, .null, .null, .null, .null])), (q1, .inl (cA2, 8, .inl (fun _ => 0)))] := hD
  refine lv_aload_n hx hb dX1_init_12 rfl (lv_at hl 0 rfl) ?_
  refine lv_iconst (v := 4) hx hb dX1_init_13 (by decide) ?_
  refine va_newa (atype := .int) (ty := .int) (a0 := (4, .inl (fun _ => 0))) (N' := 4) hx hb (hts (.arrayClass .int) qw_106) rfl hK hP hD hS hA (fun _ => rfl) (by decide) (by decide) (Nat.le_of_ble_eq_true rfl) (Nat.le_of_ble_eq_true rfl) (Nat.le_of_ble_eq_true rfl) dX1_init_14 (fun q3 cA4 H hK hP hD hS => ?_)
  have hK : va_K (dC, dI) vwCl [(cA2, .int), (cA4, .int)] s := hK
  have hP : va_P (dC, dI) vwCl [(h0, .inr (0, [.int 0, .ref q1, .int 0, .null, .int 0, .null, .null, .null, .int 0, .null, .null, .null, .null, .null])), (q1, .inl (cA2, 8, .inl (fun _ => 0))), (q3, .inl (cA4, 4, .inl (fun _ => 0)))] H := hP
  have hD : va_D A [(h0, .inr (0, [.int 0, .ref q1, .int 0, .null, .int 0, .null, .null, .null, .int 0, .null, .null, .null, .null, .null])), (q1, .inl (cA2, 8, .inl (fun _ => 0))), (q3, .inl (cA4, 4, .inl (fun _ => 0)))] := hD
  refine W.widen (k := 2) (n := 12) (Nat.le_of_ble_eq_true rfl) (Nat.le_of_ble_eq_true rfl) ?_
  refine va_putF (D := (dC, dI)) (ci := 0) (v := .ref q3) (ty := .array .int) (C := RX1) (T := TX1) (N := 14) hx hb hts inlX1 tyX1 tyX1_ok nmX1 hown hK hP hD hS 0 rfl rfl 3 (by decide) (hts (.fieldLink RX1 15 "ClosedUntil$Holdings" "depositDay" "[I") qw_120) (fun _ h9 => h9) rfl hin rfl (by decide +kernel) rfl rfl (Nat.le_of_ble_eq_true rfl) dX1_init_16 (fun H locs hP hD hS => ?_)
  have hP : va_P (dC, dI) vwCl [(h0, .inr (0, [.int 0, .ref q1, .int 0, .ref q3, .int 0, .null, .null, .null, .int 0, .null, .null, .null, .null, .null])), (q1, .inl (cA2, 8, .inl (fun _ => 0))), (q3, .inl (cA4, 4, .inl (fun _ => 0)))] H := hP
  have hD : va_D A [(h0, .inr (0, [.int 0, .ref q1, .int 0, .ref q3, .int 0, .null, .null, .null, .int 0, .null, .null, .null, .null, .null])), (q1, .inl (cA2, 8, .inl (fun _ => 0))), (q3, .inl (cA4, 4, .inl (fun _ => 0)))] := hD
  refine lv_aload_n hx hb dX1_init_19 rfl (lv_at hl 0 rfl) ?_
  refine lv_bipush (v := 24) hx hb dX1_init_20 (by decide) ?_
  refine va_newa (atype := .int) (ty := .int) (a0 := (24, .inl (fun _ => 0))) (N' := 24) hx hb (hts (.arrayClass .int) qw_106) rfl hK hP hD hS hA (fun _ => rfl) (by decide) (by decide) (Nat.le_of_ble_eq_true rfl) (Nat.le_of_ble_eq_true rfl) (Nat.le_of_ble_eq_true rfl) dX1_init_22 (fun q5 cA6 H hK hP hD hS => ?_)
  have hK : va_K (dC, dI) vwCl [(cA2, .int), (cA4, .int), (cA6, .int)] s := hK
  have hP : va_P (dC, dI) vwCl [(h0, .inr (0, [.int 0, .ref q1, .int 0, .ref q3, .int 0, .null, .null, .null, .int 0, .null, .null, .null, .null, .null])), (q1, .inl (cA2, 8, .inl (fun _ => 0))), (q3, .inl (cA4, 4, .inl (fun _ => 0))), (q5, .inl (cA6, 24, .inl (fun _ => 0)))] H := hP
  have hD : va_D A [(h0, .inr (0, [.int 0, .ref q1, .int 0, .ref q3, .int 0, .null, .null, .null, .int 0, .null, .null, .null, .null, .null])), (q1, .inl (cA2, 8, .inl (fun _ => 0))), (q3, .inl (cA4, 4, .inl (fun _ => 0))), (q5, .inl (cA6, 24, .inl (fun _ => 0)))] := hD
  refine W.widen (k := 3) (n := 36) (Nat.le_of_ble_eq_true rfl) (Nat.le_of_ble_eq_true rfl) ?_
  refine va_putF (D := (dC, dI)) (ci := 0) (v := .ref q5) (ty := .array .int) (C := RX1) (T := TX1) (N := 14) hx hb hts inlX1 tyX1 tyX1_ok nmX1 hown hK hP hD hS 0 rfl rfl 5 (by decide) (hts (.fieldLink RX1 18 "ClosedUntil$Holdings" "lastDay" "[I") qw_121) (fun _ h9 => h9) rfl hin rfl (by decide +kernel) rfl rfl (Nat.le_of_ble_eq_true rfl) dX1_init_24 (fun H locs hP hD hS => ?_)
  have hP : va_P (dC, dI) vwCl [(h0, .inr (0, [.int 0, .ref q1, .int 0, .ref q3, .int 0, .ref q5, .null, .null, .int 0, .null, .null, .null, .null, .null])), (q1, .inl (cA2, 8, .inl (fun _ => 0))), (q3, .inl (cA4, 4, .inl (fun _ => 0))), (q5, .inl (cA6, 24, .inl (fun _ => 0)))] H := hP
  have hD : va_D A [(h0, .inr (0, [.int 0, .ref q1, .int 0, .ref q3, .int 0, .ref q5, .null, .null, .int 0, .null, .null, .null, .null, .null])), (q1, .inl (cA2, 8, .inl (fun _ => 0))), (q3, .inl (cA4, 4, .inl (fun _ => 0))), (q5, .inl (cA6, 24, .inl (fun _ => 0)))] := hD
  refine lv_aload_n hx hb dX1_init_27 rfl (lv_at hl 0 rfl) ?_
  refine lv_bipush (v := 24) hx hb dX1_init_28 (by decide) ?_
  refine va_newa (atype := .int) (ty := .int) (a0 := (24, .inl (fun _ => 0))) (N' := 24) hx hb (hts (.arrayClass .int) qw_106) rfl hK hP hD hS hA (fun _ => rfl) (by decide) (by decide) (Nat.le_of_ble_eq_true rfl) (Nat.le_of_ble_eq_true rfl) (Nat.le_of_ble_eq_true rfl) dX1_init_30 (fun q7 cA8 H hK hP hD hS => ?_)
  have hK : va_K (dC, dI) vwCl [(cA2, .int), (cA4, .int), (cA6, .int), (cA8, .int)] s := hK
  have hP : va_P (dC, dI) vwCl [(h0, .inr (0, [.int 0, .ref q1, .int 0, .ref q3, .int 0, .ref q5, .null, .null, .int 0, .null, .null, .null, .null, .null])), (q1, .inl (cA2, 8, .inl (fun _ => 0))), (q3, .inl (cA4, 4, .inl (fun _ => 0))), (q5, .inl (cA6, 24, .inl (fun _ => 0))), (q7, .inl (cA8, 24, .inl (fun _ => 0)))] H := hP
  have hD : va_D A [(h0, .inr (0, [.int 0, .ref q1, .int 0, .ref q3, .int 0, .ref q5, .null, .null, .int 0, .null, .null, .null, .null, .null])), (q1, .inl (cA2, 8, .inl (fun _ => 0))), (q3, .inl (cA4, 4, .inl (fun _ => 0))), (q5, .inl (cA6, 24, .inl (fun _ => 0))), (q7, .inl (cA8, 24, .inl (fun _ => 0)))] := hD
  refine W.widen (k := 4) (n := 60) (Nat.le_of_ble_eq_true rfl) (Nat.le_of_ble_eq_true rfl) ?_
  refine va_putF (D := (dC, dI)) (ci := 0) (v := .ref q7) (ty := .array .int) (C := RX1) (T := TX1) (N := 14) hx hb hts inlX1 tyX1 tyX1_ok nmX1 hown hK hP hD hS 0 rfl rfl 6 (by decide) (hts (.fieldLink RX1 21 "ClosedUntil$Holdings" "peopleOf" "[I") qw_122) (fun _ h9 => h9) rfl hin rfl (by decide +kernel) rfl rfl (Nat.le_of_ble_eq_true rfl) dX1_init_32 (fun H locs hP hD hS => ?_)
  have hP : va_P (dC, dI) vwCl [(h0, .inr (0, [.int 0, .ref q1, .int 0, .ref q3, .int 0, .ref q5, .ref q7, .null, .int 0, .null, .null, .null, .null, .null])), (q1, .inl (cA2, 8, .inl (fun _ => 0))), (q3, .inl (cA4, 4, .inl (fun _ => 0))), (q5, .inl (cA6, 24, .inl (fun _ => 0))), (q7, .inl (cA8, 24, .inl (fun _ => 0)))] H := hP
  have hD : va_D A [(h0, .inr (0, [.int 0, .ref q1, .int 0, .ref q3, .int 0, .ref q5, .ref q7, .null, .int 0, .null, .null, .null, .null, .null])), (q1, .inl (cA2, 8, .inl (fun _ => 0))), (q3, .inl (cA4, 4, .inl (fun _ => 0))), (q5, .inl (cA6, 24, .inl (fun _ => 0))), (q7, .inl (cA8, 24, .inl (fun _ => 0)))] := hD
  refine lv_aload_n hx hb dX1_init_35 rfl (lv_at hl 0 rfl) ?_
  refine lv_bipush (v := 24) hx hb dX1_init_36 (by decide) ?_
  refine va_newa (atype := .int) (ty := .int) (a0 := (24, .inl (fun _ => 0))) (N' := 24) hx hb (hts (.arrayClass .int) qw_106) rfl hK hP hD hS hA (fun _ => rfl) (by decide) (by decide) (Nat.le_of_ble_eq_true rfl) (Nat.le_of_ble_eq_true rfl) (Nat.le_of_ble_eq_true rfl) dX1_init_38 (fun q9 cA10 H hK hP hD hS => ?_)
  have hK : va_K (dC, dI) vwCl [(cA2, .int), (cA4, .int), (cA6, .int), (cA8, .int), (cA10, .int)] s := hK
  have hP : va_P (dC, dI) vwCl [(h0, .inr (0, [.int 0, .ref q1, .int 0, .ref q3, .int 0, .ref q5, .ref q7, .null, .int 0, .null, .null, .null, .null, .null])), (q1, .inl (cA2, 8, .inl (fun _ => 0))), (q3, .inl (cA4, 4, .inl (fun _ => 0))), (q5, .inl (cA6, 24, .inl (fun _ => 0))), (q7, .inl (cA8, 24, .inl (fun _ => 0))), (q9, .inl (cA10, 24, .inl (fun _ => 0)))] H := hP
  have hD : va_D A [(h0, .inr (0, [.int 0, .ref q1, .int 0, .ref q3, .int 0, .ref q5, .ref q7, .null, .int 0, .null, .null, .null, .null, .null])), (q1, .inl (cA2, 8, .inl (fun _ => 0))), (q3, .inl (cA4, 4, .inl (fun _ => 0))), (q5, .inl (cA6, 24, .inl (fun _ => 0))), (q7, .inl (cA8, 24, .inl (fun _ => 0))), (q9, .inl (cA10, 24, .inl (fun _ => 0)))] := hD
  refine W.widen (k := 5) (n := 84) (Nat.le_of_ble_eq_true rfl) (Nat.le_of_ble_eq_true rfl) ?_
  refine va_putF (D := (dC, dI)) (ci := 0) (v := .ref q9) (ty := .array .int) (C := RX1) (T := TX1) (N := 14) hx hb hts inlX1 tyX1 tyX1_ok nmX1 hown hK hP hD hS 0 rfl rfl 7 (by decide) (hts (.fieldLink RX1 24 "ClosedUntil$Holdings" "depositOf" "[I") qw_123) (fun _ h9 => h9) rfl hin rfl (by decide +kernel) rfl rfl (Nat.le_of_ble_eq_true rfl) dX1_init_40 (fun H locs hP hD hS => ?_)
  have hP : va_P (dC, dI) vwCl [(h0, .inr (0, [.int 0, .ref q1, .int 0, .ref q3, .int 0, .ref q5, .ref q7, .ref q9, .int 0, .null, .null, .null, .null, .null])), (q1, .inl (cA2, 8, .inl (fun _ => 0))), (q3, .inl (cA4, 4, .inl (fun _ => 0))), (q5, .inl (cA6, 24, .inl (fun _ => 0))), (q7, .inl (cA8, 24, .inl (fun _ => 0))), (q9, .inl (cA10, 24, .inl (fun _ => 0)))] H := hP
  have hD : va_D A [(h0, .inr (0, [.int 0, .ref q1, .int 0, .ref q3, .int 0, .ref q5, .ref q7, .ref q9, .int 0, .null, .null, .null, .null, .null])), (q1, .inl (cA2, 8, .inl (fun _ => 0))), (q3, .inl (cA4, 4, .inl (fun _ => 0))), (q5, .inl (cA6, 24, .inl (fun _ => 0))), (q7, .inl (cA8, 24, .inl (fun _ => 0))), (q9, .inl (cA10, 24, .inl (fun _ => 0)))] := hD
  refine lv_aload_n hx hb dX1_init_43 rfl (lv_at hl 0 rfl) ?_
  refine lv_bipush (v := 12) hx hb dX1_init_44 (by decide) ?_
  refine va_newa (atype := .int) (ty := .int) (a0 := (12, .inl (fun _ => 0))) (N' := 12) hx hb (hts (.arrayClass .int) qw_106) rfl hK hP hD hS hA (fun _ => rfl) (by decide) (by decide) (Nat.le_of_ble_eq_true rfl) (Nat.le_of_ble_eq_true rfl) (Nat.le_of_ble_eq_true rfl) dX1_init_46 (fun q11 cA12 H hK hP hD hS => ?_)
  have hK : va_K (dC, dI) vwCl [(cA2, .int), (cA4, .int), (cA6, .int), (cA8, .int), (cA10, .int), (cA12, .int)] s := hK
  have hP : va_P (dC, dI) vwCl [(h0, .inr (0, [.int 0, .ref q1, .int 0, .ref q3, .int 0, .ref q5, .ref q7, .ref q9, .int 0, .null, .null, .null, .null, .null])), (q1, .inl (cA2, 8, .inl (fun _ => 0))), (q3, .inl (cA4, 4, .inl (fun _ => 0))), (q5, .inl (cA6, 24, .inl (fun _ => 0))), (q7, .inl (cA8, 24, .inl (fun _ => 0))), (q9, .inl (cA10, 24, .inl (fun _ => 0))), (q11, .inl (cA12, 12, .inl (fun _ => 0)))] H := hP
  have hD : va_D A [(h0, .inr (0, [.int 0, .ref q1, .int 0, .ref q3, .int 0, .ref q5, .ref q7, .ref q9, .int 0, .null, .null, .null, .null, .null])), (q1, .inl (cA2, 8, .inl (fun _ => 0))), (q3, .inl (cA4, 4, .inl (fun _ => 0))), (q5, .inl (cA6, 24, .inl (fun _ => 0))), (q7, .inl (cA8, 24, .inl (fun _ => 0))), (q9, .inl (cA10, 24, .inl (fun _ => 0))), (q11, .inl (cA12, 12, .inl (fun _ => 0)))] := hD
  refine W.widen (k := 6) (n := 96) (Nat.le_of_ble_eq_true rfl) (Nat.le_of_ble_eq_true rfl) ?_
  refine va_putF (D := (dC, dI)) (ci := 0) (v := .ref q11) (ty := .array .int) (C := RX1) (T := TX1) (N := 14) hx hb hts inlX1 tyX1 tyX1_ok nmX1 hown hK hP hD hS 0 rfl rfl 9 (by decide) (hts (.fieldLink RX1 27 "ClosedUntil$Holdings" "sort" "[I") qw_124) (fun _ h9 => h9) rfl hin rfl (by decide +kernel) rfl rfl (Nat.le_of_ble_eq_true rfl) dX1_init_48 (fun H locs hP hD hS => ?_)
  have hP : va_P (dC, dI) vwCl [(h0, .inr (0, [.int 0, .ref q1, .int 0, .ref q3, .int 0, .ref q5, .ref q7, .ref q9, .int 0, .ref q11, .null, .null, .null, .null])), (q1, .inl (cA2, 8, .inl (fun _ => 0))), (q3, .inl (cA4, 4, .inl (fun _ => 0))), (q5, .inl (cA6, 24, .inl (fun _ => 0))), (q7, .inl (cA8, 24, .inl (fun _ => 0))), (q9, .inl (cA10, 24, .inl (fun _ => 0))), (q11, .inl (cA12, 12, .inl (fun _ => 0)))] H := hP
  have hD : va_D A [(h0, .inr (0, [.int 0, .ref q1, .int 0, .ref q3, .int 0, .ref q5, .ref q7, .ref q9, .int 0, .ref q11, .null, .null, .null, .null])), (q1, .inl (cA2, 8, .inl (fun _ => 0))), (q3, .inl (cA4, 4, .inl (fun _ => 0))), (q5, .inl (cA6, 24, .inl (fun _ => 0))), (q7, .inl (cA8, 24, .inl (fun _ => 0))), (q9, .inl (cA10, 24, .inl (fun _ => 0))), (q11, .inl (cA12, 12, .inl (fun _ => 0)))] := hD
  refine lv_aload_n hx hb dX1_init_51 rfl (lv_at hl 0 rfl) ?_
  refine lv_bipush (v := 12) hx hb dX1_init_52 (by decide) ?_
  refine va_newa (atype := .int) (ty := .int) (a0 := (12, .inl (fun _ => 0))) (N' := 12) hx hb (hts (.arrayClass .int) qw_106) rfl hK hP hD hS hA (fun _ => rfl) (by decide) (by decide) (Nat.le_of_ble_eq_true rfl) (Nat.le_of_ble_eq_true rfl) (Nat.le_of_ble_eq_true rfl) dX1_init_54 (fun q13 cA14 H hK hP hD hS => ?_)
  have hK : va_K (dC, dI) vwCl [(cA2, .int), (cA4, .int), (cA6, .int), (cA8, .int), (cA10, .int), (cA12, .int), (cA14, .int)] s := hK
  have hP : va_P (dC, dI) vwCl [(h0, .inr (0, [.int 0, .ref q1, .int 0, .ref q3, .int 0, .ref q5, .ref q7, .ref q9, .int 0, .ref q11, .null, .null, .null, .null])), (q1, .inl (cA2, 8, .inl (fun _ => 0))), (q3, .inl (cA4, 4, .inl (fun _ => 0))), (q5, .inl (cA6, 24, .inl (fun _ => 0))), (q7, .inl (cA8, 24, .inl (fun _ => 0))), (q9, .inl (cA10, 24, .inl (fun _ => 0))), (q11, .inl (cA12, 12, .inl (fun _ => 0))), (q13, .inl (cA14, 12, .inl (fun _ => 0)))] H := hP
  have hD : va_D A [(h0, .inr (0, [.int 0, .ref q1, .int 0, .ref q3, .int 0, .ref q5, .ref q7, .ref q9, .int 0, .ref q11, .null, .null, .null, .null])), (q1, .inl (cA2, 8, .inl (fun _ => 0))), (q3, .inl (cA4, 4, .inl (fun _ => 0))), (q5, .inl (cA6, 24, .inl (fun _ => 0))), (q7, .inl (cA8, 24, .inl (fun _ => 0))), (q9, .inl (cA10, 24, .inl (fun _ => 0))), (q11, .inl (cA12, 12, .inl (fun _ => 0))), (q13, .inl (cA14, 12, .inl (fun _ => 0)))] := hD
  refine W.widen (k := 7) (n := 108) (Nat.le_of_ble_eq_true rfl) (Nat.le_of_ble_eq_true rfl) ?_
  refine va_putF (D := (dC, dI)) (ci := 0) (v := .ref q13) (ty := .array .int) (C := RX1) (T := TX1) (N := 14) hx hb hts inlX1 tyX1 tyX1_ok nmX1 hown hK hP hD hS 0 rfl rfl 10 (by decide) (hts (.fieldLink RX1 30 "ClosedUntil$Holdings" "subject" "[I") qw_125) (fun _ h9 => h9) rfl hin rfl (by decide +kernel) rfl rfl (Nat.le_of_ble_eq_true rfl) dX1_init_56 (fun H locs hP hD hS => ?_)
  have hP : va_P (dC, dI) vwCl [(h0, .inr (0, [.int 0, .ref q1, .int 0, .ref q3, .int 0, .ref q5, .ref q7, .ref q9, .int 0, .ref q11, .ref q13, .null, .null, .null])), (q1, .inl (cA2, 8, .inl (fun _ => 0))), (q3, .inl (cA4, 4, .inl (fun _ => 0))), (q5, .inl (cA6, 24, .inl (fun _ => 0))), (q7, .inl (cA8, 24, .inl (fun _ => 0))), (q9, .inl (cA10, 24, .inl (fun _ => 0))), (q11, .inl (cA12, 12, .inl (fun _ => 0))), (q13, .inl (cA14, 12, .inl (fun _ => 0)))] H := hP
  have hD : va_D A [(h0, .inr (0, [.int 0, .ref q1, .int 0, .ref q3, .int 0, .ref q5, .ref q7, .ref q9, .int 0, .ref q11, .ref q13, .null, .null, .null])), (q1, .inl (cA2, 8, .inl (fun _ => 0))), (q3, .inl (cA4, 4, .inl (fun _ => 0))), (q5, .inl (cA6, 24, .inl (fun _ => 0))), (q7, .inl (cA8, 24, .inl (fun _ => 0))), (q9, .inl (cA10, 24, .inl (fun _ => 0))), (q11, .inl (cA12, 12, .inl (fun _ => 0))), (q13, .inl (cA14, 12, .inl (fun _ => 0)))] := hD
  refine lv_aload_n hx hb dX1_init_59 rfl (lv_at hl 0 rfl) ?_
  refine lv_bipush (v := 12) hx hb dX1_init_60 (by decide) ?_
  refine va_newa (atype := .boolean) (ty := .boolean) (a0 := (12, .inl (fun _ => 0))) (N' := 12) hx hb (hts (.arrayClass .boolean) qw_126) rfl hK hP hD hS hA (fun _ => rfl) (by decide) (by decide) (Nat.le_of_ble_eq_true rfl) (Nat.le_of_ble_eq_true rfl) (Nat.le_of_ble_eq_true rfl) dX1_init_62 (fun q15 cA16 H hK hP hD hS => ?_)
  have hK : va_K (dC, dI) vwCl [(cA2, .int), (cA4, .int), (cA6, .int), (cA8, .int), (cA10, .int), (cA12, .int), (cA14, .int), (cA16, .boolean)] s := hK
  have hP : va_P (dC, dI) vwCl [(h0, .inr (0, [.int 0, .ref q1, .int 0, .ref q3, .int 0, .ref q5, .ref q7, .ref q9, .int 0, .ref q11, .ref q13, .null, .null, .null])), (q1, .inl (cA2, 8, .inl (fun _ => 0))), (q3, .inl (cA4, 4, .inl (fun _ => 0))), (q5, .inl (cA6, 24, .inl (fun _ => 0))), (q7, .inl (cA8, 24, .inl (fun _ => 0))), (q9, .inl (cA10, 24, .inl (fun _ => 0))), (q11, .inl (cA12, 12, .inl (fun _ => 0))), (q13, .inl (cA14, 12, .inl (fun _ => 0))), (q15, .inl (cA16, 12, .inl (fun _ => 0)))] H := hP
  have hD : va_D A [(h0, .inr (0, [.int 0, .ref q1, .int 0, .ref q3, .int 0, .ref q5, .ref q7, .ref q9, .int 0, .ref q11, .ref q13, .null, .null, .null])), (q1, .inl (cA2, 8, .inl (fun _ => 0))), (q3, .inl (cA4, 4, .inl (fun _ => 0))), (q5, .inl (cA6, 24, .inl (fun _ => 0))), (q7, .inl (cA8, 24, .inl (fun _ => 0))), (q9, .inl (cA10, 24, .inl (fun _ => 0))), (q11, .inl (cA12, 12, .inl (fun _ => 0))), (q13, .inl (cA14, 12, .inl (fun _ => 0))), (q15, .inl (cA16, 12, .inl (fun _ => 0)))] := hD
  refine W.widen (k := 8) (n := 120) (Nat.le_of_ble_eq_true rfl) (Nat.le_of_ble_eq_true rfl) ?_
  refine va_putF (D := (dC, dI)) (ci := 0) (v := .ref q15) (ty := .array .boolean) (C := RX1) (T := TX1) (N := 14) hx hb hts inlX1 tyX1 tyX1_ok nmX1 hown hK hP hD hS 0 rfl rfl 11 (by decide) (hts (.fieldLink RX1 33 "ClosedUntil$Holdings" "whole" "[Z") qw_127) (fun _ h9 => h9) rfl hin rfl (by decide +kernel) rfl rfl (Nat.le_of_ble_eq_true rfl) dX1_init_64 (fun H locs hP hD hS => ?_)
  have hP : va_P (dC, dI) vwCl [(h0, .inr (0, [.int 0, .ref q1, .int 0, .ref q3, .int 0, .ref q5, .ref q7, .ref q9, .int 0, .ref q11, .ref q13, .ref q15, .null, .null])), (q1, .inl (cA2, 8, .inl (fun _ => 0))), (q3, .inl (cA4, 4, .inl (fun _ => 0))), (q5, .inl (cA6, 24, .inl (fun _ => 0))), (q7, .inl (cA8, 24, .inl (fun _ => 0))), (q9, .inl (cA10, 24, .inl (fun _ => 0))), (q11, .inl (cA12, 12, .inl (fun _ => 0))), (q13, .inl (cA14, 12, .inl (fun _ => 0))), (q15, .inl (cA16, 12, .inl (fun _ => 0)))] H := hP
  have hD : va_D A [(h0, .inr (0, [.int 0, .ref q1, .int 0, .ref q3, .int 0, .ref q5, .ref q7, .ref q9, .int 0, .ref q11, .ref q13, .ref q15, .null, .null])), (q1, .inl (cA2, 8, .inl (fun _ => 0))), (q3, .inl (cA4, 4, .inl (fun _ => 0))), (q5, .inl (cA6, 24, .inl (fun _ => 0))), (q7, .inl (cA8, 24, .inl (fun _ => 0))), (q9, .inl (cA10, 24, .inl (fun _ => 0))), (q11, .inl (cA12, 12, .inl (fun _ => 0))), (q13, .inl (cA14, 12, .inl (fun _ => 0))), (q15, .inl (cA16, 12, .inl (fun _ => 0)))] := hD
  refine lv_aload_n hx hb dX1_init_67 rfl (lv_at hl 0 rfl) ?_
  refine lv_bipush (v := 12) hx hb dX1_init_68 (by decide) ?_
  refine lv_iconst (v := 3) hx hb dX1_init_70 (by decide) ?_
  refine mna (cy := g.2.2.2.2) (N' := 12) (K' := 3) hx hb hown (hts (.classLink RX1 37 "[[I") qw_128) hE.2.2.2.2.2.2.2.2.2.2.1 (hts (.arrayClass .int) qw_106) hE.2.2.2.2.2.2.2.2.2.2.2.2 hK hP hD hS hA (by decide) (by decide) (by decide) (by decide) (Nat.le_of_ble_eq_true rfl) (Nat.le_of_ble_eq_true rfl) (Nat.le_of_ble_eq_true rfl) (Nat.le_of_ble_eq_true rfl) dX1_init_71 (fun q17 gf18 rw19 cA20 H hro21 hgr22 hK hP hD hS => ?_)
  have hP := hP.pre
  have hD := hD.pre
  have hK : va_K (dC, dI) vwCl [(cA2, .int), (cA4, .int), (cA6, .int), (cA8, .int), (cA10, .int), (cA12, .int), (cA14, .int), (cA16, .boolean), (cA20, .array .int)] s := hK
  have hP : va_P (dC, dI) vwCl [(h0, .inr (0, [.int 0, .ref q1, .int 0, .ref q3, .int 0, .ref q5, .ref q7, .ref q9, .int 0, .ref q11, .ref q13, .ref q15, .null, .null])), (q1, .inl (cA2, 8, .inl (fun _ => 0))), (q3, .inl (cA4, 4, .inl (fun _ => 0))), (q5, .inl (cA6, 24, .inl (fun _ => 0))), (q7, .inl (cA8, 24, .inl (fun _ => 0))), (q9, .inl (cA10, 24, .inl (fun _ => 0))), (q11, .inl (cA12, 12, .inl (fun _ => 0))), (q13, .inl (cA14, 12, .inl (fun _ => 0))), (q15, .inl (cA16, 12, .inl (fun _ => 0))), (q17, .inl (cA20, 12, .inr (.inr (.inr (.inr gf18)))))] H := hP
  have hD : va_D A [(h0, .inr (0, [.int 0, .ref q1, .int 0, .ref q3, .int 0, .ref q5, .ref q7, .ref q9, .int 0, .ref q11, .ref q13, .ref q15, .null, .null])), (q1, .inl (cA2, 8, .inl (fun _ => 0))), (q3, .inl (cA4, 4, .inl (fun _ => 0))), (q5, .inl (cA6, 24, .inl (fun _ => 0))), (q7, .inl (cA8, 24, .inl (fun _ => 0))), (q9, .inl (cA10, 24, .inl (fun _ => 0))), (q11, .inl (cA12, 12, .inl (fun _ => 0))), (q13, .inl (cA14, 12, .inl (fun _ => 0))), (q15, .inl (cA16, 12, .inl (fun _ => 0))), (q17, .inl (cA20, 12, .inr (.inr (.inr (.inr gf18)))))] := hD
  refine W.widen (k := 21) (n := 168) (Nat.le_of_ble_eq_true rfl) (Nat.le_of_ble_eq_true rfl) ?_
  refine va_putF (D := (dC, dI)) (ci := 0) (v := .ref q17) (ty := .array (.array .int)) (C := RX1) (T := TX1) (N := 14) hx hb hts inlX1 tyX1 tyX1_ok nmX1 hown hK hP hD hS 0 rfl rfl 12 (by decide) (hts (.fieldLink RX1 39 "ClosedUntil$Holdings" "years" "[[I") qw_129) (fun _ h9 => h9) rfl hin rfl (by decide +kernel) rfl rfl (Nat.le_of_ble_eq_true rfl) dX1_init_75 (fun H locs hP hD hS => ?_)
  have hP : va_P (dC, dI) vwCl [(h0, .inr (0, [.int 0, .ref q1, .int 0, .ref q3, .int 0, .ref q5, .ref q7, .ref q9, .int 0, .ref q11, .ref q13, .ref q15, .ref q17, .null])), (q1, .inl (cA2, 8, .inl (fun _ => 0))), (q3, .inl (cA4, 4, .inl (fun _ => 0))), (q5, .inl (cA6, 24, .inl (fun _ => 0))), (q7, .inl (cA8, 24, .inl (fun _ => 0))), (q9, .inl (cA10, 24, .inl (fun _ => 0))), (q11, .inl (cA12, 12, .inl (fun _ => 0))), (q13, .inl (cA14, 12, .inl (fun _ => 0))), (q15, .inl (cA16, 12, .inl (fun _ => 0))), (q17, .inl (cA20, 12, .inr (.inr (.inr (.inr gf18)))))] H := hP
  have hD : va_D A [(h0, .inr (0, [.int 0, .ref q1, .int 0, .ref q3, .int 0, .ref q5, .ref q7, .ref q9, .int 0, .ref q11, .ref q13, .ref q15, .ref q17, .null])), (q1, .inl (cA2, 8, .inl (fun _ => 0))), (q3, .inl (cA4, 4, .inl (fun _ => 0))), (q5, .inl (cA6, 24, .inl (fun _ => 0))), (q7, .inl (cA8, 24, .inl (fun _ => 0))), (q9, .inl (cA10, 24, .inl (fun _ => 0))), (q11, .inl (cA12, 12, .inl (fun _ => 0))), (q13, .inl (cA14, 12, .inl (fun _ => 0))), (q15, .inl (cA16, 12, .inl (fun _ => 0))), (q17, .inl (cA20, 12, .inr (.inr (.inr (.inr gf18)))))] := hD
  refine lv_aload_n hx hb dX1_init_78 rfl (lv_at hl 0 rfl) ?_
  refine lv_bipush (v := 12) hx hb dX1_init_79 (by decide) ?_
  refine va_newa (atype := .int) (ty := .int) (a0 := (12, .inl (fun _ => 0))) (N' := 12) hx hb (hts (.arrayClass .int) qw_106) rfl hK hP hD hS hA (fun _ => rfl) (by decide) (by decide) (Nat.le_of_ble_eq_true rfl) (Nat.le_of_ble_eq_true rfl) (Nat.le_of_ble_eq_true rfl) dX1_init_81 (fun q23 cA24 H hK hP hD hS => ?_)
  have hK : va_K (dC, dI) vwCl [(cA2, .int), (cA4, .int), (cA6, .int), (cA8, .int), (cA10, .int), (cA12, .int), (cA14, .int), (cA16, .boolean), (cA20, .array .int), (cA24, .int)] s := hK
  have hP : va_P (dC, dI) vwCl [(h0, .inr (0, [.int 0, .ref q1, .int 0, .ref q3, .int 0, .ref q5, .ref q7, .ref q9, .int 0, .ref q11, .ref q13, .ref q15, .ref q17, .null])), (q1, .inl (cA2, 8, .inl (fun _ => 0))), (q3, .inl (cA4, 4, .inl (fun _ => 0))), (q5, .inl (cA6, 24, .inl (fun _ => 0))), (q7, .inl (cA8, 24, .inl (fun _ => 0))), (q9, .inl (cA10, 24, .inl (fun _ => 0))), (q11, .inl (cA12, 12, .inl (fun _ => 0))), (q13, .inl (cA14, 12, .inl (fun _ => 0))), (q15, .inl (cA16, 12, .inl (fun _ => 0))), (q17, .inl (cA20, 12, .inr (.inr (.inr (.inr gf18))))), (q23, .inl (cA24, 12, .inl (fun _ => 0)))] H := hP
  have hD : va_D A [(h0, .inr (0, [.int 0, .ref q1, .int 0, .ref q3, .int 0, .ref q5, .ref q7, .ref q9, .int 0, .ref q11, .ref q13, .ref q15, .ref q17, .null])), (q1, .inl (cA2, 8, .inl (fun _ => 0))), (q3, .inl (cA4, 4, .inl (fun _ => 0))), (q5, .inl (cA6, 24, .inl (fun _ => 0))), (q7, .inl (cA8, 24, .inl (fun _ => 0))), (q9, .inl (cA10, 24, .inl (fun _ => 0))), (q11, .inl (cA12, 12, .inl (fun _ => 0))), (q13, .inl (cA14, 12, .inl (fun _ => 0))), (q15, .inl (cA16, 12, .inl (fun _ => 0))), (q17, .inl (cA20, 12, .inr (.inr (.inr (.inr gf18))))), (q23, .inl (cA24, 12, .inl (fun _ => 0)))] := hD
  refine W.widen (k := 22) (n := 180) (Nat.le_of_ble_eq_true rfl) (Nat.le_of_ble_eq_true rfl) ?_
  refine va_putF (D := (dC, dI)) (ci := 0) (v := .ref q23) (ty := .array .int) (C := RX1) (T := TX1) (N := 14) hx hb hts inlX1 tyX1 tyX1_ok nmX1 hown hK hP hD hS 0 rfl rfl 13 (by decide) (hts (.fieldLink RX1 42 "ClosedUntil$Holdings" "untilDay" "[I") qw_130) (fun _ h9 => h9) rfl hin rfl (by decide +kernel) rfl rfl (Nat.le_of_ble_eq_true rfl) dX1_init_83 (fun H locs hP hD hS => ?_)
  have hP : va_P (dC, dI) vwCl [(h0, .inr (0, [.int 0, .ref q1, .int 0, .ref q3, .int 0, .ref q5, .ref q7, .ref q9, .int 0, .ref q11, .ref q13, .ref q15, .ref q17, .ref q23])), (q1, .inl (cA2, 8, .inl (fun _ => 0))), (q3, .inl (cA4, 4, .inl (fun _ => 0))), (q5, .inl (cA6, 24, .inl (fun _ => 0))), (q7, .inl (cA8, 24, .inl (fun _ => 0))), (q9, .inl (cA10, 24, .inl (fun _ => 0))), (q11, .inl (cA12, 12, .inl (fun _ => 0))), (q13, .inl (cA14, 12, .inl (fun _ => 0))), (q15, .inl (cA16, 12, .inl (fun _ => 0))), (q17, .inl (cA20, 12, .inr (.inr (.inr (.inr gf18))))), (q23, .inl (cA24, 12, .inl (fun _ => 0)))] H := hP
  have hD : va_D A [(h0, .inr (0, [.int 0, .ref q1, .int 0, .ref q3, .int 0, .ref q5, .ref q7, .ref q9, .int 0, .ref q11, .ref q13, .ref q15, .ref q17, .ref q23])), (q1, .inl (cA2, 8, .inl (fun _ => 0))), (q3, .inl (cA4, 4, .inl (fun _ => 0))), (q5, .inl (cA6, 24, .inl (fun _ => 0))), (q7, .inl (cA8, 24, .inl (fun _ => 0))), (q9, .inl (cA10, 24, .inl (fun _ => 0))), (q11, .inl (cA12, 12, .inl (fun _ => 0))), (q13, .inl (cA14, 12, .inl (fun _ => 0))), (q15, .inl (cA16, 12, .inl (fun _ => 0))), (q17, .inl (cA20, 12, .inr (.inr (.inr (.inr gf18))))), (q23, .inl (cA24, 12, .inl (fun _ => 0)))] := hD
  refine W.widen (k := 22) (n := 192) (Nat.le_of_ble_eq_true rfl) (Nat.le_of_ble_eq_true rfl) ?_
  have hP9 := hP.sub (ws' := [(h0, .inr (0, [.int 0, .ref ((fun k => match k with | 1 => q1 | 3 => q3 | 5 => q5 | 6 => q7 | 7 => q9 | 9 => q11 | 10 => q13 | 11 => q15 | 12 => q17 | 13 => q23 | _ => 0) 1), .int 0, .ref ((fun k => match k with | 1 => q1 | 3 => q3 | 5 => q5 | 6 => q7 | 7 => q9 | 9 => q11 | 10 => q13 | 11 => q15 | 12 => q17 | 13 => q23 | _ => 0) 3), .int 0, .ref ((fun k => match k with | 1 => q1 | 3 => q3 | 5 => q5 | 6 => q7 | 7 => q9 | 9 => q11 | 10 => q13 | 11 => q15 | 12 => q17 | 13 => q23 | _ => 0) 5), .ref ((fun k => match k with | 1 => q1 | 3 => q3 | 5 => q5 | 6 => q7 | 7 => q9 | 9 => q11 | 10 => q13 | 11 => q15 | 12 => q17 | 13 => q23 | _ => 0) 6), .ref ((fun k => match k with | 1 => q1 | 3 => q3 | 5 => q5 | 6 => q7 | 7 => q9 | 9 => q11 | 10 => q13 | 11 => q15 | 12 => q17 | 13 => q23 | _ => 0) 7), .int 0, .ref ((fun k => match k with | 1 => q1 | 3 => q3 | 5 => q5 | 6 => q7 | 7 => q9 | 9 => q11 | 10 => q13 | 11 => q15 | 12 => q17 | 13 => q23 | _ => 0) 9), .ref ((fun k => match k with | 1 => q1 | 3 => q3 | 5 => q5 | 6 => q7 | 7 => q9 | 9 => q11 | 10 => q13 | 11 => q15 | 12 => q17 | 13 => q23 | _ => 0) 10), .ref ((fun k => match k with | 1 => q1 | 3 => q3 | 5 => q5 | 6 => q7 | 7 => q9 | 9 => q11 | 10 => q13 | 11 => q15 | 12 => q17 | 13 => q23 | _ => 0) 11), .ref ((fun k => match k with | 1 => q1 | 3 => q3 | 5 => q5 | 6 => q7 | 7 => q9 | 9 => q11 | 10 => q13 | 11 => q15 | 12 => q17 | 13 => q23 | _ => 0) 12), .ref ((fun k => match k with | 1 => q1 | 3 => q3 | 5 => q5 | 6 => q7 | 7 => q9 | 9 => q11 | 10 => q13 | 11 => q15 | 12 => q17 | 13 => q23 | _ => 0) 13)]))]) [0] rfl
  have hD9 := hD.sub (ws' := [(h0, .inr (0, [.int 0, .ref ((fun k => match k with | 1 => q1 | 3 => q3 | 5 => q5 | 6 => q7 | 7 => q9 | 9 => q11 | 10 => q13 | 11 => q15 | 12 => q17 | 13 => q23 | _ => 0) 1), .int 0, .ref ((fun k => match k with | 1 => q1 | 3 => q3 | 5 => q5 | 6 => q7 | 7 => q9 | 9 => q11 | 10 => q13 | 11 => q15 | 12 => q17 | 13 => q23 | _ => 0) 3), .int 0, .ref ((fun k => match k with | 1 => q1 | 3 => q3 | 5 => q5 | 6 => q7 | 7 => q9 | 9 => q11 | 10 => q13 | 11 => q15 | 12 => q17 | 13 => q23 | _ => 0) 5), .ref ((fun k => match k with | 1 => q1 | 3 => q3 | 5 => q5 | 6 => q7 | 7 => q9 | 9 => q11 | 10 => q13 | 11 => q15 | 12 => q17 | 13 => q23 | _ => 0) 6), .ref ((fun k => match k with | 1 => q1 | 3 => q3 | 5 => q5 | 6 => q7 | 7 => q9 | 9 => q11 | 10 => q13 | 11 => q15 | 12 => q17 | 13 => q23 | _ => 0) 7), .int 0, .ref ((fun k => match k with | 1 => q1 | 3 => q3 | 5 => q5 | 6 => q7 | 7 => q9 | 9 => q11 | 10 => q13 | 11 => q15 | 12 => q17 | 13 => q23 | _ => 0) 9), .ref ((fun k => match k with | 1 => q1 | 3 => q3 | 5 => q5 | 6 => q7 | 7 => q9 | 9 => q11 | 10 => q13 | 11 => q15 | 12 => q17 | 13 => q23 | _ => 0) 10), .ref ((fun k => match k with | 1 => q1 | 3 => q3 | 5 => q5 | 6 => q7 | 7 => q9 | 9 => q11 | 10 => q13 | 11 => q15 | 12 => q17 | 13 => q23 | _ => 0) 11), .ref ((fun k => match k with | 1 => q1 | 3 => q3 | 5 => q5 | 6 => q7 | 7 => q9 | 9 => q11 | 10 => q13 | 11 => q15 | 12 => q17 | 13 => q23 | _ => 0) 12), .ref ((fun k => match k with | 1 => q1 | 3 => q3 | 5 => q5 | 6 => q7 | 7 => q9 | 9 => q11 | 10 => q13 | 11 => q15 | 12 => q17 | 13 => q23 | _ => 0) 13)]))]) [0] (by decide) rfl
  have hK9 := hK.sub (tys' := []) [] rfl
  exact W.vret hx hb hr (fun t ht hW => ⟨⟨((fun k => match k with | 1 => q1 | 3 => q3 | 5 => q5 | 6 => q7 | 7 => q9 | 9 => q11 | 10 => q13 | 11 => q15 | 12 => q17 | 13 => q23 | _ => 0)), rfl, (trivial), by rw [ht]; exact hP9, va_K.moved hW.alike hK9, hD9⟩, hS.F ht⟩) hS.2.2 dX1_init_86
set_option maxHeartbeats 4000000 in
set_option maxRecDepth 100000 in
theorem c_clr (l : Launch) (dC : Nat → ClassId) (dI : Nat → Nat → Nat) (g : Gv) (sz : Nat) (h0 : Nat) (f : Nat → Nat) (cf : Nat → ClassId) (pf : Nat → Int32) (df : Nat → Int32) (lf : Nat → Int32) (rf : Nat → Int32)  : Met l yX3_clear (.code yX3_clear cX3_clear 2 none :: TBL) ({ frames := 0, cells := 0, slots := 0, locals := 0 }) (va_Pc [.ref h0] (fun U => U.heap.size = sz ∧ va_P (dC, dI) vwCl [(h0, .inr (2, [.ref (f 0), .ref (f 1), .ref (f 2), .ref (f 3), .ref (f 4), .ref (f 5)])), ((f 0), .inl ((cf 0), 24, .inl pf)), ((f 1), .inl ((cf 1), 8, .inl df)), ((f 2), .inl ((cf 2), 12, .inl lf)), ((f 3), .inl ((cf 3), 12, .inl rf))] U.heap ∧ va_K (dC, dI) vwCl [((cf 0), .int), ((cf 1), .int), ((cf 2), .int), ((cf 3), .int)] U ∧ va_D (fun _ => True) [(h0, .inr (2, [.ref (f 0), .ref (f 1), .ref (f 2), .ref (f 3), .ref (f 4), .ref (f 5)])), ((f 0), .inl ((cf 0), 24, .inl pf)), ((f 1), .inl ((cf 1), 8, .inl df)), ((f 2), .inl ((cf 2), 12, .inl lf)), ((f 3), .inl ((cf 3), 12, .inl rf))] ∧ Ev g (va_A [(h0, .inr (2, [.ref (f 0), .ref (f 1), .ref (f 2), .ref (f 3), .ref (f 4), .ref (f 5)])), ((f 0), .inl ((cf 0), 24, .inl pf)), ((f 1), .inl ((cf 1), 8, .inl df)), ((f 2), .inl ((cf 2), 12, .inl lf)), ((f 3), .inl ((cf 3), 12, .inl rf))] sz) U)) (va_Qv (fun (u : (Nat → Int32) × (Nat → Int32) × (Nat → Int32) × (Nat → Int32)) => (∀ j, j < 12 → u.2.2.1 j = -1) ∧ (∀ j, j < 12 → u.2.2.2 j = 0)) (fun (u : (Nat → Int32) × (Nat → Int32) × (Nat → Int32) × (Nat → Int32)) (t : State) => va_P (dC, dI) vwCl [(h0, .inr (2, [.ref (f 0), .ref (f 1), .ref (f 2), .ref (f 3), .ref (f 4), .ref (f 5)])), ((f 0), .inl ((cf 0), 24, .inl u.1)), ((f 1), .inl ((cf 1), 8, .inl u.2.1)), ((f 2), .inl ((cf 2), 12, .inl u.2.2.1)), ((f 3), .inl ((cf 3), 12, .inl u.2.2.2))] t.heap ∧ va_K (dC, dI) vwCl [] t ∧ va_D (va_A [(h0, .inr (2, [.ref (f 0), .ref (f 1), .ref (f 2), .ref (f 3), .ref (f 4), .ref (f 5)])), ((f 0), .inl ((cf 0), 24, .inl pf)), ((f 1), .inl ((cf 1), 8, .inl df)), ((f 2), .inl ((cf 2), 12, .inl lf)), ((f 3), .inl ((cf 3), 12, .inl rf))] sz) [(h0, .inr (2, [.ref (f 0), .ref (f 1), .ref (f 2), .ref (f 3), .ref (f 4), .ref (f 5)])), ((f 0), .inl ((cf 0), 24, .inl u.1)), ((f 1), .inl ((cf 1), 8, .inl u.2.1)), ((f 2), .inl ((cf 2), 12, .inl u.2.2.1)), ((f 3), .inl ((cf 3), 12, .inl u.2.2.2))]) (va_A [(h0, .inr (2, [.ref (f 0), .ref (f 1), .ref (f 2), .ref (f 3), .ref (f 4), .ref (f 5)])), ((f 0), .inl ((cf 0), 24, .inl pf)), ((f 1), .inl ((cf 1), 8, .inl df)), ((f 2), .inl ((cf 2), 12, .inl lf)), ((f 3), .inl ((cf 3), 12, .inl rf))] sz)) 0 0 (va_A [(h0, .inr (2, [.ref (f 0), .ref (f 1), .ref (f 2), .ref (f 3), .ref (f 4), .ref (f 5)])), ((f 0), .inl ((cf 0), 24, .inl pf)), ((f 1), .inl ((cf 1), 8, .inl df)), ((f 2), .inl ((cf 2), 12, .inl lf)), ((f 3), .inl ((cf 3), 12, .inl rf))] sz) := by
  refine Met.ofW (cc := cX3_clear) (maxL := 2) (ret := none) (by decide) rfl ?_
  intro p e s m args below meth c s₁ B hml hv
  obtain ⟨rfl, hsz, hP, hK, hD0, hE⟩ := hv
  have hx := B.exec
  have hb := B.bytes
  have hr := B.returns
  have hts0 := atoms_spec (ws := (.code yX3_clear cX3_clear 2 none :: TBL)) B.pre
  have hts := fun (w : Cond) (h : w ∈ TBL) => hts0 w (List.mem_cons_of_mem _ h)
  have hown : s.vm.findClass RX3 = some m.cls := findClass_of_methodNamed B.named
  have hlocks := B.notSynchronized
  have hN := hE.1
  subst hsz
  have hD := hD0.self (sz := s.heap.size)
  generalize hAe : va_A [(h0, .inr (2, [.ref (f 0), .ref (f 1), .ref (f 2), .ref (f 3), .ref (f 4), .ref (f 5)])), ((f 0), .inl ((cf 0), 24, .inl pf)), ((f 1), .inl ((cf 1), 8, .inl df)), ((f 2), .inl ((cf 2), 12, .inl lf)), ((f 3), .inl ((cf 3), 12, .inl rf))] s.heap.size = A at hD hE ⊢
  have hA : ∀ q : Nat, s.heap.size ≤ q → A q := fun q h => by rw [← hAe]; exact Or.inr h
  have hS : va_S A s.heap s.heap [] := va_S.rf
  have hP : va_P (dC, dI) vwCl [(h0, .inr (2, [.ref (f 0), .ref (f 1), .ref (f 2), .ref (f 3), .ref (f 4), .ref (f 5)])), ((f 0), .inl ((cf 0), 24, .inl pf)), ((f 1), .inl ((cf 1), 8, .inl df)), ((f 2), .inl ((cf 2), 12, .inl lf)), ((f 3), .inl ((cf 3), 12, .inl rf))] s.heap := hP
  have hl := lv_entry ([.ref h0]) (n := 2) (Nat.le_of_ble_eq_true rfl)
  rw [lg_entry_eq]
  generalize (lg_sl ([.ref h0]) ++ List.replicate (2 - (lg_sl ([.ref h0])).length) Slot.unset).toArray = ls at hl ⊢
  have hl : lv_has ls 2 [(0, .ref h0)] := hl
  refine lv_iconst (v := 0) hx hb dX3_clear_0 (by decide) ?_
  refine lv_istore_n (lv' := [(1, .int 0), (0, .ref h0)]) hx hb dX3_clear_1 rfl hl (by decide) rfl (fun ls hl => ?_)
  refine wloop (fun n H locs ls => ∃ (i : Nat) (pn : Nat → Int32), n = 24 - i ∧ (i ≤ 24) ∧ lv_has ls 2 [(0, .ref h0), (1, .int (nI i))] ∧ va_P (dC, dI) vwCl [(h0, .inr (2, [.ref (f 0), .ref (f 1), .ref (f 2), .ref (f 3), .ref (f 4), .ref (f 5)])), ((f 0), .inl ((cf 0), 24, .inl pn)), ((f 1), .inl ((cf 1), 8, .inl df)), ((f 2), .inl ((cf 2), 12, .inl lf)), ((f 3), .inl ((cf 3), 12, .inl rf))] H ∧ va_D A [(h0, .inr (2, [.ref (f 0), .ref (f 1), .ref (f 2), .ref (f 3), .ref (f 4), .ref (f 5)])), ((f 0), .inl ((cf 0), 24, .inl pn)), ((f 1), .inl ((cf 1), 8, .inl df)), ((f 2), .inl ((cf 2), 12, .inl lf)), ((f 3), .inl ((cf 3), 12, .inl rf))] ∧ va_S A s.heap H locs) ?_ (24 - (0)) _ _ _ ⟨0, pf, rfl, (by omega), lv_sub hl [1, 0] rfl, hP.sub [0, 1, 2, 3, 4] rfl, hD.sub [0, 1, 2, 3, 4] (by decide) rfl, hS⟩
  intro n H locs ls hI ih
  obtain ⟨i, pn, hn9, i2, hl, hP, hD, hS⟩ := hI
  refine lv_iload_n hx hb dX3_clear_2 rfl (lv_at hl 1 rfl) ?_
  refine lv_bipush (v := 24) hx hb dX3_clear_3 (by decide) ?_
  refine lv_icmp_ge (tgt := 21) hx hb dX3_clear_5 (by decide) (fun c5_1 => ?_) (fun c5_1 => ?_)
  · have c5_1 : 24 ≤ ((i : Nat) : Int) := (cv_le (by decide) (nI_toInt (by omega))).mp c5_1
    refine lv_iconst (v := 0) hx hb dX3_clear_21 (by decide) ?_
    refine lv_istore_n (lv' := [(1, .int 0), (0, .ref h0)]) hx hb dX3_clear_22 rfl hl (by decide) rfl (fun ls hl => ?_)
    refine wloop (fun n H locs ls => ∃ (i : Nat) (dn : Nat → Int32), n = 8 - i ∧ (i ≤ 8) ∧ lv_has ls 2 [(0, .ref h0), (1, .int (nI i))] ∧ va_P (dC, dI) vwCl [(h0, .inr (2, [.ref (f 0), .ref (f 1), .ref (f 2), .ref (f 3), .ref (f 4), .ref (f 5)])), ((f 0), .inl ((cf 0), 24, .inl pn)), ((f 1), .inl ((cf 1), 8, .inl dn)), ((f 2), .inl ((cf 2), 12, .inl lf)), ((f 3), .inl ((cf 3), 12, .inl rf))] H ∧ va_D A [(h0, .inr (2, [.ref (f 0), .ref (f 1), .ref (f 2), .ref (f 3), .ref (f 4), .ref (f 5)])), ((f 0), .inl ((cf 0), 24, .inl pn)), ((f 1), .inl ((cf 1), 8, .inl dn)), ((f 2), .inl ((cf 2), 12, .inl lf)), ((f 3), .inl ((cf 3), 12, .inl rf))] ∧ va_S A s.heap H locs) ?_ (8 - (0)) _ _ _ ⟨0, df, rfl, (by omega), lv_sub hl [1, 0] rfl, hP.sub [0, 1, 2, 3, 4] rfl, hD.sub [0, 1, 2, 3, 4] (by decide) rfl, hS⟩
    intro n H locs ls hI ih
    obtain ⟨i, dn, hn9, i2, hl, hP, hD, hS⟩ := hI
    refine lv_iload_n hx hb dX3_clear_23 rfl (lv_at hl 1 rfl) ?_
    refine lv_bipush (v := 8) hx hb dX3_clear_24 (by decide) ?_
    refine lv_icmp_ge (tgt := 42) hx hb dX3_clear_26 (by decide) (fun c26_2 => ?_) (fun c26_2 => ?_)
    · have c26_2 : 8 ≤ ((i : Nat) : Int) := (cv_le (by decide) (nI_toInt (by omega))).mp c26_2
      refine lv_iconst (v := 0) hx hb dX3_clear_42 (by decide) ?_
      refine lv_istore_n (lv' := [(1, .int 0), (0, .ref h0)]) hx hb dX3_clear_43 rfl hl (by decide) rfl (fun ls hl => ?_)
      refine wloop (fun n H locs ls => ∃ (i : Nat) (ln : Nat → Int32) (rn : Nat → Int32), n = 12 - i ∧ (i ≤ 12) ∧ (∀ j, j < i → ln j = -1) ∧ (∀ j, j < i → rn j = 0) ∧ lv_has ls 2 [(0, .ref h0), (1, .int (nI i))] ∧ va_P (dC, dI) vwCl [(h0, .inr (2, [.ref (f 0), .ref (f 1), .ref (f 2), .ref (f 3), .ref (f 4), .ref (f 5)])), ((f 0), .inl ((cf 0), 24, .inl pn)), ((f 1), .inl ((cf 1), 8, .inl dn)), ((f 2), .inl ((cf 2), 12, .inl ln)), ((f 3), .inl ((cf 3), 12, .inl rn))] H ∧ va_D A [(h0, .inr (2, [.ref (f 0), .ref (f 1), .ref (f 2), .ref (f 3), .ref (f 4), .ref (f 5)])), ((f 0), .inl ((cf 0), 24, .inl pn)), ((f 1), .inl ((cf 1), 8, .inl dn)), ((f 2), .inl ((cf 2), 12, .inl ln)), ((f 3), .inl ((cf 3), 12, .inl rn))] ∧ va_S A s.heap H locs) ?_ (12 - (0)) _ _ _ ⟨0, lf, rf, rfl, (by omega), (fun j h => absurd h (Nat.not_lt_zero j)), (fun j h => absurd h (Nat.not_lt_zero j)), lv_sub hl [1, 0] rfl, hP.sub [0, 1, 2, 3, 4] rfl, hD.sub [0, 1, 2, 3, 4] (by decide) rfl, hS⟩
      intro n H locs ls hI ih
      obtain ⟨i, ln, rn, hn9, i2, hlf, hrf, hl, hP, hD, hS⟩ := hI
      refine lv_iload_n hx hb dX3_clear_44 rfl (lv_at hl 1 rfl) ?_
      refine lv_bipush (v := 12) hx hb dX3_clear_45 (by decide) ?_
      refine lv_icmp_ge (tgt := 70) hx hb dX3_clear_47 (by decide) (fun c47_3 => ?_) (fun c47_3 => ?_)
      · have c47_3 : 12 ≤ ((i : Nat) : Int) := (cv_le (by decide) (nI_toInt (by omega))).mp c47_3
        refine W.widen (k := 0) (n := 0) (Nat.le_of_ble_eq_true rfl) (Nat.le_of_ble_eq_true rfl) ?_
        have hP9 := hP.sub (ws' := [(h0, .inr (2, [.ref (f 0), .ref (f 1), .ref (f 2), .ref (f 3), .ref (f 4), .ref (f 5)])), ((f 0), .inl ((cf 0), 24, .inl pn)), ((f 1), .inl ((cf 1), 8, .inl dn)), ((f 2), .inl ((cf 2), 12, .inl ln)), ((f 3), .inl ((cf 3), 12, .inl rn))]) [0, 1, 2, 3, 4] rfl
        have hD9 := hD.sub (ws' := [(h0, .inr (2, [.ref (f 0), .ref (f 1), .ref (f 2), .ref (f 3), .ref (f 4), .ref (f 5)])), ((f 0), .inl ((cf 0), 24, .inl pn)), ((f 1), .inl ((cf 1), 8, .inl dn)), ((f 2), .inl ((cf 2), 12, .inl ln)), ((f 3), .inl ((cf 3), 12, .inl rn))]) [0, 1, 2, 3, 4] (by decide) rfl
        have hK9 := hK.sub (tys' := []) [] rfl
        exact W.vret hx hb hr (fun t ht hW => ⟨⟨(pn, dn, ln, rn), rfl, (⟨fun j h => hlf j (by omega), fun j h => hrf j (by omega)⟩), by rw [ht]; exact hP9, va_K.moved hW.alike hK9, hD9⟩, hS.F ht⟩) hS.2.2 dX3_clear_70
      · have c47_3 : ¬ (12 ≤ ((i : Nat) : Int)) := mt (cv_le (by decide) (nI_toInt (by omega))).mpr c47_3
        refine lv_aload_n hx hb dX3_clear_50 rfl (lv_at hl 0 rfl) ?_
        refine va_get (D := (dC, dI)) (ci := 2) (v := .ref (f 2)) (C := RX3) (T := TX3) (N := 6) hx hb hts inlX3 hown hK hP 0 rfl rfl 2 (by decide) (hts (.fieldLink RX3 18 "ClosedUntil$State" "lifted" "[I") qw_131) (fun _ h9 => h9) rfl dX3_clear_51 ?_
        refine lv_iload_n hx hb dX3_clear_54 rfl (lv_at hl 1 rfl) ?_
        refine lv_iconst (v := (-1)) hx hb dX3_clear_55 (by decide) ?_
        refine va_iast hx hb hK hP hD hS 3 2 rfl rfl (vp_in_nI (by omega) (by omega)) dX3_clear_56 (fun H locs hP hD hS => ?_)
        have hP : va_P (dC, dI) vwCl [(h0, .inr (2, [.ref (f 0), .ref (f 1), .ref (f 2), .ref (f 3), .ref (f 4), .ref (f 5)])), ((f 0), .inl ((cf 0), 24, .inl pn)), ((f 1), .inl ((cf 1), 8, .inl dn)), ((f 2), .inl ((cf 2), 12, .inl (upd ln (nI i).toNatClampNeg ((-1))))), ((f 3), .inl ((cf 3), 12, .inl rn))] H := hP
        have hD : va_D A [(h0, .inr (2, [.ref (f 0), .ref (f 1), .ref (f 2), .ref (f 3), .ref (f 4), .ref (f 5)])), ((f 0), .inl ((cf 0), 24, .inl pn)), ((f 1), .inl ((cf 1), 8, .inl dn)), ((f 2), .inl ((cf 2), 12, .inl (upd ln (nI i).toNatClampNeg ((-1))))), ((f 3), .inl ((cf 3), 12, .inl rn))] := hD
        refine lv_aload_n hx hb dX3_clear_57 rfl (lv_at hl 0 rfl) ?_
        refine va_get (D := (dC, dI)) (ci := 2) (v := .ref (f 3)) (C := RX3) (T := TX3) (N := 6) hx hb hts inlX3 hown hK hP 0 rfl rfl 3 (by decide) (hts (.fieldLink RX3 21 "ClosedUntil$State" "reviews" "[I") qw_132) (fun _ h9 => h9) rfl dX3_clear_58 ?_
        refine lv_iload_n hx hb dX3_clear_61 rfl (lv_at hl 1 rfl) ?_
        refine lv_iconst (v := 0) hx hb dX3_clear_62 (by decide) ?_
        refine va_iast hx hb hK hP hD hS 4 3 rfl rfl (vp_in_nI (by omega) (by omega)) dX3_clear_63 (fun H locs hP hD hS => ?_)
        have hP : va_P (dC, dI) vwCl [(h0, .inr (2, [.ref (f 0), .ref (f 1), .ref (f 2), .ref (f 3), .ref (f 4), .ref (f 5)])), ((f 0), .inl ((cf 0), 24, .inl pn)), ((f 1), .inl ((cf 1), 8, .inl dn)), ((f 2), .inl ((cf 2), 12, .inl (upd ln (nI i).toNatClampNeg ((-1))))), ((f 3), .inl ((cf 3), 12, .inl (upd rn (nI i).toNatClampNeg (0))))] H := hP
        have hD : va_D A [(h0, .inr (2, [.ref (f 0), .ref (f 1), .ref (f 2), .ref (f 3), .ref (f 4), .ref (f 5)])), ((f 0), .inl ((cf 0), 24, .inl pn)), ((f 1), .inl ((cf 1), 8, .inl dn)), ((f 2), .inl ((cf 2), 12, .inl (upd ln (nI i).toNatClampNeg ((-1))))), ((f 3), .inl ((cf 3), 12, .inl (upd rn (nI i).toNatClampNeg (0))))] := hD
        refine lv_iinc (v := (nI (i + 1))) (lv' := [(1, .int (nI (i + 1))), (0, .ref h0)]) hx hb dX3_clear_64 hl (k := 1) rfl (nI_add (i) 1) (by decide) rfl (fun ls hl => ?_)
        refine lv_goto (tgt := 44) hx hb dX3_clear_67 (by decide) ?_
        exact ih (12 - (i + 1)) _ _ _ (by omega) ⟨i + 1, (upd ln (nI i).toNatClampNeg ((-1))), (upd rn (nI i).toNatClampNeg (0)), rfl, (by omega), (upd_all (by omega) hlf), (upd_all (by omega) hrf), lv_sub hl [1, 0] rfl, hP.sub [0, 1, 2, 3, 4] rfl, hD.sub [0, 1, 2, 3, 4] (by decide) rfl, hS⟩
    · have c26_2 : ¬ (8 ≤ ((i : Nat) : Int)) := mt (cv_le (by decide) (nI_toInt (by omega))).mpr c26_2
      refine lv_aload_n hx hb dX3_clear_29 rfl (lv_at hl 0 rfl) ?_
      refine va_get (D := (dC, dI)) (ci := 2) (v := .ref (f 1)) (C := RX3) (T := TX3) (N := 6) hx hb hts inlX3 hown hK hP 0 rfl rfl 1 (by decide) (hts (.fieldLink RX3 15 "ClosedUntil$State" "death" "[I") qw_133) (fun _ h9 => h9) rfl dX3_clear_30 ?_
      refine lv_iload_n hx hb dX3_clear_33 rfl (lv_at hl 1 rfl) ?_
      refine lv_iconst (v := (-1)) hx hb dX3_clear_34 (by decide) ?_
      refine va_iast hx hb hK hP hD hS 2 1 rfl rfl (vp_in_nI (by omega) (by omega)) dX3_clear_35 (fun H locs hP hD hS => ?_)
      have hP : va_P (dC, dI) vwCl [(h0, .inr (2, [.ref (f 0), .ref (f 1), .ref (f 2), .ref (f 3), .ref (f 4), .ref (f 5)])), ((f 0), .inl ((cf 0), 24, .inl pn)), ((f 1), .inl ((cf 1), 8, .inl (upd dn (nI i).toNatClampNeg ((-1))))), ((f 2), .inl ((cf 2), 12, .inl lf)), ((f 3), .inl ((cf 3), 12, .inl rf))] H := hP
      have hD : va_D A [(h0, .inr (2, [.ref (f 0), .ref (f 1), .ref (f 2), .ref (f 3), .ref (f 4), .ref (f 5)])), ((f 0), .inl ((cf 0), 24, .inl pn)), ((f 1), .inl ((cf 1), 8, .inl (upd dn (nI i).toNatClampNeg ((-1))))), ((f 2), .inl ((cf 2), 12, .inl lf)), ((f 3), .inl ((cf 3), 12, .inl rf))] := hD
      refine lv_iinc (v := (nI (i + 1))) (lv' := [(1, .int (nI (i + 1))), (0, .ref h0)]) hx hb dX3_clear_36 hl (k := 1) rfl (nI_add (i) 1) (by decide) rfl (fun ls hl => ?_)
      refine lv_goto (tgt := 23) hx hb dX3_clear_39 (by decide) ?_
      exact ih (8 - (i + 1)) _ _ _ (by omega) ⟨i + 1, (upd dn (nI i).toNatClampNeg ((-1))), rfl, (by omega), lv_sub hl [1, 0] rfl, hP.sub [0, 1, 2, 3, 4] rfl, hD.sub [0, 1, 2, 3, 4] (by decide) rfl, hS⟩
  · have c5_1 : ¬ (24 ≤ ((i : Nat) : Int)) := mt (cv_le (by decide) (nI_toInt (by omega))).mpr c5_1
    refine lv_aload_n hx hb dX3_clear_8 rfl (lv_at hl 0 rfl) ?_
    refine va_get (D := (dC, dI)) (ci := 2) (v := .ref (f 0)) (C := RX3) (T := TX3) (N := 6) hx hb hts inlX3 hown hK hP 0 rfl rfl 0 (by decide) (hts (.fieldLink RX3 9 "ClosedUntil$State" "parent" "[I") qw_134) (fun _ h9 => h9) rfl dX3_clear_9 ?_
    refine lv_iload_n hx hb dX3_clear_12 rfl (lv_at hl 1 rfl) ?_
    refine lv_iconst (v := (-1)) hx hb dX3_clear_13 (by decide) ?_
    refine va_iast hx hb hK hP hD hS 1 0 rfl rfl (vp_in_nI (by omega) (by omega)) dX3_clear_14 (fun H locs hP hD hS => ?_)
    have hP : va_P (dC, dI) vwCl [(h0, .inr (2, [.ref (f 0), .ref (f 1), .ref (f 2), .ref (f 3), .ref (f 4), .ref (f 5)])), ((f 0), .inl ((cf 0), 24, .inl (upd pn (nI i).toNatClampNeg ((-1))))), ((f 1), .inl ((cf 1), 8, .inl df)), ((f 2), .inl ((cf 2), 12, .inl lf)), ((f 3), .inl ((cf 3), 12, .inl rf))] H := hP
    have hD : va_D A [(h0, .inr (2, [.ref (f 0), .ref (f 1), .ref (f 2), .ref (f 3), .ref (f 4), .ref (f 5)])), ((f 0), .inl ((cf 0), 24, .inl (upd pn (nI i).toNatClampNeg ((-1))))), ((f 1), .inl ((cf 1), 8, .inl df)), ((f 2), .inl ((cf 2), 12, .inl lf)), ((f 3), .inl ((cf 3), 12, .inl rf))] := hD
    refine lv_iinc (v := (nI (i + 1))) (lv' := [(1, .int (nI (i + 1))), (0, .ref h0)]) hx hb dX3_clear_15 hl (k := 1) rfl (nI_add (i) 1) (by decide) rfl (fun ls hl => ?_)
    refine lv_goto (tgt := 2) hx hb dX3_clear_18 (by decide) ?_
    exact ih (24 - (i + 1)) _ _ _ (by omega) ⟨i + 1, (upd pn (nI i).toNatClampNeg ((-1))), rfl, (by omega), lv_sub hl [1, 0] rfl, hP.sub [0, 1, 2, 3, 4] rfl, hD.sub [0, 1, 2, 3, 4] (by decide) rfl, hS⟩
