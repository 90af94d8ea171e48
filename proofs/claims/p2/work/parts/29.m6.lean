theorem dX9_text_0 : decode cX9_text 0 = .ok (.aload_n 0, 1) := by decide +kernel
theorem dX9_text_1 : decode cX9_text 1 = .ok (.iconst 0, 1) := by decide +kernel
theorem dX9_text_2 : decode cX9_text 2 = .ok (.putfield 85, 3) := by decide +kernel
theorem dX9_text_5 : decode cX9_text 5 = .ok (.iload_n 1, 1) := by decide +kernel
theorem dX9_text_6 : decode cX9_text 6 = .ok (.i2l, 1) := by decide +kernel
theorem dX9_text_7 : decode cX9_text 7 = .ok (.lconst 0, 1) := by decide +kernel
theorem dX9_text_8 : decode cX9_text 8 = .ok (.aload_n 0, 1) := by decide +kernel
theorem dX9_text_9 : decode cX9_text 9 = .ok (.getfield 142, 3) := by decide +kernel
theorem dX9_text_12 : decode cX9_text 12 = .ok (.i2l, 1) := by decide +kernel
theorem dX9_text_13 : decode cX9_text 13 = .ok (.invokestatic 123, 3) := by decide +kernel
theorem dX9_text_16 : decode cX9_text 16 = .ok (.ifCond .ne 5, 3) := by decide +kernel
theorem dX9_text_19 : decode cX9_text 19 = .ok (.iconst (-1), 1) := by decide +kernel
theorem dX9_text_20 : decode cX9_text 20 = .ok (.ireturn, 1) := by decide +kernel
theorem dX9_text_21 : decode cX9_text 21 = .ok (.aload_n 0, 1) := by decide +kernel
theorem dX9_text_22 : decode cX9_text 22 = .ok (.iconst 0, 1) := by decide +kernel
theorem dX9_text_23 : decode cX9_text 23 = .ok (.putfield 142, 3) := by decide +kernel
theorem dX9_text_26 : decode cX9_text 26 = .ok (.aload_n 0, 1) := by decide +kernel
theorem dX9_text_27 : decode cX9_text 27 = .ok (.iload_n 1, 1) := by decide +kernel
theorem dX9_text_28 : decode cX9_text 28 = .ok (.putfield 148, 3) := by decide +kernel
theorem dX9_text_31 : decode cX9_text 31 = .ok (.aload_n 0, 1) := by decide +kernel
theorem dX9_text_32 : decode cX9_text 32 = .ok (.iconst 0, 1) := by decide +kernel
theorem dX9_text_33 : decode cX9_text 33 = .ok (.putfield 151, 3) := by decide +kernel
theorem dX9_text_36 : decode cX9_text 36 = .ok (.aload_n 0, 1) := by decide +kernel
theorem dX9_text_37 : decode cX9_text 37 = .ok (.iconst 0, 1) := by decide +kernel
theorem dX9_text_38 : decode cX9_text 38 = .ok (.putfield 181, 3) := by decide +kernel
theorem dX9_text_41 : decode cX9_text 41 = .ok (.aload_n 0, 1) := by decide +kernel
theorem dX9_text_42 : decode cX9_text 42 = .ok (.iconst 1, 1) := by decide +kernel
theorem dX9_text_43 : decode cX9_text 43 = .ok (.putfield 256, 3) := by decide +kernel
theorem dX9_text_46 : decode cX9_text 46 = .ok (.aload_n 0, 1) := by decide +kernel
theorem dX9_text_47 : decode cX9_text 47 = .ok (.getfield 13, 3) := by decide +kernel
theorem dX9_text_50 : decode cX9_text 50 = .ok (.iconst 1, 1) := by decide +kernel
theorem dX9_text_51 : decode cX9_text 51 = .ok (.iconst 0, 1) := by decide +kernel
theorem dX9_text_52 : decode cX9_text 52 = .ok (.iastore, 1) := by decide +kernel
theorem dX9_text_53 : decode cX9_text 53 = .ok (.aload_n 0, 1) := by decide +kernel
theorem dX9_text_54 : decode cX9_text 54 = .ok (.getfield 17, 3) := by decide +kernel
theorem dX9_text_57 : decode cX9_text 57 = .ok (.iconst 1, 1) := by decide +kernel
theorem dX9_text_58 : decode cX9_text 58 = .ok (.iconst 0, 1) := by decide +kernel
theorem dX9_text_59 : decode cX9_text 59 = .ok (.iastore, 1) := by decide +kernel
theorem dX9_text_60 : decode cX9_text 60 = .ok (.aload_n 0, 1) := by decide +kernel
theorem dX9_text_61 : decode cX9_text 61 = .ok (.getfield 20, 3) := by decide +kernel
theorem dX9_text_64 : decode cX9_text 64 = .ok (.iconst 1, 1) := by decide +kernel
theorem dX9_text_65 : decode cX9_text 65 = .ok (.iconst 0, 1) := by decide +kernel
theorem dX9_text_66 : decode cX9_text 66 = .ok (.iastore, 1) := by decide +kernel
theorem dX9_text_67 : decode cX9_text 67 = .ok (.aload_n 0, 1) := by decide +kernel
theorem dX9_text_68 : decode cX9_text 68 = .ok (.getfield 23, 3) := by decide +kernel
theorem dX9_text_71 : decode cX9_text 71 = .ok (.iconst 1, 1) := by decide +kernel
theorem dX9_text_72 : decode cX9_text 72 = .ok (.iconst 0, 1) := by decide +kernel
theorem dX9_text_73 : decode cX9_text 73 = .ok (.iastore, 1) := by decide +kernel
theorem dX9_text_74 : decode cX9_text 74 = .ok (.aload_n 0, 1) := by decide +kernel
theorem dX9_text_75 : decode cX9_text 75 = .ok (.invokevirtual 236, 3) := by decide +kernel
theorem dX9_text_78 : decode cX9_text 78 = .ok (.iconst 0, 1) := by decide +kernel
theorem dX9_text_79 : decode cX9_text 79 = .ok (.istore_n 2, 1) := by decide +kernel
theorem dX9_text_80 : decode cX9_text 80 = .ok (.iconst 1, 1) := by decide +kernel
theorem dX9_text_81 : decode cX9_text 81 = .ok (.istore_n 3, 1) := by decide +kernel
theorem dX9_text_82 : decode cX9_text 82 = .ok (.iload_n 3, 1) := by decide +kernel
theorem dX9_text_83 : decode cX9_text 83 = .ok (.ifCond .eq 21, 3) := by decide +kernel
theorem dX9_text_86 : decode cX9_text 86 = .ok (.aload_n 0, 1) := by decide +kernel
theorem dX9_text_87 : decode cX9_text 87 = .ok (.getfield 160, 3) := by decide +kernel
theorem dX9_text_90 : decode cX9_text 90 = .ok (.ifCond .eq 14, 3) := by decide +kernel
theorem dX9_text_93 : decode cX9_text 93 = .ok (.aload_n 0, 1) := by decide +kernel
theorem dX9_text_94 : decode cX9_text 94 = .ok (.invokevirtual 304, 3) := by decide +kernel
theorem dX9_text_97 : decode cX9_text 97 = .ok (.istore_n 3, 1) := by decide +kernel
theorem dX9_text_98 : decode cX9_text 98 = .ok (.iinc 2 1, 3) := by decide +kernel
theorem dX9_text_101 : decode cX9_text 101 = .ok (.goto (-19), 3) := by decide +kernel
theorem dX9_text_104 : decode cX9_text 104 = .ok (.aload_n 0, 1) := by decide +kernel
theorem dX9_text_105 : decode cX9_text 105 = .ok (.iconst 0, 1) := by decide +kernel
theorem dX9_text_106 : decode cX9_text 106 = .ok (.putfield 256, 3) := by decide +kernel
theorem dX9_text_109 : decode cX9_text 109 = .ok (.iload_n 3, 1) := by decide +kernel
theorem dX9_text_110 : decode cX9_text 110 = .ok (.ifCond .ne 19, 3) := by decide +kernel
theorem dX9_text_113 : decode cX9_text 113 = .ok (.bipush (-2), 2) := by decide +kernel
theorem dX9_text_115 : decode cX9_text 115 = .ok (.bipush 8, 2) := by decide +kernel
theorem dX9_text_117 : decode cX9_text 117 = .ok (.aload_n 0, 1) := by decide +kernel
theorem dX9_text_118 : decode cX9_text 118 = .ok (.getfield 184, 3) := by decide +kernel
theorem dX9_text_121 : decode cX9_text 121 = .ok (.imul, 1) := by decide +kernel
theorem dX9_text_122 : decode cX9_text 122 = .ok (.aload_n 0, 1) := by decide +kernel
theorem dX9_text_123 : decode cX9_text 123 = .ok (.getfield 181, 3) := by decide +kernel
theorem dX9_text_126 : decode cX9_text 126 = .ok (.iadd, 1) := by decide +kernel
theorem dX9_text_127 : decode cX9_text 127 = .ok (.isub, 1) := by decide +kernel
theorem dX9_text_128 : decode cX9_text 128 = .ok (.ireturn, 1) := by decide +kernel
theorem dX9_text_129 : decode cX9_text 129 = .ok (.aload_n 0, 1) := by decide +kernel
theorem dX9_text_130 : decode cX9_text 130 = .ok (.invokevirtual 307, 3) := by decide +kernel
theorem dX9_text_133 : decode cX9_text 133 = .ok (.aload_n 0, 1) := by decide +kernel
theorem dX9_text_134 : decode cX9_text 134 = .ok (.iconst 0, 1) := by decide +kernel
theorem dX9_text_135 : decode cX9_text 135 = .ok (.putfield 310, 3) := by decide +kernel
theorem dX9_text_138 : decode cX9_text 138 = .ok (.aload_n 0, 1) := by decide +kernel
theorem dX9_text_139 : decode cX9_text 139 = .ok (.getfield 79, 3) := by decide +kernel
theorem dX9_text_142 : decode cX9_text 142 = .ok (.iconst 0, 1) := by decide +kernel
theorem dX9_text_143 : decode cX9_text 143 = .ok (.iconst 0, 1) := by decide +kernel
theorem dX9_text_144 : decode cX9_text 144 = .ok (.bastore, 1) := by decide +kernel
theorem dX9_text_145 : decode cX9_text 145 = .ok (.aload_n 0, 1) := by decide +kernel
theorem dX9_text_146 : decode cX9_text 146 = .ok (.getfield 79, 3) := by decide +kernel
theorem dX9_text_149 : decode cX9_text 149 = .ok (.iconst 1, 1) := by decide +kernel
theorem dX9_text_150 : decode cX9_text 150 = .ok (.iconst 0, 1) := by decide +kernel
theorem dX9_text_151 : decode cX9_text 151 = .ok (.bastore, 1) := by decide +kernel
theorem dX9_text_152 : decode cX9_text 152 = .ok (.iload_n 2, 1) := by decide +kernel
theorem dX9_text_153 : decode cX9_text 153 = .ok (.ireturn, 1) := by decide +kernel
theorem qw_592 : (Cond.code yX9_copies cX9_copies 3 none : Cond) ∈ TBL := List.mem_of_getElem? (i := 478) (by decide +kernel)
theorem qw_593 : (Cond.methodLink RX9 307 yX9_copies : Cond) ∈ TBL := List.mem_of_getElem? (i := 475) (by decide +kernel)
theorem qw_594 : (Cond.instanceMethod yX9_copies : Cond) ∈ TBL := List.mem_of_getElem? (i := 476) (by decide +kernel)
theorem qw_595 : (Cond.selects RX9 yX9_copies yX9_copies : Cond) ∈ TBL := List.mem_of_getElem? (i := 477) (by decide +kernel)
theorem qw_596 : (Cond.fieldLink RX9 79 "ClosedUntilModel" "isKept" "[Z" : Cond) ∈ TBL := List.mem_of_getElem? (i := 188) (by decide +kernel)
theorem qw_597 : (Cond.code yX9_lineHere cX9_lineHere 4 (some .boolean) : Cond) ∈ TBL := List.mem_of_getElem? (i := 380) (by decide +kernel)
theorem qw_598 : (Cond.methodLink RX9 304 yX9_lineHere : Cond) ∈ TBL := List.mem_of_getElem? (i := 377) (by decide +kernel)
theorem qw_599 : (Cond.instanceMethod yX9_lineHere : Cond) ∈ TBL := List.mem_of_getElem? (i := 378) (by decide +kernel)
theorem qw_600 : (Cond.selects RX9 yX9_lineHere yX9_lineHere : Cond) ∈ TBL := List.mem_of_getElem? (i := 379) (by decide +kernel)
theorem rgL24_33a7d57 {c0 c1 c2 c3 c4 c5 c6 c7 c8 c9 c10 c11 c12 c13 c14 c15 c16 c17 c18 c19 c20 c21 c22 c23 : Nat × va_E} : (([c0, c1, c2, c3, c4, c5, c6, c7, c8, c9, c10, c11, c12, c13, c14, c15, c16, c17, c18, c19, c20, c21, c22, c23] : va_W))[0]? = some c0 := rfl
theorem rgS24_31185a1 {A : Nat → Prop} {D : va_G} {cl : List vw_C} {H : Heap} {c0 c1 c2 c3 c4 c5 c6 c7 c8 c9 c10 c11 c12 c13 c14 c15 c16 c17 c18 c19 c20 c21 c22 c23 : Nat × va_E} {d e : Nat × va_E} (hP : va_P D cl (([c0, c1, c2, c3, c4, c5, c6, c7, c8, c9, c10, c11, c12, c13, c14, c15, c16, c17, c18, c19, c20, c21, c22, c23]).set 0 d) H) (hD : va_D A (([c0, c1, c2, c3, c4, c5, c6, c7, c8, c9, c10, c11, c12, c13, c14, c15, c16, c17, c18, c19, c20, c21, c22, c23]).set 0 d)) (h : d = e) : va_P D cl ([e, c1, c2, c3, c4, c5, c6, c7, c8, c9, c10, c11, c12, c13, c14, c15, c16, c17, c18, c19, c20, c21, c22, c23]) H ∧ va_D A ([e, c1, c2, c3, c4, c5, c6, c7, c8, c9, c10, c11, c12, c13, c14, c15, c16, c17, c18, c19, c20, c21, c22, c23]) := by subst h; exact ⟨hP, hD⟩
theorem rgP24_7c6724e {D : va_G} {cl : List vw_C} {H : Heap} {c0 c1 c2 c3 c4 c5 c6 c7 c8 c9 c10 c11 c12 c13 c14 c15 c16 c17 c18 c19 c20 c21 c22 c23 : Nat × va_E} (h : va_P D cl ([c0, c1, c2, c3, c4, c5, c6, c7, c8, c9, c10, c11, c12, c13, c14, c15, c16, c17, c18, c19, c20, c21, c22, c23]) H) : va_P D cl ([]) H := h.sub (ws' := []) [] rfl
theorem rgK23_d68b342 {D : va_G} {cl : List vw_C} {U : State} {t0 t1 t2 t3 t4 t5 t6 t7 t8 t9 t10 t11 t12 t13 t14 t15 t16 t17 t18 t19 t20 t21 t22 : ClassId × FieldType} (h : va_K D cl [t0, t1, t2, t3, t4, t5, t6, t7, t8, t9, t10, t11, t12, t13, t14, t15, t16, t17, t18, t19, t20, t21, t22] U) : va_K D cl [] U := h.sub (tys' := []) [] rfl
theorem rgL24_5fea1bd {c0 c1 c2 c3 c4 c5 c6 c7 c8 c9 c10 c11 c12 c13 c14 c15 c16 c17 c18 c19 c20 c21 c22 c23 : Nat × va_E} : (([c0, c1, c2, c3, c4, c5, c6, c7, c8, c9, c10, c11, c12, c13, c14, c15, c16, c17, c18, c19, c20, c21, c22, c23] : va_W))[2]? = some c2 := rfl
theorem rgT23_82dbf10 {t0 t1 t2 t3 t4 t5 t6 t7 t8 t9 t10 t11 t12 t13 t14 t15 t16 t17 t18 t19 t20 t21 t22 : ClassId × FieldType} : (([t0, t1, t2, t3, t4, t5, t6, t7, t8, t9, t10, t11, t12, t13, t14, t15, t16, t17, t18, t19, t20, t21, t22] : List (ClassId × FieldType)))[1]? = some t1 := rfl
theorem rgS24_04d43cc {A : Nat → Prop} {D : va_G} {cl : List vw_C} {H : Heap} {c0 c1 c2 c3 c4 c5 c6 c7 c8 c9 c10 c11 c12 c13 c14 c15 c16 c17 c18 c19 c20 c21 c22 c23 : Nat × va_E} {d e : Nat × va_E} (hP : va_P D cl (([c0, c1, c2, c3, c4, c5, c6, c7, c8, c9, c10, c11, c12, c13, c14, c15, c16, c17, c18, c19, c20, c21, c22, c23]).set 2 d) H) (hD : va_D A (([c0, c1, c2, c3, c4, c5, c6, c7, c8, c9, c10, c11, c12, c13, c14, c15, c16, c17, c18, c19, c20, c21, c22, c23]).set 2 d)) (h : d = e) : va_P D cl ([c0, c1, e, c3, c4, c5, c6, c7, c8, c9, c10, c11, c12, c13, c14, c15, c16, c17, c18, c19, c20, c21, c22, c23]) H ∧ va_D A ([c0, c1, e, c3, c4, c5, c6, c7, c8, c9, c10, c11, c12, c13, c14, c15, c16, c17, c18, c19, c20, c21, c22, c23]) := by subst h; exact ⟨hP, hD⟩
theorem rgL24_716a489 {c0 c1 c2 c3 c4 c5 c6 c7 c8 c9 c10 c11 c12 c13 c14 c15 c16 c17 c18 c19 c20 c21 c22 c23 : Nat × va_E} : (([c0, c1, c2, c3, c4, c5, c6, c7, c8, c9, c10, c11, c12, c13, c14, c15, c16, c17, c18, c19, c20, c21, c22, c23] : va_W))[3]? = some c3 := rfl
theorem rgT23_4349ea5 {t0 t1 t2 t3 t4 t5 t6 t7 t8 t9 t10 t11 t12 t13 t14 t15 t16 t17 t18 t19 t20 t21 t22 : ClassId × FieldType} : (([t0, t1, t2, t3, t4, t5, t6, t7, t8, t9, t10, t11, t12, t13, t14, t15, t16, t17, t18, t19, t20, t21, t22] : List (ClassId × FieldType)))[2]? = some t2 := rfl
theorem rgS24_38141b5 {A : Nat → Prop} {D : va_G} {cl : List vw_C} {H : Heap} {c0 c1 c2 c3 c4 c5 c6 c7 c8 c9 c10 c11 c12 c13 c14 c15 c16 c17 c18 c19 c20 c21 c22 c23 : Nat × va_E} {d e : Nat × va_E} (hP : va_P D cl (([c0, c1, c2, c3, c4, c5, c6, c7, c8, c9, c10, c11, c12, c13, c14, c15, c16, c17, c18, c19, c20, c21, c22, c23]).set 3 d) H) (hD : va_D A (([c0, c1, c2, c3, c4, c5, c6, c7, c8, c9, c10, c11, c12, c13, c14, c15, c16, c17, c18, c19, c20, c21, c22, c23]).set 3 d)) (h : d = e) : va_P D cl ([c0, c1, c2, e, c4, c5, c6, c7, c8, c9, c10, c11, c12, c13, c14, c15, c16, c17, c18, c19, c20, c21, c22, c23]) H ∧ va_D A ([c0, c1, c2, e, c4, c5, c6, c7, c8, c9, c10, c11, c12, c13, c14, c15, c16, c17, c18, c19, c20, c21, c22, c23]) := by subst h; exact ⟨hP, hD⟩
theorem rgL24_2538cc1 {c0 c1 c2 c3 c4 c5 c6 c7 c8 c9 c10 c11 c12 c13 c14 c15 c16 c17 c18 c19 c20 c21 c22 c23 : Nat × va_E} : (([c0, c1, c2, c3, c4, c5, c6, c7, c8, c9, c10, c11, c12, c13, c14, c15, c16, c17, c18, c19, c20, c21, c22, c23] : va_W))[4]? = some c4 := rfl
theorem rgT23_e9d09c0 {t0 t1 t2 t3 t4 t5 t6 t7 t8 t9 t10 t11 t12 t13 t14 t15 t16 t17 t18 t19 t20 t21 t22 : ClassId × FieldType} : (([t0, t1, t2, t3, t4, t5, t6, t7, t8, t9, t10, t11, t12, t13, t14, t15, t16, t17, t18, t19, t20, t21, t22] : List (ClassId × FieldType)))[3]? = some t3 := rfl
theorem rgS24_f01ebaf {A : Nat → Prop} {D : va_G} {cl : List vw_C} {H : Heap} {c0 c1 c2 c3 c4 c5 c6 c7 c8 c9 c10 c11 c12 c13 c14 c15 c16 c17 c18 c19 c20 c21 c22 c23 : Nat × va_E} {d e : Nat × va_E} (hP : va_P D cl (([c0, c1, c2, c3, c4, c5, c6, c7, c8, c9, c10, c11, c12, c13, c14, c15, c16, c17, c18, c19, c20, c21, c22, c23]).set 4 d) H) (hD : va_D A (([c0, c1, c2, c3, c4, c5, c6, c7, c8, c9, c10, c11, c12, c13, c14, c15, c16, c17, c18, c19, c20, c21, c22, c23]).set 4 d)) (h : d = e) : va_P D cl ([c0, c1, c2, c3, e, c5, c6, c7, c8, c9, c10, c11, c12, c13, c14, c15, c16, c17, c18, c19, c20, c21, c22, c23]) H ∧ va_D A ([c0, c1, c2, c3, e, c5, c6, c7, c8, c9, c10, c11, c12, c13, c14, c15, c16, c17, c18, c19, c20, c21, c22, c23]) := by subst h; exact ⟨hP, hD⟩
theorem rgL24_71a77f6 {c0 c1 c2 c3 c4 c5 c6 c7 c8 c9 c10 c11 c12 c13 c14 c15 c16 c17 c18 c19 c20 c21 c22 c23 : Nat × va_E} : (([c0, c1, c2, c3, c4, c5, c6, c7, c8, c9, c10, c11, c12, c13, c14, c15, c16, c17, c18, c19, c20, c21, c22, c23] : va_W))[5]? = some c5 := rfl
theorem rgT23_df1966e {t0 t1 t2 t3 t4 t5 t6 t7 t8 t9 t10 t11 t12 t13 t14 t15 t16 t17 t18 t19 t20 t21 t22 : ClassId × FieldType} : (([t0, t1, t2, t3, t4, t5, t6, t7, t8, t9, t10, t11, t12, t13, t14, t15, t16, t17, t18, t19, t20, t21, t22] : List (ClassId × FieldType)))[4]? = some t4 := rfl
theorem rgS24_cb80f25 {A : Nat → Prop} {D : va_G} {cl : List vw_C} {H : Heap} {c0 c1 c2 c3 c4 c5 c6 c7 c8 c9 c10 c11 c12 c13 c14 c15 c16 c17 c18 c19 c20 c21 c22 c23 : Nat × va_E} {d e : Nat × va_E} (hP : va_P D cl (([c0, c1, c2, c3, c4, c5, c6, c7, c8, c9, c10, c11, c12, c13, c14, c15, c16, c17, c18, c19, c20, c21, c22, c23]).set 5 d) H) (hD : va_D A (([c0, c1, c2, c3, c4, c5, c6, c7, c8, c9, c10, c11, c12, c13, c14, c15, c16, c17, c18, c19, c20, c21, c22, c23]).set 5 d)) (h : d = e) : va_P D cl ([c0, c1, c2, c3, c4, e, c6, c7, c8, c9, c10, c11, c12, c13, c14, c15, c16, c17, c18, c19, c20, c21, c22, c23]) H ∧ va_D A ([c0, c1, c2, c3, c4, e, c6, c7, c8, c9, c10, c11, c12, c13, c14, c15, c16, c17, c18, c19, c20, c21, c22, c23]) := by subst h; exact ⟨hP, hD⟩
theorem rgP24_de8879c {D : va_G} {cl : List vw_C} {H : Heap} {c0 c1 c2 c3 c4 c5 c6 c7 c8 c9 c10 c11 c12 c13 c14 c15 c16 c17 c18 c19 c20 c21 c22 c23 : Nat × va_E} (h : va_P D cl ([c0, c1, c2, c3, c4, c5, c6, c7, c8, c9, c10, c11, c12, c13, c14, c15, c16, c17, c18, c19, c20, c21, c22, c23]) H) : va_P D cl ([c0, c1]) H := h.sub (ws' := [c0, c1]) [0, 1] rfl
theorem rgK23_a08c326 {D : va_G} {cl : List vw_C} {U : State} {t0 t1 t2 t3 t4 t5 t6 t7 t8 t9 t10 t11 t12 t13 t14 t15 t16 t17 t18 t19 t20 t21 t22 : ClassId × FieldType} (h : va_K D cl [t0, t1, t2, t3, t4, t5, t6, t7, t8, t9, t10, t11, t12, t13, t14, t15, t16, t17, t18, t19, t20, t21, t22] U) : va_K D cl [t0] U := h.sub (tys' := [t0]) [0] rfl
theorem rgD24_04ba1dc {A : Nat → Prop} {c0 c1 c2 c3 c4 c5 c6 c7 c8 c9 c10 c11 c12 c13 c14 c15 c16 c17 c18 c19 c20 c21 c22 c23 : Nat × va_E} (h : va_D A ([c0, c1, c2, c3, c4, c5, c6, c7, c8, c9, c10, c11, c12, c13, c14, c15, c16, c17, c18, c19, c20, c21, c22, c23])) : va_D A ([c0, c1]) := h.sub (ws' := [c0, c1]) [0, 1] (by decide +kernel) rfl
theorem rgJ24_f9d184c {A0 : Nat → Prop} {D : va_G} {cl : List vw_C} {H H1 : Heap} {c0 c1 c2 c3 c4 c5 c6 c7 c8 c9 c10 c11 c12 c13 c14 c15 c16 c17 c18 c19 c20 c21 c22 c23 : Nat × va_E} {d0 d1 : Nat × va_E} (hP : va_P D cl ([c0, c1, c2, c3, c4, c5, c6, c7, c8, c9, c10, c11, c12, c13, c14, c15, c16, c17, c18, c19, c20, c21, c22, c23]) H) (hD : va_D A0 ([c0, c1, c2, c3, c4, c5, c6, c7, c8, c9, c10, c11, c12, c13, c14, c15, c16, c17, c18, c19, c20, c21, c22, c23])) (hk : ∀ q : Nat, q < H.size → ¬ va_A ([c0, c1]) H.size q → H1[q]? = H[q]?) (hF : ∀ q, va_A ([c0, c1]) H.size q → A0 q) (hP1 : va_P D cl ([d0, d1]) H1) (hD1 : va_D (va_A ([c0, c1]) H.size) ([d0, d1])) : va_P D cl ([d0, d1, c2, c3, c4, c5, c6, c7, c8, c9, c10, c11, c12, c13, c14, c15, c16, c17, c18, c19, c20, c21, c22, c23]) H1 ∧ va_D A0 ([d0, d1, c2, c3, c4, c5, c6, c7, c8, c9, c10, c11, c12, c13, c14, c15, c16, c17, c18, c19, c20, c21, c22, c23]) := by
  obtain ⟨h1, h2⟩ := va_join (ws := [c0, c1, c2, c3, c4, c5, c6, c7, c8, c9, c10, c11, c12, c13, c14, c15, c16, c17, c18, c19, c20, c21, c22, c23]) (wc := [c0, c1]) (wr := [c2, c3, c4, c5, c6, c7, c8, c9, c10, c11, c12, c13, c14, c15, c16, c17, c18, c19, c20, c21, c22, c23]) (w1 := [d0, d1]) hP hD [0, 1] [2, 3, 4, 5, 6, 7, 8, 9, 10, 11, 12, 13, 14, 15, 16, 17, 18, 19, 20, 21, 22, 23] rfl rfl (by decide +kernel) (by decide +kernel) hk hF hP1 hD1
  exact ⟨va_P.sub (ws := [c2, c3, c4, c5, c6, c7, c8, c9, c10, c11, c12, c13, c14, c15, c16, c17, c18, c19, c20, c21, c22, c23, d0, d1]) (ws' := [d0, d1, c2, c3, c4, c5, c6, c7, c8, c9, c10, c11, c12, c13, c14, c15, c16, c17, c18, c19, c20, c21, c22, c23]) h1 [22, 23, 0, 1, 2, 3, 4, 5, 6, 7, 8, 9, 10, 11, 12, 13, 14, 15, 16, 17, 18, 19, 20, 21] rfl, va_D.sub (ws := [c2, c3, c4, c5, c6, c7, c8, c9, c10, c11, c12, c13, c14, c15, c16, c17, c18, c19, c20, c21, c22, c23, d0, d1]) (ws' := [d0, d1, c2, c3, c4, c5, c6, c7, c8, c9, c10, c11, c12, c13, c14, c15, c16, c17, c18, c19, c20, c21, c22, c23]) h2 [22, 23, 0, 1, 2, 3, 4, 5, 6, 7, 8, 9, 10, 11, 12, 13, 14, 15, 16, 17, 18, 19, 20, 21] (by decide +kernel) rfl⟩
theorem rgP24_07e4daa {D : va_G} {cl : List vw_C} {H : Heap} {c0 c1 c2 c3 c4 c5 c6 c7 c8 c9 c10 c11 c12 c13 c14 c15 c16 c17 c18 c19 c20 c21 c22 c23 : Nat × va_E} (h : va_P D cl ([c0, c1, c2, c3, c4, c5, c6, c7, c8, c9, c10, c11, c12, c13, c14, c15, c16, c17, c18, c19, c20, c21, c22, c23]) H) : va_P D cl ([c0, c2, c3, c4, c5, c6, c7, c8, c9, c10, c11, c12, c13, c14, c15, c16, c17, c18, c19, c20]) H := h.sub (ws' := [c0, c2, c3, c4, c5, c6, c7, c8, c9, c10, c11, c12, c13, c14, c15, c16, c17, c18, c19, c20]) [0, 2, 3, 4, 5, 6, 7, 8, 9, 10, 11, 12, 13, 14, 15, 16, 17, 18, 19, 20] rfl
theorem rgK23_d3db985 {D : va_G} {cl : List vw_C} {U : State} {t0 t1 t2 t3 t4 t5 t6 t7 t8 t9 t10 t11 t12 t13 t14 t15 t16 t17 t18 t19 t20 t21 t22 : ClassId × FieldType} (h : va_K D cl [t0, t1, t2, t3, t4, t5, t6, t7, t8, t9, t10, t11, t12, t13, t14, t15, t16, t17, t18, t19, t20, t21, t22] U) : va_K D cl [t1, t2, t3, t4, t5, t6, t7, t8, t9, t10, t11, t12, t13, t14, t15, t16, t17, t18, t19] U := h.sub (tys' := [t1, t2, t3, t4, t5, t6, t7, t8, t9, t10, t11, t12, t13, t14, t15, t16, t17, t18, t19]) [1, 2, 3, 4, 5, 6, 7, 8, 9, 10, 11, 12, 13, 14, 15, 16, 17, 18, 19] rfl
theorem rgD24_1bdb866 {A : Nat → Prop} {c0 c1 c2 c3 c4 c5 c6 c7 c8 c9 c10 c11 c12 c13 c14 c15 c16 c17 c18 c19 c20 c21 c22 c23 : Nat × va_E} (h : va_D A ([c0, c1, c2, c3, c4, c5, c6, c7, c8, c9, c10, c11, c12, c13, c14, c15, c16, c17, c18, c19, c20, c21, c22, c23])) : va_D A ([c0, c2, c3, c4, c5, c6, c7, c8, c9, c10, c11, c12, c13, c14, c15, c16, c17, c18, c19, c20]) := h.sub (ws' := [c0, c2, c3, c4, c5, c6, c7, c8, c9, c10, c11, c12, c13, c14, c15, c16, c17, c18, c19, c20]) [0, 2, 3, 4, 5, 6, 7, 8, 9, 10, 11, 12, 13, 14, 15, 16, 17, 18, 19, 20] (by decide +kernel) rfl
theorem rgJ24_3442b3d {A0 : Nat → Prop} {D : va_G} {cl : List vw_C} {H H1 : Heap} {c0 c1 c2 c3 c4 c5 c6 c7 c8 c9 c10 c11 c12 c13 c14 c15 c16 c17 c18 c19 c20 c21 c22 c23 : Nat × va_E} {d0 d1 d2 d3 d4 d5 d6 d7 d8 d9 d10 d11 d12 d13 d14 d15 d16 d17 d18 d19 : Nat × va_E} (hP : va_P D cl ([c0, c1, c2, c3, c4, c5, c6, c7, c8, c9, c10, c11, c12, c13, c14, c15, c16, c17, c18, c19, c20, c21, c22, c23]) H) (hD : va_D A0 ([c0, c1, c2, c3, c4, c5, c6, c7, c8, c9, c10, c11, c12, c13, c14, c15, c16, c17, c18, c19, c20, c21, c22, c23])) (hk : ∀ q : Nat, q < H.size → ¬ va_A ([c0, c2, c3, c4, c5, c6, c7, c8, c9, c10, c11, c12, c13, c14, c15, c16, c17, c18, c19, c20]) H.size q → H1[q]? = H[q]?) (hF : ∀ q, va_A ([c0, c2, c3, c4, c5, c6, c7, c8, c9, c10, c11, c12, c13, c14, c15, c16, c17, c18, c19, c20]) H.size q → A0 q) (hP1 : va_P D cl ([d0, d1, d2, d3, d4, d5, d6, d7, d8, d9, d10, d11, d12, d13, d14, d15, d16, d17, d18, d19]) H1) (hD1 : va_D (va_A ([c0, c2, c3, c4, c5, c6, c7, c8, c9, c10, c11, c12, c13, c14, c15, c16, c17, c18, c19, c20]) H.size) ([d0, d1, d2, d3, d4, d5, d6, d7, d8, d9, d10, d11, d12, d13, d14, d15, d16, d17, d18, d19])) : va_P D cl ([d0, c1, d1, d2, d3, d4, d5, d6, d7, d8, d9, d10, d11, d12, d13, d14, d15, d16, d17, d18, d19, c21, c22, c23]) H1 ∧ va_D A0 ([d0, c1, d1, d2, d3, d4, d5, d6, d7, d8, d9, d10, d11, d12, d13, d14, d15, d16, d17, d18, d19, c21, c22, c23]) := by
  obtain ⟨h1, h2⟩ := va_join (ws := [c0, c1, c2, c3, c4, c5, c6, c7, c8, c9, c10, c11, c12, c13, c14, c15, c16, c17, c18, c19, c20, c21, c22, c23]) (wc := [c0, c2, c3, c4, c5, c6, c7, c8, c9, c10, c11, c12, c13, c14, c15, c16, c17, c18, c19, c20]) (wr := [c1, c21, c22, c23]) (w1 := [d0, d1, d2, d3, d4, d5, d6, d7, d8, d9, d10, d11, d12, d13, d14, d15, d16, d17, d18, d19]) hP hD [0, 2, 3, 4, 5, 6, 7, 8, 9, 10, 11, 12, 13, 14, 15, 16, 17, 18, 19, 20] [1, 21, 22, 23] rfl rfl (by decide +kernel) (by decide +kernel) hk hF hP1 hD1
  exact ⟨va_P.sub (ws := [c1, c21, c22, c23, d0, d1, d2, d3, d4, d5, d6, d7, d8, d9, d10, d11, d12, d13, d14, d15, d16, d17, d18, d19]) (ws' := [d0, c1, d1, d2, d3, d4, d5, d6, d7, d8, d9, d10, d11, d12, d13, d14, d15, d16, d17, d18, d19, c21, c22, c23]) h1 [4, 0, 5, 6, 7, 8, 9, 10, 11, 12, 13, 14, 15, 16, 17, 18, 19, 20, 21, 22, 23, 1, 2, 3] rfl, va_D.sub (ws := [c1, c21, c22, c23, d0, d1, d2, d3, d4, d5, d6, d7, d8, d9, d10, d11, d12, d13, d14, d15, d16, d17, d18, d19]) (ws' := [d0, c1, d1, d2, d3, d4, d5, d6, d7, d8, d9, d10, d11, d12, d13, d14, d15, d16, d17, d18, d19, c21, c22, c23]) h2 [4, 0, 5, 6, 7, 8, 9, 10, 11, 12, 13, 14, 15, 16, 17, 18, 19, 20, 21, 22, 23, 1, 2, 3] (by decide +kernel) rfl⟩
theorem rgL24_e8f0203 {c0 c1 c2 c3 c4 c5 c6 c7 c8 c9 c10 c11 c12 c13 c14 c15 c16 c17 c18 c19 c20 c21 c22 c23 : Nat × va_E} : (([c0, c1, c2, c3, c4, c5, c6, c7, c8, c9, c10, c11, c12, c13, c14, c15, c16, c17, c18, c19, c20, c21, c22, c23] : va_W))[23]? = some c23 := rfl
theorem rgT23_79fa27c {t0 t1 t2 t3 t4 t5 t6 t7 t8 t9 t10 t11 t12 t13 t14 t15 t16 t17 t18 t19 t20 t21 t22 : ClassId × FieldType} : (([t0, t1, t2, t3, t4, t5, t6, t7, t8, t9, t10, t11, t12, t13, t14, t15, t16, t17, t18, t19, t20, t21, t22] : List (ClassId × FieldType)))[22]? = some t22 := rfl
theorem rgS24_dbd131e {A : Nat → Prop} {D : va_G} {cl : List vw_C} {H : Heap} {c0 c1 c2 c3 c4 c5 c6 c7 c8 c9 c10 c11 c12 c13 c14 c15 c16 c17 c18 c19 c20 c21 c22 c23 : Nat × va_E} {d e : Nat × va_E} (hP : va_P D cl (([c0, c1, c2, c3, c4, c5, c6, c7, c8, c9, c10, c11, c12, c13, c14, c15, c16, c17, c18, c19, c20, c21, c22, c23]).set 23 d) H) (hD : va_D A (([c0, c1, c2, c3, c4, c5, c6, c7, c8, c9, c10, c11, c12, c13, c14, c15, c16, c17, c18, c19, c20, c21, c22, c23]).set 23 d)) (h : d = e) : va_P D cl ([c0, c1, c2, c3, c4, c5, c6, c7, c8, c9, c10, c11, c12, c13, c14, c15, c16, c17, c18, c19, c20, c21, c22, e]) H ∧ va_D A ([c0, c1, c2, c3, c4, c5, c6, c7, c8, c9, c10, c11, c12, c13, c14, c15, c16, c17, c18, c19, c20, c21, c22, e]) := by subst h; exact ⟨hP, hD⟩
theorem rgP24_24f937d {D : va_G} {cl : List vw_C} {H : Heap} {c0 c1 c2 c3 c4 c5 c6 c7 c8 c9 c10 c11 c12 c13 c14 c15 c16 c17 c18 c19 c20 c21 c22 c23 : Nat × va_E} (h : va_P D cl ([c0, c1, c2, c3, c4, c5, c6, c7, c8, c9, c10, c11, c12, c13, c14, c15, c16, c17, c18, c19, c20, c21, c22, c23]) H) : va_P D cl ([c0, c1, c2, c3, c4, c5, c6, c7, c8, c9, c10, c11, c12, c13, c14, c15, c16, c17, c18, c19]) H := h.sub (ws' := [c0, c1, c2, c3, c4, c5, c6, c7, c8, c9, c10, c11, c12, c13, c14, c15, c16, c17, c18, c19]) [0, 1, 2, 3, 4, 5, 6, 7, 8, 9, 10, 11, 12, 13, 14, 15, 16, 17, 18, 19] rfl
theorem rgK23_9236fac {D : va_G} {cl : List vw_C} {U : State} {t0 t1 t2 t3 t4 t5 t6 t7 t8 t9 t10 t11 t12 t13 t14 t15 t16 t17 t18 t19 t20 t21 t22 : ClassId × FieldType} (h : va_K D cl [t0, t1, t2, t3, t4, t5, t6, t7, t8, t9, t10, t11, t12, t13, t14, t15, t16, t17, t18, t19, t20, t21, t22] U) : va_K D cl [t0, t1, t2, t3, t4, t5, t6, t7, t8, t9, t10, t11, t12, t13, t14, t15, t16, t17, t18] U := h.sub (tys' := [t0, t1, t2, t3, t4, t5, t6, t7, t8, t9, t10, t11, t12, t13, t14, t15, t16, t17, t18]) [0, 1, 2, 3, 4, 5, 6, 7, 8, 9, 10, 11, 12, 13, 14, 15, 16, 17, 18] rfl
theorem rgD24_b172161 {A : Nat → Prop} {c0 c1 c2 c3 c4 c5 c6 c7 c8 c9 c10 c11 c12 c13 c14 c15 c16 c17 c18 c19 c20 c21 c22 c23 : Nat × va_E} (h : va_D A ([c0, c1, c2, c3, c4, c5, c6, c7, c8, c9, c10, c11, c12, c13, c14, c15, c16, c17, c18, c19, c20, c21, c22, c23])) : va_D A ([c0, c1, c2, c3, c4, c5, c6, c7, c8, c9, c10, c11, c12, c13, c14, c15, c16, c17, c18, c19]) := h.sub (ws' := [c0, c1, c2, c3, c4, c5, c6, c7, c8, c9, c10, c11, c12, c13, c14, c15, c16, c17, c18, c19]) [0, 1, 2, 3, 4, 5, 6, 7, 8, 9, 10, 11, 12, 13, 14, 15, 16, 17, 18, 19] (by decide +kernel) rfl
theorem rgJ24_de21846 {A0 : Nat → Prop} {D : va_G} {cl : List vw_C} {H H1 : Heap} {c0 c1 c2 c3 c4 c5 c6 c7 c8 c9 c10 c11 c12 c13 c14 c15 c16 c17 c18 c19 c20 c21 c22 c23 : Nat × va_E} {d0 d1 d2 d3 d4 d5 d6 d7 d8 d9 d10 d11 d12 d13 d14 d15 d16 d17 d18 d19 : Nat × va_E} (hP : va_P D cl ([c0, c1, c2, c3, c4, c5, c6, c7, c8, c9, c10, c11, c12, c13, c14, c15, c16, c17, c18, c19, c20, c21, c22, c23]) H) (hD : va_D A0 ([c0, c1, c2, c3, c4, c5, c6, c7, c8, c9, c10, c11, c12, c13, c14, c15, c16, c17, c18, c19, c20, c21, c22, c23])) (hk : ∀ q : Nat, q < H.size → ¬ va_A ([c0, c1, c2, c3, c4, c5, c6, c7, c8, c9, c10, c11, c12, c13, c14, c15, c16, c17, c18, c19]) H.size q → H1[q]? = H[q]?) (hF : ∀ q, va_A ([c0, c1, c2, c3, c4, c5, c6, c7, c8, c9, c10, c11, c12, c13, c14, c15, c16, c17, c18, c19]) H.size q → A0 q) (hP1 : va_P D cl ([d0, d1, d2, d3, d4, d5, d6, d7, d8, d9, d10, d11, d12, d13, d14, d15, d16, d17, d18, d19]) H1) (hD1 : va_D (va_A ([c0, c1, c2, c3, c4, c5, c6, c7, c8, c9, c10, c11, c12, c13, c14, c15, c16, c17, c18, c19]) H.size) ([d0, d1, d2, d3, d4, d5, d6, d7, d8, d9, d10, d11, d12, d13, d14, d15, d16, d17, d18, d19])) : va_P D cl ([d0, d1, d2, d3, d4, d5, d6, d7, d8, d9, d10, d11, d12, d13, d14, d15, d16, d17, d18, d19, c20, c21, c22, c23]) H1 ∧ va_D A0 ([d0, d1, d2, d3, d4, d5, d6, d7, d8, d9, d10, d11, d12, d13, d14, d15, d16, d17, d18, d19, c20, c21, c22, c23]) := by
  obtain ⟨h1, h2⟩ := va_join (ws := [c0, c1, c2, c3, c4, c5, c6, c7, c8, c9, c10, c11, c12, c13, c14, c15, c16, c17, c18, c19, c20, c21, c22, c23]) (wc := [c0, c1, c2, c3, c4, c5, c6, c7, c8, c9, c10, c11, c12, c13, c14, c15, c16, c17, c18, c19]) (wr := [c20, c21, c22, c23]) (w1 := [d0, d1, d2, d3, d4, d5, d6, d7, d8, d9, d10, d11, d12, d13, d14, d15, d16, d17, d18, d19]) hP hD [0, 1, 2, 3, 4, 5, 6, 7, 8, 9, 10, 11, 12, 13, 14, 15, 16, 17, 18, 19] [20, 21, 22, 23] rfl rfl (by decide +kernel) (by decide +kernel) hk hF hP1 hD1
  exact ⟨va_P.sub (ws := [c20, c21, c22, c23, d0, d1, d2, d3, d4, d5, d6, d7, d8, d9, d10, d11, d12, d13, d14, d15, d16, d17, d18, d19]) (ws' := [d0, d1, d2, d3, d4, d5, d6, d7, d8, d9, d10, d11, d12, d13, d14, d15, d16, d17, d18, d19, c20, c21, c22, c23]) h1 [4, 5, 6, 7, 8, 9, 10, 11, 12, 13, 14, 15, 16, 17, 18, 19, 20, 21, 22, 23, 0, 1, 2, 3] rfl, va_D.sub (ws := [c20, c21, c22, c23, d0, d1, d2, d3, d4, d5, d6, d7, d8, d9, d10, d11, d12, d13, d14, d15, d16, d17, d18, d19]) (ws' := [d0, d1, d2, d3, d4, d5, d6, d7, d8, d9, d10, d11, d12, d13, d14, d15, d16, d17, d18, d19, c20, c21, c22, c23]) h2 [4, 5, 6, 7, 8, 9, 10, 11, 12, 13, 14, 15, 16, 17, 18, 19, 20, 21, 22, 23, 0, 1, 2, 3] (by decide +kernel) rfl⟩
set_option maxHeartbeats 4000000 in
set_option maxRecDepth 100000 in
theorem k_X9_text (l : Launch) (dC : Nat → ClassId) (dI : Nat → Nat → Nat) (g : Gv) (sz : Nat) (a0 : Nat) (a1 : Int32) (a0_0 : Int32) (a0_1 : Int32) (a0_2 : Int32) (a0_3 : Int32) (a0_4 : Nat) (a0_5 : Int32) (a0_6 : Int32) (a0_7 : Int32) (a0_8 : Int32) (a0_9 : Int32) (a0_10 : Int32) (a0_11 : Int64) (a0_12 : Int32) (a0_13 : Int32) (a0_14 : Int32) (a0_15 : Int32) (a0_16 : Int32) (a0_17 : Int32) (a0_18 : Nat) (a0_19 : Nat) (a0_20 : Nat) (a0_21 : Nat) (a0_22 : Nat) (a0_23 : Nat) (a0_24 : Nat) (a0_25 : Nat) (a0_26 : Nat) (a0_27 : Nat) (a0_28 : Nat) (a0_29 : Nat) (a0_30 : Nat) (a0_31 : Nat) (a0_32 : Nat) (a0_33 : Nat) (a0_34 : Nat) (a0_35 : Nat) (a0_36 : Int64) (a0_37 : Int32) (a0_38 : Nat) (a0_39 : Nat) (a0_40 : Int32) (a0_41 : Nat) (a0_42 : Nat) (a0_43 : Nat) (a0_4_c : ClassId) (a0_4_f : Nat → Int32) (a0_18_c : ClassId) (a0_18_f : Nat → Int32) (a0_19_c : ClassId) (a0_19_f : Nat → Int32) (a0_20_c : ClassId) (a0_20_f : Nat → Int32) (a0_21_c : ClassId) (a0_21_f : Nat → Int32) (a0_22_c : ClassId) (a0_22_f : Nat → Int64) (a0_23_c : ClassId) (a0_23_f : Nat → Int32) (a0_24_c : ClassId) (a0_24_f : Nat → Int32) (a0_25_c : ClassId) (a0_25_f : Nat → Int64) (a0_26_c : ClassId) (a0_26_f : Nat → Int32) (a0_27_c : ClassId) (a0_27_f : Nat → Int64) (a0_28_c : ClassId) (a0_28_f : Nat → Int32) (a0_29_c : ClassId) (a0_29_f : Nat → Int32) (a0_30_c : ClassId) (a0_30_f : Nat → Int32) (a0_31_c : ClassId) (a0_31_f : Nat → Int32) (a0_32_c : ClassId) (a0_32_f : Nat → Int32) (a0_33_c : ClassId) (a0_33_f : Nat → Int32) (a0_34_c : ClassId) (a0_34_f : Nat → Int32) (a0_35_c : ClassId) (a0_35_f : Nat → Int32) (a0_38_c : ClassId) (a0_38_f : Nat → Int32) (a0_39_c : ClassId) (a0_39_f : Nat → Int32) (a0_41_c : ClassId) (a0_41_f : Nat → Int32) (a0_42_c : ClassId) (a0_42_f : Nat → Int32) (h_a0_5 : 0 ≤ a0_5.toInt ∧ a0_5.toInt ≤ 1000) (h_a0_6 : 0 ≤ a0_6.toInt ∧ a0_6.toInt ≤ 1000) (h_a0_7 : 0 ≤ a0_7.toInt ∧ a0_7.toInt ≤ 1000) (h_a0_8 : 0 ≤ a0_8.toInt ∧ a0_8.toInt ≤ 1000) (h_a0_17 : 0 ≤ a0_17.toInt ∧ a0_17.toInt ≤ 1) (h_a0_37 : (-1) ≤ a0_37.toInt ∧ a0_37.toInt ≤ 23) (h_a0_40 : 0 ≤ a0_40.toInt ∧ a0_40.toInt ≤ 12) (h_a0_18_f : vr 0 8 a0_18_f) (h_a0_19_f : vr 0 4 a0_19_f) (h_a0_20_f : vr 0 24 a0_20_f) (h_a0_21_f : vr 0 12 a0_21_f) (hb0 : a0_17.toInt = 0) (hms : RowOk (a0_20_f 0).toInt a0_38_f 0) (hmw : WOk a0_32_f a0_33_f 0 (a0_21_f 0).toInt) (hmu : MU (a0_20_f 0).toInt a0_39_f a0_40) (hmk : MK (a0_20_f 0).toInt a0_41_f a0_42_f) : Met l yX9_text (.code yX9_text cX9_text 4 (some .int) :: TBL) ({ frames := 11, cells := 0, slots := 0, locals := 313 }) (va_Pc [.ref a0, .int a1] (fun U => U.heap.size = sz ∧ va_P (dC, dI) vwCl [(a0, .inr (8, [.int a0_0, .int a0_1, .int a0_2, .int a0_3, .ref a0_4, .int a0_5, .int a0_6, .int a0_7, .int a0_8, .int a0_9, .int a0_10, .long a0_11, .int a0_12, .int a0_13, .int a0_14, .int a0_15, .int a0_16, .int a0_17, .ref a0_18, .ref a0_19, .ref a0_20, .ref a0_21, .ref a0_22, .ref a0_23, .ref a0_24, .ref a0_25, .ref a0_26, .ref a0_27, .ref a0_28, .ref a0_29, .ref a0_30, .ref a0_31, .ref a0_32, .ref a0_33, .ref a0_34, .ref a0_35, .long a0_36, .int a0_37, .ref a0_38, .ref a0_39, .int a0_40, .ref a0_41, .ref a0_42, .ref a0_43])), (a0_4, .inl (a0_4_c, 1000, .inl a0_4_f)), (a0_18, .inl (a0_18_c, 2, .inl a0_18_f)), (a0_19, .inl (a0_19_c, 2, .inl a0_19_f)), (a0_20, .inl (a0_20_c, 2, .inl a0_20_f)), (a0_21, .inl (a0_21_c, 2, .inl a0_21_f)), (a0_22, .inl (a0_22_c, 16, .inr (.inl a0_22_f))), (a0_23, .inl (a0_23_c, 16, .inl a0_23_f)), (a0_24, .inl (a0_24_c, 16, .inl a0_24_f)), (a0_25, .inl (a0_25_c, 8, .inr (.inl a0_25_f))), (a0_26, .inl (a0_26_c, 8, .inl a0_26_f)), (a0_27, .inl (a0_27_c, 48, .inr (.inl a0_27_f))), (a0_28, .inl (a0_28_c, 48, .inl a0_28_f)), (a0_29, .inl (a0_29_c, 48, .inl a0_29_f)), (a0_30, .inl (a0_30_c, 48, .inl a0_30_f)), (a0_31, .inl (a0_31_c, 48, .inl a0_31_f)), (a0_32, .inl (a0_32_c, 24, .inl a0_32_f)), (a0_33, .inl (a0_33_c, 24, .inl a0_33_f)), (a0_34, .inl (a0_34_c, 72, .inl a0_34_f)), (a0_35, .inl (a0_35_c, 24, .inl a0_35_f)), (a0_38, .inl (a0_38_c, 176, .inl a0_38_f)), (a0_39, .inl (a0_39_c, 2112, .inl a0_39_f)), (a0_41, .inl (a0_41_c, 352, .inl a0_41_f)), (a0_42, .inl (a0_42_c, 2, .inl a0_42_f))] U.heap ∧ va_K (dC, dI) vwCl [(a0_4_c, .byte), (a0_18_c, .int), (a0_19_c, .int), (a0_20_c, .int), (a0_21_c, .int), (a0_22_c, .long), (a0_23_c, .int), (a0_24_c, .int), (a0_25_c, .long), (a0_26_c, .int), (a0_27_c, .long), (a0_28_c, .int), (a0_29_c, .int), (a0_30_c, .int), (a0_31_c, .int), (a0_32_c, .int), (a0_33_c, .int), (a0_34_c, .int), (a0_35_c, .boolean), (a0_38_c, .int), (a0_39_c, .int), (a0_41_c, .int), (a0_42_c, .boolean)] U ∧ va_D (fun _ => True) [(a0, .inr (8, [.int a0_0, .int a0_1, .int a0_2, .int a0_3, .ref a0_4, .int a0_5, .int a0_6, .int a0_7, .int a0_8, .int a0_9, .int a0_10, .long a0_11, .int a0_12, .int a0_13, .int a0_14, .int a0_15, .int a0_16, .int a0_17, .ref a0_18, .ref a0_19, .ref a0_20, .ref a0_21, .ref a0_22, .ref a0_23, .ref a0_24, .ref a0_25, .ref a0_26, .ref a0_27, .ref a0_28, .ref a0_29, .ref a0_30, .ref a0_31, .ref a0_32, .ref a0_33, .ref a0_34, .ref a0_35, .long a0_36, .int a0_37, .ref a0_38, .ref a0_39, .int a0_40, .ref a0_41, .ref a0_42, .ref a0_43])), (a0_4, .inl (a0_4_c, 1000, .inl a0_4_f)), (a0_18, .inl (a0_18_c, 2, .inl a0_18_f)), (a0_19, .inl (a0_19_c, 2, .inl a0_19_f)), (a0_20, .inl (a0_20_c, 2, .inl a0_20_f)), (a0_21, .inl (a0_21_c, 2, .inl a0_21_f)), (a0_22, .inl (a0_22_c, 16, .inr (.inl a0_22_f))), (a0_23, .inl (a0_23_c, 16, .inl a0_23_f)), (a0_24, .inl (a0_24_c, 16, .inl a0_24_f)), (a0_25, .inl (a0_25_c, 8, .inr (.inl a0_25_f))), (a0_26, .inl (a0_26_c, 8, .inl a0_26_f)), (a0_27, .inl (a0_27_c, 48, .inr (.inl a0_27_f))), (a0_28, .inl (a0_28_c, 48, .inl a0_28_f)), (a0_29, .inl (a0_29_c, 48, .inl a0_29_f)), (a0_30, .inl (a0_30_c, 48, .inl a0_30_f)), (a0_31, .inl (a0_31_c, 48, .inl a0_31_f)), (a0_32, .inl (a0_32_c, 24, .inl a0_32_f)), (a0_33, .inl (a0_33_c, 24, .inl a0_33_f)), (a0_34, .inl (a0_34_c, 72, .inl a0_34_f)), (a0_35, .inl (a0_35_c, 24, .inl a0_35_f)), (a0_38, .inl (a0_38_c, 176, .inl a0_38_f)), (a0_39, .inl (a0_39_c, 2112, .inl a0_39_f)), (a0_41, .inl (a0_41_c, 352, .inl a0_41_f)), (a0_42, .inl (a0_42_c, 2, .inl a0_42_f))] ∧ Ev g (va_A [(a0, .inr (8, [.int a0_0, .int a0_1, .int a0_2, .int a0_3, .ref a0_4, .int a0_5, .int a0_6, .int a0_7, .int a0_8, .int a0_9, .int a0_10, .long a0_11, .int a0_12, .int a0_13, .int a0_14, .int a0_15, .int a0_16, .int a0_17, .ref a0_18, .ref a0_19, .ref a0_20, .ref a0_21, .ref a0_22, .ref a0_23, .ref a0_24, .ref a0_25, .ref a0_26, .ref a0_27, .ref a0_28, .ref a0_29, .ref a0_30, .ref a0_31, .ref a0_32, .ref a0_33, .ref a0_34, .ref a0_35, .long a0_36, .int a0_37, .ref a0_38, .ref a0_39, .int a0_40, .ref a0_41, .ref a0_42, .ref a0_43])), (a0_4, .inl (a0_4_c, 1000, .inl a0_4_f)), (a0_18, .inl (a0_18_c, 2, .inl a0_18_f)), (a0_19, .inl (a0_19_c, 2, .inl a0_19_f)), (a0_20, .inl (a0_20_c, 2, .inl a0_20_f)), (a0_21, .inl (a0_21_c, 2, .inl a0_21_f)), (a0_22, .inl (a0_22_c, 16, .inr (.inl a0_22_f))), (a0_23, .inl (a0_23_c, 16, .inl a0_23_f)), (a0_24, .inl (a0_24_c, 16, .inl a0_24_f)), (a0_25, .inl (a0_25_c, 8, .inr (.inl a0_25_f))), (a0_26, .inl (a0_26_c, 8, .inl a0_26_f)), (a0_27, .inl (a0_27_c, 48, .inr (.inl a0_27_f))), (a0_28, .inl (a0_28_c, 48, .inl a0_28_f)), (a0_29, .inl (a0_29_c, 48, .inl a0_29_f)), (a0_30, .inl (a0_30_c, 48, .inl a0_30_f)), (a0_31, .inl (a0_31_c, 48, .inl a0_31_f)), (a0_32, .inl (a0_32_c, 24, .inl a0_32_f)), (a0_33, .inl (a0_33_c, 24, .inl a0_33_f)), (a0_34, .inl (a0_34_c, 72, .inl a0_34_f)), (a0_35, .inl (a0_35_c, 24, .inl a0_35_f)), (a0_38, .inl (a0_38_c, 176, .inl a0_38_f)), (a0_39, .inl (a0_39_c, 2112, .inl a0_39_f)), (a0_41, .inl (a0_41_c, 352, .inl a0_41_f)), (a0_42, .inl (a0_42_c, 2, .inl a0_42_f))] sz) U)) (va_Qi (fun (r : Int32) (u : Int32) => u = r) (fun (u : Int32) (t : State) => ∃ (za0_0 : Int32) (za0_5 : Int32) (za0_6 : Int32) (za0_7 : Int32) (za0_8 : Int32) (za0_9 : Int32) (za0_10 : Int32) (za0_11 : Int64) (za0_12 : Int32) (za0_13 : Int32) (za0_14 : Int32) (za0_15 : Int32) (za0_16 : Int32) (za0_17 : Int32) (za0_36 : Int64) (za0_37 : Int32) (za0_40 : Int32) (za0_18_f : Nat → Int32) (za0_19_f : Nat → Int32) (za0_20_f : Nat → Int32) (za0_21_f : Nat → Int32) (za0_22_f : Nat → Int64) (za0_23_f : Nat → Int32) (za0_24_f : Nat → Int32) (za0_25_f : Nat → Int64) (za0_26_f : Nat → Int32) (za0_27_f : Nat → Int64) (za0_28_f : Nat → Int32) (za0_29_f : Nat → Int32) (za0_30_f : Nat → Int32) (za0_31_f : Nat → Int32) (za0_32_f : Nat → Int32) (za0_33_f : Nat → Int32) (za0_34_f : Nat → Int32) (za0_35_f : Nat → Int32) (za0_38_f : Nat → Int32) (za0_42_f : Nat → Int32), (0 ≤ za0_5.toInt ∧ za0_5.toInt ≤ 1000) ∧ (0 ≤ za0_6.toInt ∧ za0_6.toInt ≤ 1000) ∧ (0 ≤ za0_7.toInt ∧ za0_7.toInt ≤ 1000) ∧ (0 ≤ za0_8.toInt ∧ za0_8.toInt ≤ 1000) ∧ (0 ≤ za0_17.toInt ∧ za0_17.toInt ≤ 1) ∧ ((-1) ≤ za0_37.toInt ∧ za0_37.toInt ≤ 23) ∧ (0 ≤ za0_40.toInt ∧ za0_40.toInt ≤ 12) ∧ vr 0 8 za0_18_f ∧ vr 0 4 za0_19_f ∧ vr 0 24 za0_20_f ∧ vr 0 12 za0_21_f ∧ (za0_17.toInt = 0) ∧ (RowOk (za0_20_f 0).toInt za0_38_f 0) ∧ (WOk za0_32_f za0_33_f 0 (za0_21_f 0).toInt) ∧ (MU (za0_20_f 0).toInt a0_39_f za0_40) ∧ (MK (za0_20_f 0).toInt a0_41_f za0_42_f) ∧ (TE a1 a0_5 za0_5) ∧ va_P (dC, dI) vwCl [(a0, .inr (8, [.int za0_0, .int a0_1, .int a0_2, .int a0_3, .ref a0_4, .int za0_5, .int za0_6, .int za0_7, .int za0_8, .int za0_9, .int za0_10, .long za0_11, .int za0_12, .int za0_13, .int za0_14, .int za0_15, .int za0_16, .int za0_17, .ref a0_18, .ref a0_19, .ref a0_20, .ref a0_21, .ref a0_22, .ref a0_23, .ref a0_24, .ref a0_25, .ref a0_26, .ref a0_27, .ref a0_28, .ref a0_29, .ref a0_30, .ref a0_31, .ref a0_32, .ref a0_33, .ref a0_34, .ref a0_35, .long za0_36, .int za0_37, .ref a0_38, .ref a0_39, .int za0_40, .ref a0_41, .ref a0_42, .ref a0_43])), (a0_4, .inl (a0_4_c, 1000, .inl a0_4_f)), (a0_18, .inl (a0_18_c, 2, .inl za0_18_f)), (a0_19, .inl (a0_19_c, 2, .inl za0_19_f)), (a0_20, .inl (a0_20_c, 2, .inl za0_20_f)), (a0_21, .inl (a0_21_c, 2, .inl za0_21_f)), (a0_22, .inl (a0_22_c, 16, .inr (.inl za0_22_f))), (a0_23, .inl (a0_23_c, 16, .inl za0_23_f)), (a0_24, .inl (a0_24_c, 16, .inl za0_24_f)), (a0_25, .inl (a0_25_c, 8, .inr (.inl za0_25_f))), (a0_26, .inl (a0_26_c, 8, .inl za0_26_f)), (a0_27, .inl (a0_27_c, 48, .inr (.inl za0_27_f))), (a0_28, .inl (a0_28_c, 48, .inl za0_28_f)), (a0_29, .inl (a0_29_c, 48, .inl za0_29_f)), (a0_30, .inl (a0_30_c, 48, .inl za0_30_f)), (a0_31, .inl (a0_31_c, 48, .inl za0_31_f)), (a0_32, .inl (a0_32_c, 24, .inl za0_32_f)), (a0_33, .inl (a0_33_c, 24, .inl za0_33_f)), (a0_34, .inl (a0_34_c, 72, .inl za0_34_f)), (a0_35, .inl (a0_35_c, 24, .inl za0_35_f)), (a0_38, .inl (a0_38_c, 176, .inl za0_38_f)), (a0_39, .inl (a0_39_c, 2112, .inl a0_39_f)), (a0_41, .inl (a0_41_c, 352, .inl a0_41_f)), (a0_42, .inl (a0_42_c, 2, .inl za0_42_f))] t.heap ∧ va_K (dC, dI) vwCl [] t ∧ va_D (va_A [(a0, .inr (8, [.int a0_0, .int a0_1, .int a0_2, .int a0_3, .ref a0_4, .int a0_5, .int a0_6, .int a0_7, .int a0_8, .int a0_9, .int a0_10, .long a0_11, .int a0_12, .int a0_13, .int a0_14, .int a0_15, .int a0_16, .int a0_17, .ref a0_18, .ref a0_19, .ref a0_20, .ref a0_21, .ref a0_22, .ref a0_23, .ref a0_24, .ref a0_25, .ref a0_26, .ref a0_27, .ref a0_28, .ref a0_29, .ref a0_30, .ref a0_31, .ref a0_32, .ref a0_33, .ref a0_34, .ref a0_35, .long a0_36, .int a0_37, .ref a0_38, .ref a0_39, .int a0_40, .ref a0_41, .ref a0_42, .ref a0_43])), (a0_4, .inl (a0_4_c, 1000, .inl a0_4_f)), (a0_18, .inl (a0_18_c, 2, .inl a0_18_f)), (a0_19, .inl (a0_19_c, 2, .inl a0_19_f)), (a0_20, .inl (a0_20_c, 2, .inl a0_20_f)), (a0_21, .inl (a0_21_c, 2, .inl a0_21_f)), (a0_22, .inl (a0_22_c, 16, .inr (.inl a0_22_f))), (a0_23, .inl (a0_23_c, 16, .inl a0_23_f)), (a0_24, .inl (a0_24_c, 16, .inl a0_24_f)), (a0_25, .inl (a0_25_c, 8, .inr (.inl a0_25_f))), (a0_26, .inl (a0_26_c, 8, .inl a0_26_f)), (a0_27, .inl (a0_27_c, 48, .inr (.inl a0_27_f))), (a0_28, .inl (a0_28_c, 48, .inl a0_28_f)), (a0_29, .inl (a0_29_c, 48, .inl a0_29_f)), (a0_30, .inl (a0_30_c, 48, .inl a0_30_f)), (a0_31, .inl (a0_31_c, 48, .inl a0_31_f)), (a0_32, .inl (a0_32_c, 24, .inl a0_32_f)), (a0_33, .inl (a0_33_c, 24, .inl a0_33_f)), (a0_34, .inl (a0_34_c, 72, .inl a0_34_f)), (a0_35, .inl (a0_35_c, 24, .inl a0_35_f)), (a0_38, .inl (a0_38_c, 176, .inl a0_38_f)), (a0_39, .inl (a0_39_c, 2112, .inl a0_39_f)), (a0_41, .inl (a0_41_c, 352, .inl a0_41_f)), (a0_42, .inl (a0_42_c, 2, .inl a0_42_f))] sz) [(a0, .inr (8, [.int za0_0, .int a0_1, .int a0_2, .int a0_3, .ref a0_4, .int za0_5, .int za0_6, .int za0_7, .int za0_8, .int za0_9, .int za0_10, .long za0_11, .int za0_12, .int za0_13, .int za0_14, .int za0_15, .int za0_16, .int za0_17, .ref a0_18, .ref a0_19, .ref a0_20, .ref a0_21, .ref a0_22, .ref a0_23, .ref a0_24, .ref a0_25, .ref a0_26, .ref a0_27, .ref a0_28, .ref a0_29, .ref a0_30, .ref a0_31, .ref a0_32, .ref a0_33, .ref a0_34, .ref a0_35, .long za0_36, .int za0_37, .ref a0_38, .ref a0_39, .int za0_40, .ref a0_41, .ref a0_42, .ref a0_43])), (a0_4, .inl (a0_4_c, 1000, .inl a0_4_f)), (a0_18, .inl (a0_18_c, 2, .inl za0_18_f)), (a0_19, .inl (a0_19_c, 2, .inl za0_19_f)), (a0_20, .inl (a0_20_c, 2, .inl za0_20_f)), (a0_21, .inl (a0_21_c, 2, .inl za0_21_f)), (a0_22, .inl (a0_22_c, 16, .inr (.inl za0_22_f))), (a0_23, .inl (a0_23_c, 16, .inl za0_23_f)), (a0_24, .inl (a0_24_c, 16, .inl za0_24_f)), (a0_25, .inl (a0_25_c, 8, .inr (.inl za0_25_f))), (a0_26, .inl (a0_26_c, 8, .inl za0_26_f)), (a0_27, .inl (a0_27_c, 48, .inr (.inl za0_27_f))), (a0_28, .inl (a0_28_c, 48, .inl za0_28_f)), (a0_29, .inl (a0_29_c, 48, .inl za0_29_f)), (a0_30, .inl (a0_30_c, 48, .inl za0_30_f)), (a0_31, .inl (a0_31_c, 48, .inl za0_31_f)), (a0_32, .inl (a0_32_c, 24, .inl za0_32_f)), (a0_33, .inl (a0_33_c, 24, .inl za0_33_f)), (a0_34, .inl (a0_34_c, 72, .inl za0_34_f)), (a0_35, .inl (a0_35_c, 24, .inl za0_35_f)), (a0_38, .inl (a0_38_c, 176, .inl za0_38_f)), (a0_39, .inl (a0_39_c, 2112, .inl a0_39_f)), (a0_41, .inl (a0_41_c, 352, .inl a0_41_f)), (a0_42, .inl (a0_42_c, 2, .inl za0_42_f))]) (va_A [(a0, .inr (8, [.int a0_0, .int a0_1, .int a0_2, .int a0_3, .ref a0_4, .int a0_5, .int a0_6, .int a0_7, .int a0_8, .int a0_9, .int a0_10, .long a0_11, .int a0_12, .int a0_13, .int a0_14, .int a0_15, .int a0_16, .int a0_17, .ref a0_18, .ref a0_19, .ref a0_20, .ref a0_21, .ref a0_22, .ref a0_23, .ref a0_24, .ref a0_25, .ref a0_26, .ref a0_27, .ref a0_28, .ref a0_29, .ref a0_30, .ref a0_31, .ref a0_32, .ref a0_33, .ref a0_34, .ref a0_35, .long a0_36, .int a0_37, .ref a0_38, .ref a0_39, .int a0_40, .ref a0_41, .ref a0_42, .ref a0_43])), (a0_4, .inl (a0_4_c, 1000, .inl a0_4_f)), (a0_18, .inl (a0_18_c, 2, .inl a0_18_f)), (a0_19, .inl (a0_19_c, 2, .inl a0_19_f)), (a0_20, .inl (a0_20_c, 2, .inl a0_20_f)), (a0_21, .inl (a0_21_c, 2, .inl a0_21_f)), (a0_22, .inl (a0_22_c, 16, .inr (.inl a0_22_f))), (a0_23, .inl (a0_23_c, 16, .inl a0_23_f)), (a0_24, .inl (a0_24_c, 16, .inl a0_24_f)), (a0_25, .inl (a0_25_c, 8, .inr (.inl a0_25_f))), (a0_26, .inl (a0_26_c, 8, .inl a0_26_f)), (a0_27, .inl (a0_27_c, 48, .inr (.inl a0_27_f))), (a0_28, .inl (a0_28_c, 48, .inl a0_28_f)), (a0_29, .inl (a0_29_c, 48, .inl a0_29_f)), (a0_30, .inl (a0_30_c, 48, .inl a0_30_f)), (a0_31, .inl (a0_31_c, 48, .inl a0_31_f)), (a0_32, .inl (a0_32_c, 24, .inl a0_32_f)), (a0_33, .inl (a0_33_c, 24, .inl a0_33_f)), (a0_34, .inl (a0_34_c, 72, .inl a0_34_f)), (a0_35, .inl (a0_35_c, 24, .inl a0_35_f)), (a0_38, .inl (a0_38_c, 176, .inl a0_38_f)), (a0_39, .inl (a0_39_c, 2112, .inl a0_39_f)), (a0_41, .inl (a0_41_c, 352, .inl a0_41_f)), (a0_42, .inl (a0_42_c, 2, .inl a0_42_f))] sz)) 0 0 (va_A [(a0, .inr (8, [.int a0_0, .int a0_1, .int a0_2, .int a0_3, .ref a0_4, .int a0_5, .int a0_6, .int a0_7, .int a0_8, .int a0_9, .int a0_10, .long a0_11, .int a0_12, .int a0_13, .int a0_14, .int a0_15, .int a0_16, .int a0_17, .ref a0_18, .ref a0_19, .ref a0_20, .ref a0_21, .ref a0_22, .ref a0_23, .ref a0_24, .ref a0_25, .ref a0_26, .ref a0_27, .ref a0_28, .ref a0_29, .ref a0_30, .ref a0_31, .ref a0_32, .ref a0_33, .ref a0_34, .ref a0_35, .long a0_36, .int a0_37, .ref a0_38, .ref a0_39, .int a0_40, .ref a0_41, .ref a0_42, .ref a0_43])), (a0_4, .inl (a0_4_c, 1000, .inl a0_4_f)), (a0_18, .inl (a0_18_c, 2, .inl a0_18_f)), (a0_19, .inl (a0_19_c, 2, .inl a0_19_f)), (a0_20, .inl (a0_20_c, 2, .inl a0_20_f)), (a0_21, .inl (a0_21_c, 2, .inl a0_21_f)), (a0_22, .inl (a0_22_c, 16, .inr (.inl a0_22_f))), (a0_23, .inl (a0_23_c, 16, .inl a0_23_f)), (a0_24, .inl (a0_24_c, 16, .inl a0_24_f)), (a0_25, .inl (a0_25_c, 8, .inr (.inl a0_25_f))), (a0_26, .inl (a0_26_c, 8, .inl a0_26_f)), (a0_27, .inl (a0_27_c, 48, .inr (.inl a0_27_f))), (a0_28, .inl (a0_28_c, 48, .inl a0_28_f)), (a0_29, .inl (a0_29_c, 48, .inl a0_29_f)), (a0_30, .inl (a0_30_c, 48, .inl a0_30_f)), (a0_31, .inl (a0_31_c, 48, .inl a0_31_f)), (a0_32, .inl (a0_32_c, 24, .inl a0_32_f)), (a0_33, .inl (a0_33_c, 24, .inl a0_33_f)), (a0_34, .inl (a0_34_c, 72, .inl a0_34_f)), (a0_35, .inl (a0_35_c, 24, .inl a0_35_f)), (a0_38, .inl (a0_38_c, 176, .inl a0_38_f)), (a0_39, .inl (a0_39_c, 2112, .inl a0_39_f)), (a0_41, .inl (a0_41_c, 352, .inl a0_41_f)), (a0_42, .inl (a0_42_c, 2, .inl a0_42_f))] sz) := by
  refine Met.ofW (cc := cX9_text) (maxL := 4) (ret := (some .int)) (by decide) rfl ?_
  intro p e s m args below meth c s₁ B hml hv
  obtain ⟨rfl, hsz, hP, hK, hD0, hE⟩ := hv
  have hx := B.exec
  have hb := B.bytes
  have hr := B.returns
  have hts0 := atoms_spec (ws := (.code yX9_text cX9_text 4 (some .int) :: TBL)) B.pre
  have hts := fun (w : Cond) (h : w ∈ TBL) => hts0 w (List.mem_cons_of_mem _ h)
  have hown : s.vm.findClass RX9 = some m.cls := findClass_of_methodNamed B.named
  have hlocks := B.notSynchronized
  have hN := hE.1
  subst hsz
  have hD := hD0.self (sz := s.heap.size)
  generalize hAe : va_A [(a0, .inr (8, [.int a0_0, .int a0_1, .int a0_2, .int a0_3, .ref a0_4, .int a0_5, .int a0_6, .int a0_7, .int a0_8, .int a0_9, .int a0_10, .long a0_11, .int a0_12, .int a0_13, .int a0_14, .int a0_15, .int a0_16, .int a0_17, .ref a0_18, .ref a0_19, .ref a0_20, .ref a0_21, .ref a0_22, .ref a0_23, .ref a0_24, .ref a0_25, .ref a0_26, .ref a0_27, .ref a0_28, .ref a0_29, .ref a0_30, .ref a0_31, .ref a0_32, .ref a0_33, .ref a0_34, .ref a0_35, .long a0_36, .int a0_37, .ref a0_38, .ref a0_39, .int a0_40, .ref a0_41, .ref a0_42, .ref a0_43])), (a0_4, .inl (a0_4_c, 1000, .inl a0_4_f)), (a0_18, .inl (a0_18_c, 2, .inl a0_18_f)), (a0_19, .inl (a0_19_c, 2, .inl a0_19_f)), (a0_20, .inl (a0_20_c, 2, .inl a0_20_f)), (a0_21, .inl (a0_21_c, 2, .inl a0_21_f)), (a0_22, .inl (a0_22_c, 16, .inr (.inl a0_22_f))), (a0_23, .inl (a0_23_c, 16, .inl a0_23_f)), (a0_24, .inl (a0_24_c, 16, .inl a0_24_f)), (a0_25, .inl (a0_25_c, 8, .inr (.inl a0_25_f))), (a0_26, .inl (a0_26_c, 8, .inl a0_26_f)), (a0_27, .inl (a0_27_c, 48, .inr (.inl a0_27_f))), (a0_28, .inl (a0_28_c, 48, .inl a0_28_f)), (a0_29, .inl (a0_29_c, 48, .inl a0_29_f)), (a0_30, .inl (a0_30_c, 48, .inl a0_30_f)), (a0_31, .inl (a0_31_c, 48, .inl a0_31_f)), (a0_32, .inl (a0_32_c, 24, .inl a0_32_f)), (a0_33, .inl (a0_33_c, 24, .inl a0_33_f)), (a0_34, .inl (a0_34_c, 72, .inl a0_34_f)), (a0_35, .inl (a0_35_c, 24, .inl a0_35_f)), (a0_38, .inl (a0_38_c, 176, .inl a0_38_f)), (a0_39, .inl (a0_39_c, 2112, .inl a0_39_f)), (a0_41, .inl (a0_41_c, 352, .inl a0_41_f)), (a0_42, .inl (a0_42_c, 2, .inl a0_42_f))] s.heap.size = A at hD hE ⊢
  have hA : ∀ q : Nat, s.heap.size ≤ q → A q := fun q h => by rw [← hAe]; exact Or.inr h
  have hS : va_S A s.heap s.heap [] := va_S.rf
  replace hP : va_P (dC, dI) vwCl [(a0, .inr (8, [.int a0_0, .int a0_1, .int a0_2, .int a0_3, .ref a0_4, .int a0_5, .int a0_6, .int a0_7, .int a0_8, .int a0_9, .int a0_10, .long a0_11, .int a0_12, .int a0_13, .int a0_14, .int a0_15, .int a0_16, .int a0_17, .ref a0_18, .ref a0_19, .ref a0_20, .ref a0_21, .ref a0_22, .ref a0_23, .ref a0_24, .ref a0_25, .ref a0_26, .ref a0_27, .ref a0_28, .ref a0_29, .ref a0_30, .ref a0_31, .ref a0_32, .ref a0_33, .ref a0_34, .ref a0_35, .long a0_36, .int a0_37, .ref a0_38, .ref a0_39, .int a0_40, .ref a0_41, .ref a0_42, .ref a0_43])), (a0_4, .inl (a0_4_c, 1000, .inl a0_4_f)), (a0_18, .inl (a0_18_c, 2, .inl a0_18_f)), (a0_19, .inl (a0_19_c, 2, .inl a0_19_f)), (a0_20, .inl (a0_20_c, 2, .inl a0_20_f)), (a0_21, .inl (a0_21_c, 2, .inl a0_21_f)), (a0_22, .inl (a0_22_c, 16, .inr (.inl a0_22_f))), (a0_23, .inl (a0_23_c, 16, .inl a0_23_f)), (a0_24, .inl (a0_24_c, 16, .inl a0_24_f)), (a0_25, .inl (a0_25_c, 8, .inr (.inl a0_25_f))), (a0_26, .inl (a0_26_c, 8, .inl a0_26_f)), (a0_27, .inl (a0_27_c, 48, .inr (.inl a0_27_f))), (a0_28, .inl (a0_28_c, 48, .inl a0_28_f)), (a0_29, .inl (a0_29_c, 48, .inl a0_29_f)), (a0_30, .inl (a0_30_c, 48, .inl a0_30_f)), (a0_31, .inl (a0_31_c, 48, .inl a0_31_f)), (a0_32, .inl (a0_32_c, 24, .inl a0_32_f)), (a0_33, .inl (a0_33_c, 24, .inl a0_33_f)), (a0_34, .inl (a0_34_c, 72, .inl a0_34_f)), (a0_35, .inl (a0_35_c, 24, .inl a0_35_f)), (a0_38, .inl (a0_38_c, 176, .inl a0_38_f)), (a0_39, .inl (a0_39_c, 2112, .inl a0_39_f)), (a0_41, .inl (a0_41_c, 352, .inl a0_41_f)), (a0_42, .inl (a0_42_c, 2, .inl a0_42_f))] s.heap := hP
  have hl := lv_entry ([.ref a0, .int a1]) (n := 4) (Nat.le_of_ble_eq_true rfl)
  rw [lg_entry_eq]
  generalize (lg_sl ([.ref a0, .int a1]) ++ List.replicate (4 - (lg_sl ([.ref a0, .int a1])).length) Slot.unset).toArray = ls at hl ⊢
  have hl : lv_has ls 4 [(0, .ref a0), (1, .int a1)] := hl
  have b_a1 := i32b a1
  have b_a0_0 := i32b a0_0
  have b_a0_1 := i32b a0_1
  have b_a0_2 := i32b a0_2
  have b_a0_3 := i32b a0_3
  have b_a0_9 := i32b a0_9
  have b_a0_10 := i32b a0_10
  have b_a0_12 := i32b a0_12
  have b_a0_13 := i32b a0_13
  have b_a0_14 := i32b a0_14
  have b_a0_15 := i32b a0_15
  have b_a0_16 := i32b a0_16
  have hp20 := vr_at h_a0_20_f (k := 0) rfl
  have hp21 := vr_at h_a0_21_f (k := 0) rfl
  refine lv_aload_n hx hb dX9_text_0 rfl (lv_at hl 0 rfl) ?_
  refine lv_iconst (v := 0) hx hb dX9_text_1 (by decide) ?_
  refine va_put (D := (dC, dI)) (ci := 8) (v := .int 0) (ty := .int) (C := RX9) (T := TX9) (N := 44) hx hb hts inlX9 tyX9 tyX9_ok nmX9 hown hK hP hD hS 0 rgL24_33a7d57 rfl 0 (by decide) (hts (.fieldLink RX9 85 "ClosedUntilModel" "thrown" "I") qw_408) (fun _ h9 => h9) rfl (by decide +kernel) rfl rfl (Nat.le_of_ble_eq_true rfl) dX9_text_2 (fun H locs hP9 hD9 hS9 => ?_)
  clear hP hD hS
  obtain ⟨hP, hD⟩ := rgS24_31185a1 (e := (a0, .inr (8, [.int 0, .int a0_1, .int a0_2, .int a0_3, .ref a0_4, .int a0_5, .int a0_6, .int a0_7, .int a0_8, .int a0_9, .int a0_10, .long a0_11, .int a0_12, .int a0_13, .int a0_14, .int a0_15, .int a0_16, .int a0_17, .ref a0_18, .ref a0_19, .ref a0_20, .ref a0_21, .ref a0_22, .ref a0_23, .ref a0_24, .ref a0_25, .ref a0_26, .ref a0_27, .ref a0_28, .ref a0_29, .ref a0_30, .ref a0_31, .ref a0_32, .ref a0_33, .ref a0_34, .ref a0_35, .long a0_36, .int a0_37, .ref a0_38, .ref a0_39, .int a0_40, .ref a0_41, .ref a0_42, .ref a0_43]))) hP9 hD9 rfl
  have hS := hS9; clear hP9 hD9 hS9
  refine lv_iload_n hx hb dX9_text_5 rfl (lv_at hl 1 rfl) ?_
  refine lv_i2l hx hb dX9_text_6 rfl ?_
  refine lv_lconst (v := 0) hx hb dX9_text_7 (by decide) ?_
  refine lv_aload_n hx hb dX9_text_8 rfl (lv_at hl 0 rfl) ?_
  refine va_get (D := (dC, dI)) (ci := 8) (v := .int a0_5) (C := RX9) (T := TX9) (N := 44) hx hb hts inlX9 hown hK hP 0 rgL24_33a7d57 rfl 5 (by decide) (hts (.fieldLink RX9 142 "ClosedUntilModel" "taped" "I") qw_407) (fun _ h9 => h9) rfl dX9_text_9 ?_
  refine lv_i2l hx hb dX9_text_12 rfl ?_
  have hPc := (rgP24_7c6724e hP)
  have hKc := (rgK23_d68b342 hK)
  refine vp_callSi ((va_runS (As := [.long (a1.toInt64), .long 0, .long (a0_5.toInt64)]) (rest := []) ⟨hx, hb, hml, hown, hts⟩ (k_X9_within l dC dI g ((a1.toInt64)) (0) ((a0_5.toInt64)) (a1.toInt) (0) (a0_5.toInt) (w_li rfl) (by decide) (w_li rfl)) (va_cwS 3 hts (gwS qw_444 qw_445 qw_386 qw_443) rfl rfl rfl (by decide +kernel) ⟨Nat.le_of_ble_eq_true rfl, Nat.le_of_ble_eq_true rfl⟩) ⟨fun a U g9 mk q => ⟨q.1, q.2.1, va_K.moved (u := U) (U := U.calling g9 mk a) (Vm.Alike.refl U.vm) q.2.2.1, Ev.bl q.2.2.2⟩, fun U hU hW => ⟨rfl, atB hU hPc, va_K.moved hW.alike hKc, hE.go hS (fun _ h => h.elim) hU hW⟩⟩ rfl rfl hl.1 rfl (lv_room (Nat.le_of_ble_eq_true rfl)) dX9_text_13 ⟨Nat.le_of_ble_eq_true rfl, Nat.le_of_ble_eq_true rfl⟩)).run (fun r1 h_r1 => ?_)
  have h_r1 : (r1 = 0 ∨ r1 = 1) ∧ ((r1.toInt = 1 ∧ 0 ≤ a1.toInt ∧ a1.toInt ≤ a0_5.toInt) ∨ (r1.toInt = 0 ∧ ¬ (0 ≤ a1.toInt ∧ a1.toInt ≤ a0_5.toInt))) := h_r1
  have b_r1 := z01 h_r1.1
  refine lv_if_ne (tgt := 21) hx hb dX9_text_16 (by decide) (fun c16_2 => ?_) (fun c16_2 => ?_)
  · have c16_2 : ¬ (r1.toInt = 0) := mt (cv_eq rfl (by decide)).mpr c16_2
    refine lv_aload_n hx hb dX9_text_21 rfl (lv_at hl 0 rfl) ?_
    refine lv_iconst (v := 0) hx hb dX9_text_22 (by decide) ?_
    refine va_put (D := (dC, dI)) (ci := 8) (v := .int 0) (ty := .int) (C := RX9) (T := TX9) (N := 44) hx hb hts inlX9 tyX9 tyX9_ok nmX9 hown hK hP hD hS 0 rgL24_33a7d57 rfl 5 (by decide) (hts (.fieldLink RX9 142 "ClosedUntilModel" "taped" "I") qw_407) (fun _ h9 => h9) rfl (by decide +kernel) rfl rfl (Nat.le_of_ble_eq_true rfl) dX9_text_23 (fun H locs hP9 hD9 hS9 => ?_)
    clear hP hD hS
    obtain ⟨hP, hD⟩ := rgS24_31185a1 (e := (a0, .inr (8, [.int 0, .int a0_1, .int a0_2, .int a0_3, .ref a0_4, .int 0, .int a0_6, .int a0_7, .int a0_8, .int a0_9, .int a0_10, .long a0_11, .int a0_12, .int a0_13, .int a0_14, .int a0_15, .int a0_16, .int a0_17, .ref a0_18, .ref a0_19, .ref a0_20, .ref a0_21, .ref a0_22, .ref a0_23, .ref a0_24, .ref a0_25, .ref a0_26, .ref a0_27, .ref a0_28, .ref a0_29, .ref a0_30, .ref a0_31, .ref a0_32, .ref a0_33, .ref a0_34, .ref a0_35, .long a0_36, .int a0_37, .ref a0_38, .ref a0_39, .int a0_40, .ref a0_41, .ref a0_42, .ref a0_43]))) hP9 hD9 rfl
    have hS := hS9; clear hP9 hD9 hS9
    refine lv_aload_n hx hb dX9_text_26 rfl (lv_at hl 0 rfl) ?_
    refine lv_iload_n hx hb dX9_text_27 rfl (lv_at hl 1 rfl) ?_
    refine va_put (D := (dC, dI)) (ci := 8) (v := .int a1) (ty := .int) (C := RX9) (T := TX9) (N := 44) hx hb hts inlX9 tyX9 tyX9_ok nmX9 hown hK hP hD hS 0 rgL24_33a7d57 rfl 6 (by decide) (hts (.fieldLink RX9 148 "ClosedUntilModel" "size" "I") qw_413) (fun _ h9 => h9) rfl (by decide +kernel) rfl rfl (Nat.le_of_ble_eq_true rfl) dX9_text_28 (fun H locs hP9 hD9 hS9 => ?_)
    clear hP hD hS
    obtain ⟨hP, hD⟩ := rgS24_31185a1 (e := (a0, .inr (8, [.int 0, .int a0_1, .int a0_2, .int a0_3, .ref a0_4, .int 0, .int a1, .int a0_7, .int a0_8, .int a0_9, .int a0_10, .long a0_11, .int a0_12, .int a0_13, .int a0_14, .int a0_15, .int a0_16, .int a0_17, .ref a0_18, .ref a0_19, .ref a0_20, .ref a0_21, .ref a0_22, .ref a0_23, .ref a0_24, .ref a0_25, .ref a0_26, .ref a0_27, .ref a0_28, .ref a0_29, .ref a0_30, .ref a0_31, .ref a0_32, .ref a0_33, .ref a0_34, .ref a0_35, .long a0_36, .int a0_37, .ref a0_38, .ref a0_39, .int a0_40, .ref a0_41, .ref a0_42, .ref a0_43]))) hP9 hD9 rfl
    have hS := hS9; clear hP9 hD9 hS9
    refine lv_aload_n hx hb dX9_text_31 rfl (lv_at hl 0 rfl) ?_
    refine lv_iconst (v := 0) hx hb dX9_text_32 (by decide) ?_
    refine va_put (D := (dC, dI)) (ci := 8) (v := .int 0) (ty := .int) (C := RX9) (T := TX9) (N := 44) hx hb hts inlX9 tyX9 tyX9_ok nmX9 hown hK hP hD hS 0 rgL24_33a7d57 rfl 8 (by decide) (hts (.fieldLink RX9 151 "ClosedUntilModel" "to" "I") qw_456) (fun _ h9 => h9) rfl (by decide +kernel) rfl rfl (Nat.le_of_ble_eq_true rfl) dX9_text_33 (fun H locs hP9 hD9 hS9 => ?_)
    clear hP hD hS
    obtain ⟨hP, hD⟩ := rgS24_31185a1 (e := (a0, .inr (8, [.int 0, .int a0_1, .int a0_2, .int a0_3, .ref a0_4, .int 0, .int a1, .int a0_7, .int 0, .int a0_9, .int a0_10, .long a0_11, .int a0_12, .int a0_13, .int a0_14, .int a0_15, .int a0_16, .int a0_17, .ref a0_18, .ref a0_19, .ref a0_20, .ref a0_21, .ref a0_22, .ref a0_23, .ref a0_24, .ref a0_25, .ref a0_26, .ref a0_27, .ref a0_28, .ref a0_29, .ref a0_30, .ref a0_31, .ref a0_32, .ref a0_33, .ref a0_34, .ref a0_35, .long a0_36, .int a0_37, .ref a0_38, .ref a0_39, .int a0_40, .ref a0_41, .ref a0_42, .ref a0_43]))) hP9 hD9 rfl
    have hS := hS9; clear hP9 hD9 hS9
    refine lv_aload_n hx hb dX9_text_36 rfl (lv_at hl 0 rfl) ?_
    refine lv_iconst (v := 0) hx hb dX9_text_37 (by decide) ?_
    refine va_put (D := (dC, dI)) (ci := 8) (v := .int 0) (ty := .int) (C := RX9) (T := TX9) (N := 44) hx hb hts inlX9 tyX9 tyX9_ok nmX9 hown hK hP hD hS 0 rgL24_33a7d57 rfl 12 (by decide) (hts (.fieldLink RX9 181 "ClosedUntilModel" "fault" "I") qw_414) (fun _ h9 => h9) rfl (by decide +kernel) rfl rfl (Nat.le_of_ble_eq_true rfl) dX9_text_38 (fun H locs hP9 hD9 hS9 => ?_)
    clear hP hD hS
    obtain ⟨hP, hD⟩ := rgS24_31185a1 (e := (a0, .inr (8, [.int 0, .int a0_1, .int a0_2, .int a0_3, .ref a0_4, .int 0, .int a1, .int a0_7, .int 0, .int a0_9, .int a0_10, .long a0_11, .int 0, .int a0_13, .int a0_14, .int a0_15, .int a0_16, .int a0_17, .ref a0_18, .ref a0_19, .ref a0_20, .ref a0_21, .ref a0_22, .ref a0_23, .ref a0_24, .ref a0_25, .ref a0_26, .ref a0_27, .ref a0_28, .ref a0_29, .ref a0_30, .ref a0_31, .ref a0_32, .ref a0_33, .ref a0_34, .ref a0_35, .long a0_36, .int a0_37, .ref a0_38, .ref a0_39, .int a0_40, .ref a0_41, .ref a0_42, .ref a0_43]))) hP9 hD9 rfl
    have hS := hS9; clear hP9 hD9 hS9
    refine lv_aload_n hx hb dX9_text_41 rfl (lv_at hl 0 rfl) ?_
    refine lv_iconst (v := 1) hx hb dX9_text_42 (by decide) ?_
    refine va_put (D := (dC, dI)) (ci := 8) (v := .int 1) (ty := .int) (C := RX9) (T := TX9) (N := 44) hx hb hts inlX9 tyX9 tyX9_ok nmX9 hown hK hP hD hS 0 rgL24_33a7d57 rfl 17 (by decide) (hts (.fieldLink RX9 256 "ClosedUntilModel" "bench" "I") qw_435) (fun _ h9 => h9) rfl (by decide +kernel) rfl rfl (Nat.le_of_ble_eq_true rfl) dX9_text_43 (fun H locs hP9 hD9 hS9 => ?_)
    clear hP hD hS
    obtain ⟨hP, hD⟩ := rgS24_31185a1 (e := (a0, .inr (8, [.int 0, .int a0_1, .int a0_2, .int a0_3, .ref a0_4, .int 0, .int a1, .int a0_7, .int 0, .int a0_9, .int a0_10, .long a0_11, .int 0, .int a0_13, .int a0_14, .int a0_15, .int a0_16, .int 1, .ref a0_18, .ref a0_19, .ref a0_20, .ref a0_21, .ref a0_22, .ref a0_23, .ref a0_24, .ref a0_25, .ref a0_26, .ref a0_27, .ref a0_28, .ref a0_29, .ref a0_30, .ref a0_31, .ref a0_32, .ref a0_33, .ref a0_34, .ref a0_35, .long a0_36, .int a0_37, .ref a0_38, .ref a0_39, .int a0_40, .ref a0_41, .ref a0_42, .ref a0_43]))) hP9 hD9 rfl
    have hS := hS9; clear hP9 hD9 hS9
    refine lv_aload_n hx hb dX9_text_46 rfl (lv_at hl 0 rfl) ?_
    refine va_get (D := (dC, dI)) (ci := 8) (v := .ref a0_18) (C := RX9) (T := TX9) (N := 44) hx hb hts inlX9 hown hK hP 0 rgL24_33a7d57 rfl 18 (by decide) (hts (.fieldLink RX9 13 "ClosedUntilModel" "people" "[I") qw_434) (fun _ h9 => h9) rfl dX9_text_47 ?_
    refine lv_iconst (v := 1) hx hb dX9_text_50 (by decide) ?_
    refine lv_iconst (v := 0) hx hb dX9_text_51 (by decide) ?_
    refine va_iast hx hb hK hP hD hS 2 1 rgL24_5fea1bd rgT23_82dbf10 (vin0 (by decide)) dX9_text_52 (fun H locs hP9 hD9 hS9 => ?_)
    obtain ⟨y3, e_y3⟩ : ∃ y, (upd a0_18_f (1 : Int32).toNatClampNeg (0)) = y := ⟨_, rfl⟩
    clear hP hD hS
    obtain ⟨hP, hD⟩ := rgS24_04d43cc (e := (a0_18, .inl (a0_18_c, 2, .inl y3))) hP9 hD9 (congrArg (fun z9 => (((a0_18, .inl (a0_18_c, 2, .inl z9)) : Nat × va_E))) e_y3)
    have hS := hS9; clear hP9 hD9 hS9
    have b_y3 : vr 0 8 y3 := vr_upd e_y3 h_a0_18_f (by decide)
    refine lv_aload_n hx hb dX9_text_53 rfl (lv_at hl 0 rfl) ?_
    refine va_get (D := (dC, dI)) (ci := 8) (v := .ref a0_19) (C := RX9) (T := TX9) (N := 44) hx hb hts inlX9 hown hK hP 0 rgL24_33a7d57 rfl 19 (by decide) (hts (.fieldLink RX9 17 "ClosedUntilModel" "deposits" "[I") qw_437) (fun _ h9 => h9) rfl dX9_text_54 ?_
    refine lv_iconst (v := 1) hx hb dX9_text_57 (by decide) ?_
    refine lv_iconst (v := 0) hx hb dX9_text_58 (by decide) ?_
    refine va_iast hx hb hK hP hD hS 3 2 rgL24_716a489 rgT23_4349ea5 (vin0 (by decide)) dX9_text_59 (fun H locs hP9 hD9 hS9 => ?_)
    obtain ⟨y4, e_y4⟩ : ∃ y, (upd a0_19_f (1 : Int32).toNatClampNeg (0)) = y := ⟨_, rfl⟩
    clear hP hD hS
    obtain ⟨hP, hD⟩ := rgS24_38141b5 (e := (a0_19, .inl (a0_19_c, 2, .inl y4))) hP9 hD9 (congrArg (fun z9 => (((a0_19, .inl (a0_19_c, 2, .inl z9)) : Nat × va_E))) e_y4)
    have hS := hS9; clear hP9 hD9 hS9
    have b_y4 : vr 0 4 y4 := vr_upd e_y4 h_a0_19_f (by decide)
    refine lv_aload_n hx hb dX9_text_60 rfl (lv_at hl 0 rfl) ?_
    refine va_get (D := (dC, dI)) (ci := 8) (v := .ref a0_20) (C := RX9) (T := TX9) (N := 44) hx hb hts inlX9 hown hK hP 0 rgL24_33a7d57 rfl 20 (by decide) (hts (.fieldLink RX9 20 "ClosedUntilModel" "pieces" "[I") qw_439) (fun _ h9 => h9) rfl dX9_text_61 ?_
    refine lv_iconst (v := 1) hx hb dX9_text_64 (by decide) ?_
    refine lv_iconst (v := 0) hx hb dX9_text_65 (by decide) ?_
    refine va_iast hx hb hK hP hD hS 4 3 rgL24_2538cc1 rgT23_e9d09c0 (vin0 (by decide)) dX9_text_66 (fun H locs hP9 hD9 hS9 => ?_)
    obtain ⟨y5, e_y5⟩ : ∃ y, (upd a0_20_f (1 : Int32).toNatClampNeg (0)) = y := ⟨_, rfl⟩
    clear hP hD hS
    obtain ⟨hP, hD⟩ := rgS24_f01ebaf (e := (a0_20, .inl (a0_20_c, 2, .inl y5))) hP9 hD9 (congrArg (fun z9 => (((a0_20, .inl (a0_20_c, 2, .inl z9)) : Nat × va_E))) e_y5)
    have hS := hS9; clear hP9 hD9 hS9
    have b_y5 : vr 0 24 y5 := vr_upd e_y5 h_a0_20_f (by decide)
    refine lv_aload_n hx hb dX9_text_67 rfl (lv_at hl 0 rfl) ?_
    refine va_get (D := (dC, dI)) (ci := 8) (v := .ref a0_21) (C := RX9) (T := TX9) (N := 44) hx hb hts inlX9 hown hK hP 0 rgL24_33a7d57 rfl 21 (by decide) (hts (.fieldLink RX9 23 "ClosedUntilModel" "closures" "[I") qw_501) (fun _ h9 => h9) rfl dX9_text_68 ?_
    refine lv_iconst (v := 1) hx hb dX9_text_71 (by decide) ?_
    refine lv_iconst (v := 0) hx hb dX9_text_72 (by decide) ?_
    refine va_iast hx hb hK hP hD hS 5 4 rgL24_71a77f6 rgT23_df1966e (vin0 (by decide)) dX9_text_73 (fun H locs hP9 hD9 hS9 => ?_)
    obtain ⟨y6, e_y6⟩ : ∃ y, (upd a0_21_f (1 : Int32).toNatClampNeg (0)) = y := ⟨_, rfl⟩
    clear hP hD hS
    obtain ⟨hP, hD⟩ := rgS24_cb80f25 (e := (a0_21, .inl (a0_21_c, 2, .inl y6))) hP9 hD9 (congrArg (fun z9 => (((a0_21, .inl (a0_21_c, 2, .inl z9)) : Nat × va_E))) e_y6)
    have hS := hS9; clear hP9 hD9 hS9
    have b_y6 : vr 0 12 y6 := vr_upd e_y6 h_a0_21_f (by decide)
    refine lv_aload_n hx hb dX9_text_74 rfl (lv_at hl 0 rfl) ?_
    have qc0 : (0 : Int32).toInt = 0 := by decide
    have qc1 : (1 : Int32).toInt = 1 := by decide
    have hPc := (rgP24_de8879c hP)
    have hKc := (rgK23_a08c326 hK)
    have hDc := (rgD24_04ba1dc hD)
    have hFc := freeW hDc hS hA
    refine va_callv (va_runV (As := []) (rest := []) ⟨hx, hb, hml, hown, hts⟩ (k_X9_steps l dC dI g H.size (a0) (0) (a0_1) (a0_2) (a0_3) (a0_4) (0) (a1) (a0_7) (0) (a0_9) (a0_10) (a0_11) (0) (a0_13) (a0_14) (a0_15) (a0_16) (1) (a0_18) (a0_19) (a0_20) (a0_21) (a0_22) (a0_23) (a0_24) (a0_25) (a0_26) (a0_27) (a0_28) (a0_29) (a0_30) (a0_31) (a0_32) (a0_33) (a0_34) (a0_35) (a0_36) (a0_37) (a0_38) (a0_39) (a0_40) (a0_41) (a0_42) (a0_43) (a0_4_c) (a0_4_f) (by omega) (by omega) (by omega) (by omega) (by omega) (by omega) (by omega)) (cwV 0 hts (gwV qw_468 qw_469 qw_470 qw_386 qw_467) rfl rfl rfl (by decide +kernel) ⟨Nat.le_of_ble_eq_true rfl, Nat.le_of_ble_eq_true rfl⟩) ⟨fun a U g9 mk q => ⟨q.1, q.2.1, q.2.2.1, va_K.moved (u := U) (U := U.calling g9 mk a) (Vm.Alike.refl U.vm) q.2.2.2.1, q.2.2.2.2.1, Ev.bl q.2.2.2.2.2⟩, va_recv hK hP (ci := 8) (q0 := 0) rfl rgL24_33a7d57, fun U hU hW => ⟨rfl, by rw [hU], atB hU hPc, va_K.moved hW.alike hKc, hDc.weaken (fun _ _ _ _ => trivial), hE.go hS hFc hU hW⟩⟩ rfl rfl hl.1 rfl (lv_room (Nat.le_of_ble_eq_true rfl)) dX9_text_75 ⟨Nat.le_of_ble_eq_true rfl, Nat.le_of_ble_eq_true rfl⟩) hS (fun q _ h => hFc q h) hFc (fun u7 t H1 locs ht hvm h_u7 hB hz1 hk1 hS => ?_)
    obtain ⟨za0_7_9, za0_8_10, za0_9_11, za0_10_12, za0_11_13, hF14, hF15, hP1, hK1, hD1⟩ := hB
    have hK1 := va_K.moved hvm.symm hK1
    have hJ9 := rgJ24_f9d184c hP hD hk1 hFc (atH ht hP1) hD1
    clear hP hD hPc hKc hDc hFc hP1 hD1 hk1 hz1
    obtain ⟨hP, hD⟩ := hJ9
    clear hK1
    generalize H1 = H at hP hS ⊢
    refine W.widen (k := 0) (n := 0) (Nat.le_of_ble_eq_true rfl) (Nat.le_of_ble_eq_true rfl) ?_
    refine lv_iconst (v := 0) hx hb dX9_text_78 (by decide) ?_
    refine lv_istore_n (lv' := [(2, .int 0), (0, .ref a0), (1, .int a1)]) hx hb dX9_text_79 rfl hl (by decide) rfl (fun ls hl => ?_)
    refine lv_iconst (v := 1) hx hb dX9_text_80 (by decide) ?_
    refine lv_istore_n (lv' := [(3, .int 1), (2, .int 0), (0, .ref a0), (1, .int a1)]) hx hb dX9_text_81 rfl hl (by decide) rfl (fun ls hl => ?_)
    have qc0 : (0 : Int32).toInt = 0 := by decide
    have qc1 : (1 : Int32).toInt = 1 := by decide
    refine wloop (fun n H locs ls => ∃ (l82_3 : Int32) (l82_2 : Int32) (f82_0_7 : Int32) (f82_0_8 : Int32) (f82_0_9 : Int32) (f82_0_10 : Int32) (f82_0_11 : Int64) (f82_0_12 : Int32) (f82_0_13 : Int32) (f82_0_14 : Int32) (f82_0_15 : Int32) (f82_0_16 : Int32) (f82_0_36 : Int64) (f82_0_37 : Int32) (w82_2 : Nat → Int32) (w82_3 : Nat → Int32) (w82_4 : Nat → Int32) (w82_5 : Nat → Int32) (w82_6 : Nat → Int64) (w82_7 : Nat → Int32) (w82_8 : Nat → Int32) (w82_9 : Nat → Int64) (w82_10 : Nat → Int32) (w82_11 : Nat → Int64) (w82_12 : Nat → Int32) (w82_13 : Nat → Int32) (w82_14 : Nat → Int32) (w82_15 : Nat → Int32) (w82_16 : Nat → Int32) (w82_17 : Nat → Int32) (w82_18 : Nat → Int32) (w82_19 : Nat → Int32), n = (100 * l82_3.toInt - ((w82_2 (1 : Int32).toNatClampNeg).toInt + (w82_3 (1 : Int32).toNatClampNeg).toInt + (w82_4 (1 : Int32).toNatClampNeg).toInt + (w82_5 (1 : Int32).toNatClampNeg).toInt)).toNat ∧ ((0 ≤ f82_0_7.toInt ∧ f82_0_7.toInt ≤ 1000)) ∧ ((0 ≤ f82_0_8.toInt ∧ f82_0_8.toInt ≤ 1000)) ∧ (((-1) ≤ f82_0_37.toInt ∧ f82_0_37.toInt ≤ 23)) ∧ (vr 0 8 w82_2) ∧ (vr 0 4 w82_3) ∧ (vr 0 24 w82_4) ∧ (vr 0 12 w82_5) ∧ (0 ≤ l82_3.toInt ∧ l82_3.toInt ≤ 1) ∧ (KP 1 a0_20_f w82_4) ∧ (KP 1 a0_21_f w82_5) ∧ (KP 12 a0_32_f w82_16) ∧ (KP 12 a0_33_f w82_17) ∧ (PTOk w82_12 (w82_4 (1 : Int32).toNatClampNeg).toInt) ∧ (WOk w82_16 w82_17 12 (w82_5 (1 : Int32).toNatClampNeg).toInt) ∧ lv_has ls 4 [(3, .int l82_3), (2, .int l82_2), (0, .ref a0), (1, .int a1)] ∧ va_P (dC, dI) vwCl [(a0, .inr (8, [.int 0, .int a0_1, .int a0_2, .int a0_3, .ref a0_4, .int 0, .int a1, .int f82_0_7, .int f82_0_8, .int f82_0_9, .int f82_0_10, .long f82_0_11, .int f82_0_12, .int f82_0_13, .int f82_0_14, .int f82_0_15, .int f82_0_16, .int 1, .ref a0_18, .ref a0_19, .ref a0_20, .ref a0_21, .ref a0_22, .ref a0_23, .ref a0_24, .ref a0_25, .ref a0_26, .ref a0_27, .ref a0_28, .ref a0_29, .ref a0_30, .ref a0_31, .ref a0_32, .ref a0_33, .ref a0_34, .ref a0_35, .long f82_0_36, .int f82_0_37, .ref a0_38, .ref a0_39, .int a0_40, .ref a0_41, .ref a0_42, .ref a0_43])), (a0_4, .inl (a0_4_c, 1000, .inl a0_4_f)), (a0_18, .inl (a0_18_c, 2, .inl w82_2)), (a0_19, .inl (a0_19_c, 2, .inl w82_3)), (a0_20, .inl (a0_20_c, 2, .inl w82_4)), (a0_21, .inl (a0_21_c, 2, .inl w82_5)), (a0_22, .inl (a0_22_c, 16, .inr (.inl w82_6))), (a0_23, .inl (a0_23_c, 16, .inl w82_7)), (a0_24, .inl (a0_24_c, 16, .inl w82_8)), (a0_25, .inl (a0_25_c, 8, .inr (.inl w82_9))), (a0_26, .inl (a0_26_c, 8, .inl w82_10)), (a0_27, .inl (a0_27_c, 48, .inr (.inl w82_11))), (a0_28, .inl (a0_28_c, 48, .inl w82_12)), (a0_29, .inl (a0_29_c, 48, .inl w82_13)), (a0_30, .inl (a0_30_c, 48, .inl w82_14)), (a0_31, .inl (a0_31_c, 48, .inl w82_15)), (a0_32, .inl (a0_32_c, 24, .inl w82_16)), (a0_33, .inl (a0_33_c, 24, .inl w82_17)), (a0_34, .inl (a0_34_c, 72, .inl w82_18)), (a0_35, .inl (a0_35_c, 24, .inl w82_19)), (a0_38, .inl (a0_38_c, 176, .inl a0_38_f)), (a0_39, .inl (a0_39_c, 2112, .inl a0_39_f)), (a0_41, .inl (a0_41_c, 352, .inl a0_41_f)), (a0_42, .inl (a0_42_c, 2, .inl a0_42_f))] H ∧ va_D A [(a0, .inr (8, [.int 0, .int a0_1, .int a0_2, .int a0_3, .ref a0_4, .int 0, .int a1, .int f82_0_7, .int f82_0_8, .int f82_0_9, .int f82_0_10, .long f82_0_11, .int f82_0_12, .int f82_0_13, .int f82_0_14, .int f82_0_15, .int f82_0_16, .int 1, .ref a0_18, .ref a0_19, .ref a0_20, .ref a0_21, .ref a0_22, .ref a0_23, .ref a0_24, .ref a0_25, .ref a0_26, .ref a0_27, .ref a0_28, .ref a0_29, .ref a0_30, .ref a0_31, .ref a0_32, .ref a0_33, .ref a0_34, .ref a0_35, .long f82_0_36, .int f82_0_37, .ref a0_38, .ref a0_39, .int a0_40, .ref a0_41, .ref a0_42, .ref a0_43])), (a0_4, .inl (a0_4_c, 1000, .inl a0_4_f)), (a0_18, .inl (a0_18_c, 2, .inl w82_2)), (a0_19, .inl (a0_19_c, 2, .inl w82_3)), (a0_20, .inl (a0_20_c, 2, .inl w82_4)), (a0_21, .inl (a0_21_c, 2, .inl w82_5)), (a0_22, .inl (a0_22_c, 16, .inr (.inl w82_6))), (a0_23, .inl (a0_23_c, 16, .inl w82_7)), (a0_24, .inl (a0_24_c, 16, .inl w82_8)), (a0_25, .inl (a0_25_c, 8, .inr (.inl w82_9))), (a0_26, .inl (a0_26_c, 8, .inl w82_10)), (a0_27, .inl (a0_27_c, 48, .inr (.inl w82_11))), (a0_28, .inl (a0_28_c, 48, .inl w82_12)), (a0_29, .inl (a0_29_c, 48, .inl w82_13)), (a0_30, .inl (a0_30_c, 48, .inl w82_14)), (a0_31, .inl (a0_31_c, 48, .inl w82_15)), (a0_32, .inl (a0_32_c, 24, .inl w82_16)), (a0_33, .inl (a0_33_c, 24, .inl w82_17)), (a0_34, .inl (a0_34_c, 72, .inl w82_18)), (a0_35, .inl (a0_35_c, 24, .inl w82_19)), (a0_38, .inl (a0_38_c, 176, .inl a0_38_f)), (a0_39, .inl (a0_39_c, 2112, .inl a0_39_f)), (a0_41, .inl (a0_41_c, 352, .inl a0_41_f)), (a0_42, .inl (a0_42_c, 2, .inl a0_42_f))] ∧ va_S A s.heap H locs) ?_ ((100 * (1 : Int32).toInt - ((y3 (1 : Int32).toNatClampNeg).toInt + (y4 (1 : Int32).toNatClampNeg).toInt + (y5 (1 : Int32).toNatClampNeg).toInt + (y6 (1 : Int32).toNatClampNeg).toInt)).toNat) _ _ _ ⟨1, 0, za0_7_9, za0_8_10, za0_9_11, za0_10_12, za0_11_13, 0, a0_13, a0_14, a0_15, a0_16, a0_36, a0_37, y3, y4, y5, y6, a0_22_f, a0_23_f, a0_24_f, a0_25_f, a0_26_f, a0_27_f, a0_28_f, a0_29_f, a0_30_f, a0_31_f, a0_32_f, a0_33_f, a0_34_f, a0_35_f, rfl, (by omega), (by omega), (by omega), b_y3, b_y4, b_y5, b_y6, (by omega), (KP.upd e_y5 (kI (by decide))), (KP.upd e_y6 (kI (by decide))), KP.rf, KP.rf, (PTOk.nil (by rw [upd_eq e_y5]; decide)), (WOk.nil (by rw [upd_eq e_y6]; decide)), lv_sub hl [0, 1, 2, 3] rfl, hP, hD, hS⟩
    intro n82 H locs ls hI ih82
    obtain ⟨l82_3, l82_2, f82_0_7, f82_0_8, f82_0_9, f82_0_10, f82_0_11, f82_0_12, f82_0_13, f82_0_14, f82_0_15, f82_0_16, f82_0_36, f82_0_37, w82_2, w82_3, w82_4, w82_5, w82_6, w82_7, w82_8, w82_9, w82_10, w82_11, w82_12, w82_13, w82_14, w82_15, w82_16, w82_17, w82_18, w82_19, hn82, g_f82_0_7, g_f82_0_8, g_f82_0_37, g_w82_2, g_w82_3, g_w82_4, g_w82_5, gx82_0, gx82_1, gx82_2, gx82_3, gx82_4, gx82_5, gx82_6, hl, hP, hD, hS⟩ := hI
    have b_l82_3 := i32b l82_3
    have b_l82_2 := i32b l82_2
    have b_f82_0_7 := i32b f82_0_7
    have b_f82_0_8 := i32b f82_0_8
    have b_f82_0_9 := i32b f82_0_9
    have b_f82_0_10 := i32b f82_0_10
    have b_f82_0_12 := i32b f82_0_12
    have b_f82_0_13 := i32b f82_0_13
    have b_f82_0_14 := i32b f82_0_14
    have b_f82_0_15 := i32b f82_0_15
    have b_f82_0_16 := i32b f82_0_16
    have b_f82_0_37 := i32b f82_0_37
    have ht_0 := vr_at (lo := 0) (hi := 8) (f := w82_2) (k := (1 : Int32).toNatClampNeg) (by assumption) rfl
    have ht_1 := vr_at (lo := 0) (hi := 4) (f := w82_3) (k := (1 : Int32).toNatClampNeg) (by assumption) rfl
    have ht_2 := vr_at (lo := 0) (hi := 24) (f := w82_4) (k := (1 : Int32).toNatClampNeg) (by assumption) rfl
    have ht_3 := vr_at (lo := 0) (hi := 12) (f := w82_5) (k := (1 : Int32).toNatClampNeg) (by assumption) rfl
    refine lv_iload_n hx hb dX9_text_82 rfl (lv_at hl 0 rfl) ?_
    refine lv_if_eq (tgt := 104) hx hb dX9_text_83 (by decide) (fun c83_16 => ?_) (fun c83_16 => ?_)
    · have c83_16 : l82_3.toInt = 0 := (cv_eq rfl (by decide)).mp c83_16
      refine lv_aload_n hx hb dX9_text_104 rfl (lv_at hl 2 rfl) ?_
      refine lv_iconst (v := 0) hx hb dX9_text_105 (by decide) ?_
      refine va_put (D := (dC, dI)) (ci := 8) (v := .int 0) (ty := .int) (C := RX9) (T := TX9) (N := 44) hx hb hts inlX9 tyX9 tyX9_ok nmX9 hown hK hP hD hS 0 rgL24_33a7d57 rfl 17 (by decide) (hts (.fieldLink RX9 256 "ClosedUntilModel" "bench" "I") qw_435) (fun _ h9 => h9) rfl (by decide +kernel) rfl rfl (Nat.le_of_ble_eq_true rfl) dX9_text_106 (fun H locs hP9 hD9 hS9 => ?_)
      clear hP hD hS
      obtain ⟨hP, hD⟩ := rgS24_31185a1 (e := (a0, .inr (8, [.int 0, .int a0_1, .int a0_2, .int a0_3, .ref a0_4, .int 0, .int a1, .int f82_0_7, .int f82_0_8, .int f82_0_9, .int f82_0_10, .long f82_0_11, .int f82_0_12, .int f82_0_13, .int f82_0_14, .int f82_0_15, .int f82_0_16, .int 0, .ref a0_18, .ref a0_19, .ref a0_20, .ref a0_21, .ref a0_22, .ref a0_23, .ref a0_24, .ref a0_25, .ref a0_26, .ref a0_27, .ref a0_28, .ref a0_29, .ref a0_30, .ref a0_31, .ref a0_32, .ref a0_33, .ref a0_34, .ref a0_35, .long f82_0_36, .int f82_0_37, .ref a0_38, .ref a0_39, .int a0_40, .ref a0_41, .ref a0_42, .ref a0_43]))) hP9 hD9 rfl
      have hS := hS9; clear hP9 hD9 hS9
      refine lv_iload_n hx hb dX9_text_109 rfl (lv_at hl 0 rfl) ?_
      refine lv_if_ne (tgt := 129) hx hb dX9_text_110 (by decide) (fun c110_17 => ?_) (fun c110_17 => ?_)
      · have c110_17 : ¬ (l82_3.toInt = 0) := mt (cv_eq rfl (by decide)).mpr c110_17
        refine lv_aload_n hx hb dX9_text_129 rfl (lv_at hl 2 rfl) ?_
        have qc0 : (0 : Int32).toInt = 0 := by decide
        have hPc := (rgP24_07e4daa hP)
        have hKc := (rgK23_d3db985 hK)
        have hDc := (rgD24_1bdb866 hD)
        have hFc := freeW hDc hS hA
        refine va_callv (va_runV (As := []) (rest := []) ⟨hx, hb, hml, hown, hts⟩ (k_X9_copies l dC dI g H.size (a0) (0) (a0_1) (a0_2) (a0_3) (a0_4) (0) (a1) (f82_0_7) (f82_0_8) (f82_0_9) (f82_0_10) (f82_0_11) (f82_0_12) (f82_0_13) (f82_0_14) (f82_0_15) (f82_0_16) (0) (a0_18) (a0_19) (a0_20) (a0_21) (a0_22) (a0_23) (a0_24) (a0_25) (a0_26) (a0_27) (a0_28) (a0_29) (a0_30) (a0_31) (a0_32) (a0_33) (a0_34) (a0_35) (f82_0_36) (f82_0_37) (a0_38) (a0_39) (a0_40) (a0_41) (a0_42) (a0_43) (a0_18_c) (w82_2) (a0_19_c) (w82_3) (a0_20_c) (w82_4) (a0_21_c) (w82_5) (a0_22_c) (w82_6) (a0_23_c) (w82_7) (a0_24_c) (w82_8) (a0_25_c) (w82_9) (a0_26_c) (w82_10) (a0_27_c) (w82_11) (a0_28_c) (w82_12) (a0_29_c) (w82_13) (a0_30_c) (w82_14) (a0_31_c) (w82_15) (a0_32_c) (w82_16) (a0_33_c) (w82_17) (a0_34_c) (w82_18) (a0_35_c) (w82_19) (a0_38_c) (a0_38_f) (by omega) (by omega) (by omega) (by omega) (by omega) (by omega) (by omega) g_w82_2 g_w82_3 g_w82_4 g_w82_5 (by assumption) (by assumption)) (cwV 0 hts (gwV qw_593 qw_594 qw_595 qw_386 qw_592) rfl rfl rfl (by decide +kernel) ⟨Nat.le_of_ble_eq_true rfl, Nat.le_of_ble_eq_true rfl⟩) ⟨fun a U g9 mk q => ⟨q.1, q.2.1, q.2.2.1, va_K.moved (u := U) (U := U.calling g9 mk a) (Vm.Alike.refl U.vm) q.2.2.2.1, q.2.2.2.2.1, Ev.bl q.2.2.2.2.2⟩, va_recv hK hP (ci := 8) (q0 := 0) rfl rgL24_33a7d57, fun U hU hW => ⟨rfl, by rw [hU], atB hU hPc, va_K.moved hW.alike hKc, hDc.weaken (fun _ _ _ _ => trivial), hE.go hS hFc hU hW⟩⟩ rfl rfl hl.1 rfl (lv_room (Nat.le_of_ble_eq_true rfl)) dX9_text_130 ⟨Nat.le_of_ble_eq_true rfl, Nat.le_of_ble_eq_true rfl⟩) hS (fun q _ h => hFc q h) hFc (fun u18 t H1 locs ht hvm h_u18 hB hz1 hk1 hS => ?_)
        obtain ⟨za0_18_f_20, za0_19_f_21, za0_20_f_22, za0_21_f_23, za0_22_f_24, za0_23_f_25, za0_25_f_26, za0_26_f_27, za0_27_f_28, za0_29_f_29, za0_30_f_30, za0_31_f_31, za0_32_f_32, za0_33_f_33, za0_34_f_34, za0_35_f_35, za0_38_f_36, hF37, hF38, hF39, hF40, hF41, hF42, hP1, hK1, hD1⟩ := hB
        have hK1 := va_K.moved hvm.symm hK1
        have hJ9 := rgJ24_3442b3d hP hD hk1 hFc (atH ht hP1) hD1
        clear hP hD hPc hKc hDc hFc hP1 hD1 hk1 hz1
        obtain ⟨hP, hD⟩ := hJ9
        clear hK1
        generalize H1 = H at hP hS ⊢
        refine W.widen (k := 0) (n := 0) (Nat.le_of_ble_eq_true rfl) (Nat.le_of_ble_eq_true rfl) ?_
        refine lv_aload_n hx hb dX9_text_133 rfl (lv_at hl 2 rfl) ?_
        refine lv_iconst (v := 0) hx hb dX9_text_134 (by decide) ?_
        refine va_put (D := (dC, dI)) (ci := 8) (v := .int 0) (ty := .int) (C := RX9) (T := TX9) (N := 44) hx hb hts inlX9 tyX9 tyX9_ok nmX9 hown hK hP hD hS 0 rgL24_33a7d57 rfl 40 (by decide) (hts (.fieldLink RX9 310 "ClosedUntilModel" "undos" "I") qw_552) (fun _ h9 => h9) rfl (by decide +kernel) rfl rfl (Nat.le_of_ble_eq_true rfl) dX9_text_135 (fun H locs hP9 hD9 hS9 => ?_)
        clear hP hD hS
        obtain ⟨hP, hD⟩ := rgS24_31185a1 (e := (a0, .inr (8, [.int 0, .int a0_1, .int a0_2, .int a0_3, .ref a0_4, .int 0, .int a1, .int f82_0_7, .int f82_0_8, .int f82_0_9, .int f82_0_10, .long f82_0_11, .int f82_0_12, .int f82_0_13, .int f82_0_14, .int f82_0_15, .int f82_0_16, .int 0, .ref a0_18, .ref a0_19, .ref a0_20, .ref a0_21, .ref a0_22, .ref a0_23, .ref a0_24, .ref a0_25, .ref a0_26, .ref a0_27, .ref a0_28, .ref a0_29, .ref a0_30, .ref a0_31, .ref a0_32, .ref a0_33, .ref a0_34, .ref a0_35, .long f82_0_36, .int f82_0_37, .ref a0_38, .ref a0_39, .int 0, .ref a0_41, .ref a0_42, .ref a0_43]))) hP9 hD9 rfl
        have hS := hS9; clear hP9 hD9 hS9
        refine lv_aload_n hx hb dX9_text_138 rfl (lv_at hl 2 rfl) ?_
        refine va_get (D := (dC, dI)) (ci := 8) (v := .ref a0_42) (C := RX9) (T := TX9) (N := 44) hx hb hts inlX9 hown hK hP 0 rgL24_33a7d57 rfl 42 (by decide) (hts (.fieldLink RX9 79 "ClosedUntilModel" "isKept" "[Z") qw_596) (fun _ h9 => h9) rfl dX9_text_139 ?_
        refine lv_iconst (v := 0) hx hb dX9_text_142 (by decide) ?_
        refine lv_iconst (v := 0) hx hb dX9_text_143 (by decide) ?_
        refine va_zast hx hb hK hP hD hS 23 22 rgL24_e8f0203 rgT23_79fa27c (vin0 (by decide)) dX9_text_144 (fun H locs hP9 hD9 hS9 => ?_)
        obtain ⟨y43, e_y43⟩ : ∃ y, (upd a0_42_f (0 : Int32).toNatClampNeg (vp_nar .boolean (0))) = y := ⟨_, rfl⟩
        clear hP hD hS
        obtain ⟨hP, hD⟩ := rgS24_dbd131e (e := (a0_42, .inl (a0_42_c, 2, .inl y43))) hP9 hD9 (congrArg (fun z9 => (((a0_42, .inl (a0_42_c, 2, .inl z9)) : Nat × va_E))) e_y43)
        have hS := hS9; clear hP9 hD9 hS9
        refine lv_aload_n hx hb dX9_text_145 rfl (lv_at hl 2 rfl) ?_
        refine va_get (D := (dC, dI)) (ci := 8) (v := .ref a0_42) (C := RX9) (T := TX9) (N := 44) hx hb hts inlX9 hown hK hP 0 rgL24_33a7d57 rfl 42 (by decide) (hts (.fieldLink RX9 79 "ClosedUntilModel" "isKept" "[Z") qw_596) (fun _ h9 => h9) rfl dX9_text_146 ?_
        refine lv_iconst (v := 1) hx hb dX9_text_149 (by decide) ?_
        refine lv_iconst (v := 0) hx hb dX9_text_150 (by decide) ?_
        refine va_zast hx hb hK hP hD hS 23 22 rgL24_e8f0203 rgT23_79fa27c (vin0 (by decide)) dX9_text_151 (fun H locs hP9 hD9 hS9 => ?_)
        obtain ⟨y44, e_y44⟩ : ∃ y, (upd y43 (1 : Int32).toNatClampNeg (vp_nar .boolean (0))) = y := ⟨_, rfl⟩
        clear hP hD hS
        obtain ⟨hP, hD⟩ := rgS24_dbd131e (e := (a0_42, .inl (a0_42_c, 2, .inl y44))) hP9 hD9 (congrArg (fun z9 => (((a0_42, .inl (a0_42_c, 2, .inl z9)) : Nat × va_E))) e_y44)
        have hS := hS9; clear hP9 hD9 hS9
        refine lv_iload_n hx hb dX9_text_152 rfl (lv_at hl 1 rfl) ?_
        have qc0 : (0 : Int32).toInt = 0 := by decide
        refine W.widen (k := 0) (n := 0) (Nat.le_of_ble_eq_true rfl) (Nat.le_of_ble_eq_true rfl) ?_
        have hP9 := hP
        have hD9 := hD
        have hK9 := (rgK23_d68b342 hK)
        have hf9_0 : (0 ≤ (0 : Int32).toInt ∧ (0 : Int32).toInt ≤ 1000) := by omega
        have hf9_1 : (0 ≤ a1.toInt ∧ a1.toInt ≤ 1000) := by omega
        have hf9_2 : (0 ≤ f82_0_7.toInt ∧ f82_0_7.toInt ≤ 1000) := by omega
        have hf9_3 : (0 ≤ f82_0_8.toInt ∧ f82_0_8.toInt ≤ 1000) := by omega
        have hf9_4 : (0 ≤ (0 : Int32).toInt ∧ (0 : Int32).toInt ≤ 1) := by omega
        have hf9_5 : ((-1) ≤ f82_0_37.toInt ∧ f82_0_37.toInt ≤ 23) := by omega
        have hf9_6 : (0 ≤ (0 : Int32).toInt ∧ (0 : Int32).toInt ≤ 12) := by omega
        have hf9_7 : vr 0 8 za0_18_f_20 := hF37
        have hf9_8 : vr 0 4 za0_19_f_21 := hF38
        have hf9_9 : vr 0 24 za0_20_f_22 := hF39
        have hf9_10 : vr 0 12 za0_21_f_23 := hF40
        have hf9_11 : ((0 : Int32).toInt = 0) := by omega
        have hf9_12 : (RowOk (za0_20_f_22 0).toInt za0_38_f_36 0) := by assumption
        have hf9_13 : (WOk za0_32_f_32 za0_33_f_33 0 (za0_21_f_23 0).toInt) := by assumption
        have hf9_14 : (MU (za0_20_f_22 0).toInt a0_39_f (0 : Int32)) := MU.nil (by omega)
        have hf9_15 : (MK (za0_20_f_22 0).toInt a0_41_f y44) := MK.nil e_y43 e_y44
        have hf9_16 : (TE a1 a0_5 (0 : Int32)) := by unfold TE; omega
        exact W.iret (v := l82_2) hx hb hr (fun t ht hW => ⟨⟨l82_2, l82_2, rfl, rfl, 0, 0, a1, f82_0_7, f82_0_8, f82_0_9, f82_0_10, f82_0_11, f82_0_12, f82_0_13, f82_0_14, f82_0_15, f82_0_16, 0, f82_0_36, f82_0_37, 0, za0_18_f_20, za0_19_f_21, za0_20_f_22, za0_21_f_23, za0_22_f_24, za0_23_f_25, w82_8, za0_25_f_26, za0_26_f_27, za0_27_f_28, w82_12, za0_29_f_29, za0_30_f_30, za0_31_f_31, za0_32_f_32, za0_33_f_33, za0_34_f_34, za0_35_f_35, za0_38_f_36, y44, hf9_0, hf9_1, hf9_2, hf9_3, hf9_4, hf9_5, hf9_6, hf9_7, hf9_8, hf9_9, hf9_10, hf9_11, hf9_12, hf9_13, hf9_14, hf9_15, hf9_16, atB ht hP9, va_K.moved hW.alike hK9, hD9⟩, hS.F ht⟩) hS.2.2 dX9_text_153
      · have c110_17 : l82_3.toInt = 0 := (cv_eq rfl (by decide)).mp c110_17
        refine lv_bipush (v := (-2)) hx hb dX9_text_113 (by decide) ?_
        refine lv_bipush (v := 8) hx hb dX9_text_115 (by decide) ?_
        refine lv_aload_n hx hb dX9_text_117 rfl (lv_at hl 2 rfl) ?_
        refine va_get (D := (dC, dI)) (ci := 8) (v := .int f82_0_13) (C := RX9) (T := TX9) (N := 44) hx hb hts inlX9 hown hK hP 0 rgL24_33a7d57 rfl 13 (by decide) (hts (.fieldLink RX9 184 "ClosedUntilModel" "faultPlace" "I") qw_415) (fun _ h9 => h9) rfl dX9_text_118 ?_
        refine lv_imul hx hb dX9_text_121 ?_
        refine lv_topi (fun x45 e_x45 => ?_)
        refine lv_aload_n hx hb dX9_text_122 rfl (lv_at hl 2 rfl) ?_
        refine va_get (D := (dC, dI)) (ci := 8) (v := .int f82_0_12) (C := RX9) (T := TX9) (N := 44) hx hb hts inlX9 hown hK hP 0 rgL24_33a7d57 rfl 12 (by decide) (hts (.fieldLink RX9 181 "ClosedUntilModel" "fault" "I") qw_414) (fun _ h9 => h9) rfl dX9_text_123 ?_
        refine lv_iadd hx hb dX9_text_126 ?_
        refine lv_topi (fun x46 e_x46 => ?_)
        refine lv_isub hx hb dX9_text_127 ?_
        refine lv_topi (fun x47 e_x47 => ?_)
        have qc0 : (0 : Int32).toInt = 0 := by decide
        refine W.widen (k := 0) (n := 0) (Nat.le_of_ble_eq_true rfl) (Nat.le_of_ble_eq_true rfl) ?_
        have hP9 := hP
        have hD9 := hD
        have hK9 := (rgK23_d68b342 hK)
        have hf9_0 : (0 ≤ (0 : Int32).toInt ∧ (0 : Int32).toInt ≤ 1000) := by omega
        have hf9_1 : (0 ≤ a1.toInt ∧ a1.toInt ≤ 1000) := by omega
        have hf9_2 : (0 ≤ f82_0_7.toInt ∧ f82_0_7.toInt ≤ 1000) := by omega
        have hf9_3 : (0 ≤ f82_0_8.toInt ∧ f82_0_8.toInt ≤ 1000) := by omega
        have hf9_4 : (0 ≤ (0 : Int32).toInt ∧ (0 : Int32).toInt ≤ 1) := by omega
        have hf9_5 : ((-1) ≤ f82_0_37.toInt ∧ f82_0_37.toInt ≤ 23) := by omega
        have hf9_6 : (0 ≤ a0_40.toInt ∧ a0_40.toInt ≤ 12) := by omega
        have hf9_7 : vr 0 8 w82_2 := g_w82_2
        have hf9_8 : vr 0 4 w82_3 := g_w82_3
        have hf9_9 : vr 0 24 w82_4 := g_w82_4
        have hf9_10 : vr 0 12 w82_5 := g_w82_5
        have hf9_11 : ((0 : Int32).toInt = 0) := by omega
        have hf9_12 : (RowOk (w82_4 0).toInt a0_38_f 0) := hms.n (congrArg Int32.toInt (gx82_1 0 (by omega)))
        have hf9_13 : (WOk w82_16 w82_17 0 (w82_5 0).toInt) := by have q21 := congrArg Int32.toInt (gx82_2 0 (by omega)); exact WOk.kp hmw q21 gx82_3 gx82_4 (by omega)
        have hf9_14 : (MU (w82_4 0).toInt a0_39_f a0_40) := hmu.n (congrArg Int32.toInt (gx82_1 0 (by omega)))
        have hf9_15 : (MK (w82_4 0).toInt a0_41_f a0_42_f) := hmk.n (congrArg Int32.toInt (gx82_1 0 (by omega)))
        have hf9_16 : (TE a1 a0_5 (0 : Int32)) := by unfold TE; omega
        exact W.iret (v := x47) hx hb hr (fun t ht hW => ⟨⟨x47, x47, rfl, rfl, 0, 0, a1, f82_0_7, f82_0_8, f82_0_9, f82_0_10, f82_0_11, f82_0_12, f82_0_13, f82_0_14, f82_0_15, f82_0_16, 0, f82_0_36, f82_0_37, a0_40, w82_2, w82_3, w82_4, w82_5, w82_6, w82_7, w82_8, w82_9, w82_10, w82_11, w82_12, w82_13, w82_14, w82_15, w82_16, w82_17, w82_18, w82_19, a0_38_f, a0_42_f, hf9_0, hf9_1, hf9_2, hf9_3, hf9_4, hf9_5, hf9_6, hf9_7, hf9_8, hf9_9, hf9_10, hf9_11, hf9_12, hf9_13, hf9_14, hf9_15, hf9_16, atB ht hP9, va_K.moved hW.alike hK9, hD9⟩, hS.F ht⟩) hS.2.2 dX9_text_128
    · have c83_16 : ¬ (l82_3.toInt = 0) := mt (cv_eq rfl (by decide)).mpr c83_16
      refine lv_aload_n hx hb dX9_text_86 rfl (lv_at hl 2 rfl) ?_
      refine va_get (D := (dC, dI)) (ci := 8) (v := .int f82_0_9) (C := RX9) (T := TX9) (N := 44) hx hb hts inlX9 hown hK hP 0 rgL24_33a7d57 rfl 9 (by decide) (hts (.fieldLink RX9 160 "ClosedUntilModel" "token" "I") qw_421) (fun _ h9 => h9) rfl dX9_text_87 ?_
      refine lv_if_eq (tgt := 104) hx hb dX9_text_90 (by decide) (fun c90_48 => ?_) (fun c90_48 => ?_)
      · have c90_48 : f82_0_9.toInt = 0 := (cv_eq rfl (by decide)).mp c90_48
        refine lv_aload_n hx hb dX9_text_104 rfl (lv_at hl 2 rfl) ?_
        refine lv_iconst (v := 0) hx hb dX9_text_105 (by decide) ?_
        refine va_put (D := (dC, dI)) (ci := 8) (v := .int 0) (ty := .int) (C := RX9) (T := TX9) (N := 44) hx hb hts inlX9 tyX9 tyX9_ok nmX9 hown hK hP hD hS 0 rgL24_33a7d57 rfl 17 (by decide) (hts (.fieldLink RX9 256 "ClosedUntilModel" "bench" "I") qw_435) (fun _ h9 => h9) rfl (by decide +kernel) rfl rfl (Nat.le_of_ble_eq_true rfl) dX9_text_106 (fun H locs hP9 hD9 hS9 => ?_)
        clear hP hD hS
        obtain ⟨hP, hD⟩ := rgS24_31185a1 (e := (a0, .inr (8, [.int 0, .int a0_1, .int a0_2, .int a0_3, .ref a0_4, .int 0, .int a1, .int f82_0_7, .int f82_0_8, .int f82_0_9, .int f82_0_10, .long f82_0_11, .int f82_0_12, .int f82_0_13, .int f82_0_14, .int f82_0_15, .int f82_0_16, .int 0, .ref a0_18, .ref a0_19, .ref a0_20, .ref a0_21, .ref a0_22, .ref a0_23, .ref a0_24, .ref a0_25, .ref a0_26, .ref a0_27, .ref a0_28, .ref a0_29, .ref a0_30, .ref a0_31, .ref a0_32, .ref a0_33, .ref a0_34, .ref a0_35, .long f82_0_36, .int f82_0_37, .ref a0_38, .ref a0_39, .int a0_40, .ref a0_41, .ref a0_42, .ref a0_43]))) hP9 hD9 rfl
        have hS := hS9; clear hP9 hD9 hS9
        refine lv_iload_n hx hb dX9_text_109 rfl (lv_at hl 0 rfl) ?_
        refine lv_if_ne (tgt := 129) hx hb dX9_text_110 (by decide) (fun c110_49 => ?_) (fun c110_49 => ?_)
        · have c110_49 : ¬ (l82_3.toInt = 0) := mt (cv_eq rfl (by decide)).mpr c110_49
          refine lv_aload_n hx hb dX9_text_129 rfl (lv_at hl 2 rfl) ?_
          have qc0 : (0 : Int32).toInt = 0 := by decide
          have hPc := (rgP24_07e4daa hP)
          have hKc := (rgK23_d3db985 hK)
          have hDc := (rgD24_1bdb866 hD)
          have hFc := freeW hDc hS hA
          refine va_callv (va_runV (As := []) (rest := []) ⟨hx, hb, hml, hown, hts⟩ (k_X9_copies l dC dI g H.size (a0) (0) (a0_1) (a0_2) (a0_3) (a0_4) (0) (a1) (f82_0_7) (f82_0_8) (f82_0_9) (f82_0_10) (f82_0_11) (f82_0_12) (f82_0_13) (f82_0_14) (f82_0_15) (f82_0_16) (0) (a0_18) (a0_19) (a0_20) (a0_21) (a0_22) (a0_23) (a0_24) (a0_25) (a0_26) (a0_27) (a0_28) (a0_29) (a0_30) (a0_31) (a0_32) (a0_33) (a0_34) (a0_35) (f82_0_36) (f82_0_37) (a0_38) (a0_39) (a0_40) (a0_41) (a0_42) (a0_43) (a0_18_c) (w82_2) (a0_19_c) (w82_3) (a0_20_c) (w82_4) (a0_21_c) (w82_5) (a0_22_c) (w82_6) (a0_23_c) (w82_7) (a0_24_c) (w82_8) (a0_25_c) (w82_9) (a0_26_c) (w82_10) (a0_27_c) (w82_11) (a0_28_c) (w82_12) (a0_29_c) (w82_13) (a0_30_c) (w82_14) (a0_31_c) (w82_15) (a0_32_c) (w82_16) (a0_33_c) (w82_17) (a0_34_c) (w82_18) (a0_35_c) (w82_19) (a0_38_c) (a0_38_f) (by omega) (by omega) (by omega) (by omega) (by omega) (by omega) (by omega) g_w82_2 g_w82_3 g_w82_4 g_w82_5 (by assumption) (by assumption)) (cwV 0 hts (gwV qw_593 qw_594 qw_595 qw_386 qw_592) rfl rfl rfl (by decide +kernel) ⟨Nat.le_of_ble_eq_true rfl, Nat.le_of_ble_eq_true rfl⟩) ⟨fun a U g9 mk q => ⟨q.1, q.2.1, q.2.2.1, va_K.moved (u := U) (U := U.calling g9 mk a) (Vm.Alike.refl U.vm) q.2.2.2.1, q.2.2.2.2.1, Ev.bl q.2.2.2.2.2⟩, va_recv hK hP (ci := 8) (q0 := 0) rfl rgL24_33a7d57, fun U hU hW => ⟨rfl, by rw [hU], atB hU hPc, va_K.moved hW.alike hKc, hDc.weaken (fun _ _ _ _ => trivial), hE.go hS hFc hU hW⟩⟩ rfl rfl hl.1 rfl (lv_room (Nat.le_of_ble_eq_true rfl)) dX9_text_130 ⟨Nat.le_of_ble_eq_true rfl, Nat.le_of_ble_eq_true rfl⟩) hS (fun q _ h => hFc q h) hFc (fun u50 t H1 locs ht hvm h_u50 hB hz1 hk1 hS => ?_)
          obtain ⟨za0_18_f_52, za0_19_f_53, za0_20_f_54, za0_21_f_55, za0_22_f_56, za0_23_f_57, za0_25_f_58, za0_26_f_59, za0_27_f_60, za0_29_f_61, za0_30_f_62, za0_31_f_63, za0_32_f_64, za0_33_f_65, za0_34_f_66, za0_35_f_67, za0_38_f_68, hF69, hF70, hF71, hF72, hF73, hF74, hP1, hK1, hD1⟩ := hB
          have hK1 := va_K.moved hvm.symm hK1
          have hJ9 := rgJ24_3442b3d hP hD hk1 hFc (atH ht hP1) hD1
          clear hP hD hPc hKc hDc hFc hP1 hD1 hk1 hz1
          obtain ⟨hP, hD⟩ := hJ9
          clear hK1
          generalize H1 = H at hP hS ⊢
          refine W.widen (k := 0) (n := 0) (Nat.le_of_ble_eq_true rfl) (Nat.le_of_ble_eq_true rfl) ?_
          refine lv_aload_n hx hb dX9_text_133 rfl (lv_at hl 2 rfl) ?_
          refine lv_iconst (v := 0) hx hb dX9_text_134 (by decide) ?_
          refine va_put (D := (dC, dI)) (ci := 8) (v := .int 0) (ty := .int) (C := RX9) (T := TX9) (N := 44) hx hb hts inlX9 tyX9 tyX9_ok nmX9 hown hK hP hD hS 0 rgL24_33a7d57 rfl 40 (by decide) (hts (.fieldLink RX9 310 "ClosedUntilModel" "undos" "I") qw_552) (fun _ h9 => h9) rfl (by decide +kernel) rfl rfl (Nat.le_of_ble_eq_true rfl) dX9_text_135 (fun H locs hP9 hD9 hS9 => ?_)
          clear hP hD hS
          obtain ⟨hP, hD⟩ := rgS24_31185a1 (e := (a0, .inr (8, [.int 0, .int a0_1, .int a0_2, .int a0_3, .ref a0_4, .int 0, .int a1, .int f82_0_7, .int f82_0_8, .int f82_0_9, .int f82_0_10, .long f82_0_11, .int f82_0_12, .int f82_0_13, .int f82_0_14, .int f82_0_15, .int f82_0_16, .int 0, .ref a0_18, .ref a0_19, .ref a0_20, .ref a0_21, .ref a0_22, .ref a0_23, .ref a0_24, .ref a0_25, .ref a0_26, .ref a0_27, .ref a0_28, .ref a0_29, .ref a0_30, .ref a0_31, .ref a0_32, .ref a0_33, .ref a0_34, .ref a0_35, .long f82_0_36, .int f82_0_37, .ref a0_38, .ref a0_39, .int 0, .ref a0_41, .ref a0_42, .ref a0_43]))) hP9 hD9 rfl
          have hS := hS9; clear hP9 hD9 hS9
          refine lv_aload_n hx hb dX9_text_138 rfl (lv_at hl 2 rfl) ?_
          refine va_get (D := (dC, dI)) (ci := 8) (v := .ref a0_42) (C := RX9) (T := TX9) (N := 44) hx hb hts inlX9 hown hK hP 0 rgL24_33a7d57 rfl 42 (by decide) (hts (.fieldLink RX9 79 "ClosedUntilModel" "isKept" "[Z") qw_596) (fun _ h9 => h9) rfl dX9_text_139 ?_
          refine lv_iconst (v := 0) hx hb dX9_text_142 (by decide) ?_
          refine lv_iconst (v := 0) hx hb dX9_text_143 (by decide) ?_
          refine va_zast hx hb hK hP hD hS 23 22 rgL24_e8f0203 rgT23_79fa27c (vin0 (by decide)) dX9_text_144 (fun H locs hP9 hD9 hS9 => ?_)
          obtain ⟨y75, e_y75⟩ : ∃ y, (upd a0_42_f (0 : Int32).toNatClampNeg (vp_nar .boolean (0))) = y := ⟨_, rfl⟩
          clear hP hD hS
          obtain ⟨hP, hD⟩ := rgS24_dbd131e (e := (a0_42, .inl (a0_42_c, 2, .inl y75))) hP9 hD9 (congrArg (fun z9 => (((a0_42, .inl (a0_42_c, 2, .inl z9)) : Nat × va_E))) e_y75)
          have hS := hS9; clear hP9 hD9 hS9
          refine lv_aload_n hx hb dX9_text_145 rfl (lv_at hl 2 rfl) ?_
          refine va_get (D := (dC, dI)) (ci := 8) (v := .ref a0_42) (C := RX9) (T := TX9) (N := 44) hx hb hts inlX9 hown hK hP 0 rgL24_33a7d57 rfl 42 (by decide) (hts (.fieldLink RX9 79 "ClosedUntilModel" "isKept" "[Z") qw_596) (fun _ h9 => h9) rfl dX9_text_146 ?_
          refine lv_iconst (v := 1) hx hb dX9_text_149 (by decide) ?_
          refine lv_iconst (v := 0) hx hb dX9_text_150 (by decide) ?_
          refine va_zast hx hb hK hP hD hS 23 22 rgL24_e8f0203 rgT23_79fa27c (vin0 (by decide)) dX9_text_151 (fun H locs hP9 hD9 hS9 => ?_)
          obtain ⟨y76, e_y76⟩ : ∃ y, (upd y75 (1 : Int32).toNatClampNeg (vp_nar .boolean (0))) = y := ⟨_, rfl⟩
          clear hP hD hS
          obtain ⟨hP, hD⟩ := rgS24_dbd131e (e := (a0_42, .inl (a0_42_c, 2, .inl y76))) hP9 hD9 (congrArg (fun z9 => (((a0_42, .inl (a0_42_c, 2, .inl z9)) : Nat × va_E))) e_y76)
          have hS := hS9; clear hP9 hD9 hS9
          refine lv_iload_n hx hb dX9_text_152 rfl (lv_at hl 1 rfl) ?_
          have qc0 : (0 : Int32).toInt = 0 := by decide
          refine W.widen (k := 0) (n := 0) (Nat.le_of_ble_eq_true rfl) (Nat.le_of_ble_eq_true rfl) ?_
          have hP9 := hP
          have hD9 := hD
          have hK9 := (rgK23_d68b342 hK)
          have hf9_0 : (0 ≤ (0 : Int32).toInt ∧ (0 : Int32).toInt ≤ 1000) := by omega
          have hf9_1 : (0 ≤ a1.toInt ∧ a1.toInt ≤ 1000) := by omega
          have hf9_2 : (0 ≤ f82_0_7.toInt ∧ f82_0_7.toInt ≤ 1000) := by omega
          have hf9_3 : (0 ≤ f82_0_8.toInt ∧ f82_0_8.toInt ≤ 1000) := by omega
          have hf9_4 : (0 ≤ (0 : Int32).toInt ∧ (0 : Int32).toInt ≤ 1) := by omega
          have hf9_5 : ((-1) ≤ f82_0_37.toInt ∧ f82_0_37.toInt ≤ 23) := by omega
          have hf9_6 : (0 ≤ (0 : Int32).toInt ∧ (0 : Int32).toInt ≤ 12) := by omega
          have hf9_7 : vr 0 8 za0_18_f_52 := hF69
          have hf9_8 : vr 0 4 za0_19_f_53 := hF70
          have hf9_9 : vr 0 24 za0_20_f_54 := hF71
          have hf9_10 : vr 0 12 za0_21_f_55 := hF72
          have hf9_11 : ((0 : Int32).toInt = 0) := by omega
          have hf9_12 : (RowOk (za0_20_f_54 0).toInt za0_38_f_68 0) := by assumption
          have hf9_13 : (WOk za0_32_f_64 za0_33_f_65 0 (za0_21_f_55 0).toInt) := by assumption
          have hf9_14 : (MU (za0_20_f_54 0).toInt a0_39_f (0 : Int32)) := MU.nil (by omega)
          have hf9_15 : (MK (za0_20_f_54 0).toInt a0_41_f y76) := MK.nil e_y75 e_y76
          have hf9_16 : (TE a1 a0_5 (0 : Int32)) := by unfold TE; omega
          exact W.iret (v := l82_2) hx hb hr (fun t ht hW => ⟨⟨l82_2, l82_2, rfl, rfl, 0, 0, a1, f82_0_7, f82_0_8, f82_0_9, f82_0_10, f82_0_11, f82_0_12, f82_0_13, f82_0_14, f82_0_15, f82_0_16, 0, f82_0_36, f82_0_37, 0, za0_18_f_52, za0_19_f_53, za0_20_f_54, za0_21_f_55, za0_22_f_56, za0_23_f_57, w82_8, za0_25_f_58, za0_26_f_59, za0_27_f_60, w82_12, za0_29_f_61, za0_30_f_62, za0_31_f_63, za0_32_f_64, za0_33_f_65, za0_34_f_66, za0_35_f_67, za0_38_f_68, y76, hf9_0, hf9_1, hf9_2, hf9_3, hf9_4, hf9_5, hf9_6, hf9_7, hf9_8, hf9_9, hf9_10, hf9_11, hf9_12, hf9_13, hf9_14, hf9_15, hf9_16, atB ht hP9, va_K.moved hW.alike hK9, hD9⟩, hS.F ht⟩) hS.2.2 dX9_text_153
        · have c110_49 : l82_3.toInt = 0 := (cv_eq rfl (by decide)).mp c110_49
          refine lv_bipush (v := (-2)) hx hb dX9_text_113 (by decide) ?_
          refine lv_bipush (v := 8) hx hb dX9_text_115 (by decide) ?_
          refine lv_aload_n hx hb dX9_text_117 rfl (lv_at hl 2 rfl) ?_
          refine va_get (D := (dC, dI)) (ci := 8) (v := .int f82_0_13) (C := RX9) (T := TX9) (N := 44) hx hb hts inlX9 hown hK hP 0 rgL24_33a7d57 rfl 13 (by decide) (hts (.fieldLink RX9 184 "ClosedUntilModel" "faultPlace" "I") qw_415) (fun _ h9 => h9) rfl dX9_text_118 ?_
          refine lv_imul hx hb dX9_text_121 ?_
          refine lv_topi (fun x77 e_x77 => ?_)
          refine lv_aload_n hx hb dX9_text_122 rfl (lv_at hl 2 rfl) ?_
          refine va_get (D := (dC, dI)) (ci := 8) (v := .int f82_0_12) (C := RX9) (T := TX9) (N := 44) hx hb hts inlX9 hown hK hP 0 rgL24_33a7d57 rfl 12 (by decide) (hts (.fieldLink RX9 181 "ClosedUntilModel" "fault" "I") qw_414) (fun _ h9 => h9) rfl dX9_text_123 ?_
          refine lv_iadd hx hb dX9_text_126 ?_
          refine lv_topi (fun x78 e_x78 => ?_)
          refine lv_isub hx hb dX9_text_127 ?_
          refine lv_topi (fun x79 e_x79 => ?_)
          have qc0 : (0 : Int32).toInt = 0 := by decide
          refine W.widen (k := 0) (n := 0) (Nat.le_of_ble_eq_true rfl) (Nat.le_of_ble_eq_true rfl) ?_
          have hP9 := hP
          have hD9 := hD
          have hK9 := (rgK23_d68b342 hK)
          have hf9_0 : (0 ≤ (0 : Int32).toInt ∧ (0 : Int32).toInt ≤ 1000) := by omega
          have hf9_1 : (0 ≤ a1.toInt ∧ a1.toInt ≤ 1000) := by omega
          have hf9_2 : (0 ≤ f82_0_7.toInt ∧ f82_0_7.toInt ≤ 1000) := by omega
          have hf9_3 : (0 ≤ f82_0_8.toInt ∧ f82_0_8.toInt ≤ 1000) := by omega
          have hf9_4 : (0 ≤ (0 : Int32).toInt ∧ (0 : Int32).toInt ≤ 1) := by omega
          have hf9_5 : ((-1) ≤ f82_0_37.toInt ∧ f82_0_37.toInt ≤ 23) := by omega
          have hf9_6 : (0 ≤ a0_40.toInt ∧ a0_40.toInt ≤ 12) := by omega
          have hf9_7 : vr 0 8 w82_2 := g_w82_2
          have hf9_8 : vr 0 4 w82_3 := g_w82_3
          have hf9_9 : vr 0 24 w82_4 := g_w82_4
          have hf9_10 : vr 0 12 w82_5 := g_w82_5
          have hf9_11 : ((0 : Int32).toInt = 0) := by omega
          have hf9_12 : (RowOk (w82_4 0).toInt a0_38_f 0) := hms.n (congrArg Int32.toInt (gx82_1 0 (by omega)))
          have hf9_13 : (WOk w82_16 w82_17 0 (w82_5 0).toInt) := by have q21 := congrArg Int32.toInt (gx82_2 0 (by omega)); exact WOk.kp hmw q21 gx82_3 gx82_4 (by omega)
          have hf9_14 : (MU (w82_4 0).toInt a0_39_f a0_40) := hmu.n (congrArg Int32.toInt (gx82_1 0 (by omega)))
          have hf9_15 : (MK (w82_4 0).toInt a0_41_f a0_42_f) := hmk.n (congrArg Int32.toInt (gx82_1 0 (by omega)))
          have hf9_16 : (TE a1 a0_5 (0 : Int32)) := by unfold TE; omega
          exact W.iret (v := x79) hx hb hr (fun t ht hW => ⟨⟨x79, x79, rfl, rfl, 0, 0, a1, f82_0_7, f82_0_8, f82_0_9, f82_0_10, f82_0_11, f82_0_12, f82_0_13, f82_0_14, f82_0_15, f82_0_16, 0, f82_0_36, f82_0_37, a0_40, w82_2, w82_3, w82_4, w82_5, w82_6, w82_7, w82_8, w82_9, w82_10, w82_11, w82_12, w82_13, w82_14, w82_15, w82_16, w82_17, w82_18, w82_19, a0_38_f, a0_42_f, hf9_0, hf9_1, hf9_2, hf9_3, hf9_4, hf9_5, hf9_6, hf9_7, hf9_8, hf9_9, hf9_10, hf9_11, hf9_12, hf9_13, hf9_14, hf9_15, hf9_16, atB ht hP9, va_K.moved hW.alike hK9, hD9⟩, hS.F ht⟩) hS.2.2 dX9_text_128
      · have c90_48 : ¬ (f82_0_9.toInt = 0) := mt (cv_eq rfl (by decide)).mpr c90_48
        refine lv_aload_n hx hb dX9_text_93 rfl (lv_at hl 2 rfl) ?_
        have qc0 : (0 : Int32).toInt = 0 := by decide
        have qc1 : (1 : Int32).toInt = 1 := by decide
        have hPc := (rgP24_24f937d hP)
        have hKc := (rgK23_9236fac hK)
        have hDc := (rgD24_b172161 hD)
        have hFc := freeW hDc hS hA
        refine va_calli (va_runV (As := []) (rest := []) ⟨hx, hb, hml, hown, hts⟩ (k_X9_lineHere l dC dI g H.size (a0) (0) (a0_1) (a0_2) (a0_3) (a0_4) (0) (a1) (f82_0_7) (f82_0_8) (f82_0_9) (f82_0_10) (f82_0_11) (f82_0_12) (f82_0_13) (f82_0_14) (f82_0_15) (f82_0_16) (1) (a0_18) (a0_19) (a0_20) (a0_21) (a0_22) (a0_23) (a0_24) (a0_25) (a0_26) (a0_27) (a0_28) (a0_29) (a0_30) (a0_31) (a0_32) (a0_33) (a0_34) (a0_35) (f82_0_36) (f82_0_37) (a0_38) (a0_39) (a0_40) (a0_41) (a0_42) (a0_43) (a0_4_c) (a0_4_f) (a0_18_c) (w82_2) (a0_19_c) (w82_3) (a0_20_c) (w82_4) (a0_21_c) (w82_5) (a0_22_c) (w82_6) (a0_23_c) (w82_7) (a0_24_c) (w82_8) (a0_25_c) (w82_9) (a0_26_c) (w82_10) (a0_27_c) (w82_11) (a0_28_c) (w82_12) (a0_29_c) (w82_13) (a0_30_c) (w82_14) (a0_31_c) (w82_15) (a0_32_c) (w82_16) (a0_33_c) (w82_17) (a0_34_c) (w82_18) (a0_35_c) (w82_19) (by omega) (by omega) (by omega) (by omega) (by omega) (by omega) (by omega) g_w82_2 g_w82_3 g_w82_4 g_w82_5 (by omega) (by assumption) (by assumption)) (cwV 0 hts (gwV qw_598 qw_599 qw_600 qw_386 qw_597) rfl rfl rfl (by decide +kernel) ⟨Nat.le_of_ble_eq_true rfl, Nat.le_of_ble_eq_true rfl⟩) ⟨fun a U g9 mk q => ⟨q.1, q.2.1, q.2.2.1, va_K.moved (u := U) (U := U.calling g9 mk a) (Vm.Alike.refl U.vm) q.2.2.2.1, q.2.2.2.2.1, Ev.bl q.2.2.2.2.2⟩, va_recv hK hP (ci := 8) (q0 := 0) rfl rgL24_33a7d57, fun U hU hW => ⟨rfl, by rw [hU], atB hU hPc, va_K.moved hW.alike hKc, hDc.weaken (fun _ _ _ _ => trivial), hE.go hS hFc hU hW⟩⟩ rfl rfl hl.1 rfl (lv_room (Nat.le_of_ble_eq_true rfl)) dX9_text_94 ⟨Nat.le_of_ble_eq_true rfl, Nat.le_of_ble_eq_true rfl⟩) hS (fun q _ h => hFc q h) hFc (fun r81 u80 t H1 locs ht hvm h_u80 hB hz1 hk1 hS => ?_)
        obtain ⟨za0_7_82, za0_8_83, za0_9_84, za0_10_85, za0_11_86, za0_12_87, za0_13_88, za0_14_89, za0_15_90, za0_16_91, za0_36_92, za0_37_93, za0_18_f_94, za0_19_f_95, za0_20_f_96, za0_21_f_97, za0_22_f_98, za0_23_f_99, za0_24_f_100, za0_25_f_101, za0_26_f_102, za0_27_f_103, za0_28_f_104, za0_29_f_105, za0_30_f_106, za0_31_f_107, za0_32_f_108, za0_33_f_109, za0_34_f_110, za0_35_f_111, hF112, hF113, hF114, hF115, hF116, hF117, hF118, hF119, hF120, hF121, hF122, hF123, hF124, hF125, hF126, hP1, hK1, hD1⟩ := hB
        have hK1 := va_K.moved hvm.symm hK1
        have hJ9 := rgJ24_de21846 hP hD hk1 hFc (atH ht hP1) hD1
        clear hP hD hPc hKc hDc hFc hP1 hD1 hk1 hz1
        obtain ⟨hP, hD⟩ := hJ9
        clear hK1
        generalize H1 = H at hP hS ⊢
        refine W.widen (k := 0) (n := 0) (Nat.le_of_ble_eq_true rfl) (Nat.le_of_ble_eq_true rfl) ?_
        have h_r81 := congrArg Int32.toInt h_u80
        have hz_r81 : r81 = 0 ∨ r81 = 1 := h_u80 ▸ hF119
        have b_r81 := z01 hz_r81
        refine lv_istore_n (lv' := [(3, .int r81), (2, .int l82_2), (0, .ref a0), (1, .int a1)]) hx hb dX9_text_97 rfl hl (by decide) rfl (fun ls hl => ?_)
        obtain ⟨x127, e_x127⟩ : ∃ y : Int32, y = l82_2 + 1 := ⟨_, rfl⟩
        refine lv_iinc (v := x127) (lv' := [(2, .int x127), (3, .int r81), (0, .ref a0), (1, .int a1)]) hx hb dX9_text_98 hl (k := 1) rfl (by rw [e_x127]; rfl) (by decide) rfl (fun ls hl => ?_)
        try have e_x127 := ti_add e_x127 rfl (show (1 : Int32).toInt = 1 by decide) (by omega)
        refine lv_goto (tgt := 82) hx hb dX9_text_101 (by decide) ?_
        have hu_0 := vr_at (lo := 0) (hi := 8) (f := za0_18_f_94) (k := (1 : Int32).toNatClampNeg) (by assumption) rfl
        have hu_1 := vr_at (lo := 0) (hi := 4) (f := za0_19_f_95) (k := (1 : Int32).toNatClampNeg) (by assumption) rfl
        have hu_2 := vr_at (lo := 0) (hi := 24) (f := za0_20_f_96) (k := (1 : Int32).toNatClampNeg) (by assumption) rfl
        have hu_3 := vr_at (lo := 0) (hi := 12) (f := za0_21_f_97) (k := (1 : Int32).toNatClampNeg) (by assumption) rfl
        exact ih82 ((100 * r81.toInt - ((za0_18_f_94 (1 : Int32).toNatClampNeg).toInt + (za0_19_f_95 (1 : Int32).toNatClampNeg).toInt + (za0_20_f_96 (1 : Int32).toNatClampNeg).toInt + (za0_21_f_97 (1 : Int32).toNatClampNeg).toInt)).toNat) _ _ _ (by omega) ⟨r81, x127, za0_7_82, za0_8_83, za0_9_84, za0_10_85, za0_11_86, za0_12_87, za0_13_88, za0_14_89, za0_15_90, za0_16_91, za0_36_92, za0_37_93, za0_18_f_94, za0_19_f_95, za0_20_f_96, za0_21_f_97, za0_22_f_98, za0_23_f_99, za0_24_f_100, za0_25_f_101, za0_26_f_102, za0_27_f_103, za0_28_f_104, za0_29_f_105, za0_30_f_106, za0_31_f_107, za0_32_f_108, za0_33_f_109, za0_34_f_110, za0_35_f_111, rfl, (by omega), (by omega), (by omega), hF115, hF116, hF117, hF118, (by omega), (KP.tr gx82_1 (by first | assumption | exact KP.rf)), (KP.tr gx82_2 (by first | assumption | exact KP.rf)), (KP.tr gx82_3 (by first | assumption | exact KP.rf)), (KP.tr gx82_4 (by first | assumption | exact KP.rf)), (by assumption), (by assumption), lv_sub hl [1, 0, 2, 3] rfl, hP, hD, hS⟩
  · have c16_2 : r1.toInt = 0 := (cv_eq rfl (by decide)).mp c16_2
    refine lv_iconst (v := (-1)) hx hb dX9_text_19 (by decide) ?_
    have qcm1 : ((-1) : Int32).toInt = (-1) := by decide
    have qc0 : (0 : Int32).toInt = 0 := by decide
    refine W.widen (k := 0) (n := 0) (Nat.le_of_ble_eq_true rfl) (Nat.le_of_ble_eq_true rfl) ?_
    have hP9 := hP
    have hD9 := hD
    have hK9 := (rgK23_d68b342 hK)
    have hf9_0 : (0 ≤ a0_5.toInt ∧ a0_5.toInt ≤ 1000) := by omega
    have hf9_1 : (0 ≤ a0_6.toInt ∧ a0_6.toInt ≤ 1000) := by omega
    have hf9_2 : (0 ≤ a0_7.toInt ∧ a0_7.toInt ≤ 1000) := by omega
    have hf9_3 : (0 ≤ a0_8.toInt ∧ a0_8.toInt ≤ 1000) := by omega
    have hf9_4 : (0 ≤ a0_17.toInt ∧ a0_17.toInt ≤ 1) := by omega
    have hf9_5 : ((-1) ≤ a0_37.toInt ∧ a0_37.toInt ≤ 23) := by omega
    have hf9_6 : (0 ≤ a0_40.toInt ∧ a0_40.toInt ≤ 12) := by omega
    have hf9_7 : vr 0 8 a0_18_f := h_a0_18_f
    have hf9_8 : vr 0 4 a0_19_f := h_a0_19_f
    have hf9_9 : vr 0 24 a0_20_f := h_a0_20_f
    have hf9_10 : vr 0 12 a0_21_f := h_a0_21_f
    have hf9_11 : (a0_17.toInt = 0) := by omega
    have hf9_12 : (RowOk (a0_20_f 0).toInt a0_38_f 0) := hms
    have hf9_13 : (WOk a0_32_f a0_33_f 0 (a0_21_f 0).toInt) := hmw
    have hf9_14 : (MU (a0_20_f 0).toInt a0_39_f a0_40) := hmu
    have hf9_15 : (MK (a0_20_f 0).toInt a0_41_f a0_42_f) := hmk
    have hf9_16 : (TE a1 a0_5 a0_5) := by unfold TE; omega
    exact W.iret (v := (-1)) hx hb hr (fun t ht hW => ⟨⟨(-1), (-1), rfl, rfl, 0, a0_5, a0_6, a0_7, a0_8, a0_9, a0_10, a0_11, a0_12, a0_13, a0_14, a0_15, a0_16, a0_17, a0_36, a0_37, a0_40, a0_18_f, a0_19_f, a0_20_f, a0_21_f, a0_22_f, a0_23_f, a0_24_f, a0_25_f, a0_26_f, a0_27_f, a0_28_f, a0_29_f, a0_30_f, a0_31_f, a0_32_f, a0_33_f, a0_34_f, a0_35_f, a0_38_f, a0_42_f, hf9_0, hf9_1, hf9_2, hf9_3, hf9_4, hf9_5, hf9_6, hf9_7, hf9_8, hf9_9, hf9_10, hf9_11, hf9_12, hf9_13, hf9_14, hf9_15, hf9_16, atB ht hP9, va_K.moved hW.alike hK9, hD9⟩, hS.F ht⟩) hS.2.2 dX9_text_20
