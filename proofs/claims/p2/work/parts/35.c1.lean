theorem vr0 {lo hi : Int} (h : lo ≤ 0 ∧ 0 ≤ hi) : vr lo hi (fun _ => 0) := fun _ => by
  have z : (0 : Int32).toInt = 0 := by decide
  rw [z]; exact h
theorem GR.of {cy : ClassId} {K N : Nat} {gf : Nat → Option Nat} {rows : va_W} (h1 : rowsOk cy K rows) (h2 : gridOk N gf rows) : GR cy K N gf rows := fun i hi => by
  obtain ⟨y, e, h3, h4⟩ := h2 i hi
  obtain ⟨j, hj⟩ := List.getElem?_of_mem h4
  obtain ⟨r, hr⟩ := h1 _ h4
  exact ⟨y, h3, j, r, by rw [hj]; exact congrArg (fun z => some (y, z)) hr⟩
theorem RH.left {cy : ClassId} {K y : Nat} {a b : va_W} (h : RH cy K y a) : RH cy K y (a ++ b) := by
  obtain ⟨j, r, hr⟩ := h
  exact ⟨j, r, by rw [List.getElem?_append_left (List.getElem?_eq_some_iff.mp hr).1]; exact hr⟩
theorem RH.right {cy : ClassId} {K y : Nat} {a b : va_W} (h : RH cy K y b) : RH cy K y (a ++ b) := by
  obtain ⟨j, r, hr⟩ := h
  exact ⟨a.length + j, r, by rw [List.getElem?_append_right (by omega), show a.length + j - a.length = j by omega]; exact hr⟩
theorem GR.left {cy : ClassId} {K N : Nat} {gf : Nat → Option Nat} {a b : va_W} (h : GR cy K N gf a) : GR cy K N gf (a ++ b) := fun i hi => by
  obtain ⟨y, e, h2⟩ := h i hi
  exact ⟨y, e, h2.left⟩
theorem GR.right {cy : ClassId} {K N : Nat} {gf : Nat → Option Nat} {a b : va_W} (h : GR cy K N gf b) : GR cy K N gf (a ++ b) := fun i hi => by
  obtain ⟨y, e, h2⟩ := h i hi
  exact ⟨y, e, h2.right⟩
theorem dX1_init_0 : decode cX1_init 0 = .ok (.aload_n 0, 1) := by decide +kernel
theorem dX1_init_1 : decode cX1_init 1 = .ok (.invokespecial 3, 3) := by decide +kernel
theorem dX1_init_4 : decode cX1_init 4 = .ok (.aload_n 0, 1) := by decide +kernel
theorem dX1_init_5 : decode cX1_init 5 = .ok (.bipush 8, 2) := by decide +kernel
theorem dX1_init_7 : decode cX1_init 7 = .ok (.newarray .int, 2) := by decide +kernel
theorem dX1_init_9 : decode cX1_init 9 = .ok (.putfield 9, 3) := by decide +kernel
theorem dX1_init_12 : decode cX1_init 12 = .ok (.aload_n 0, 1) := by decide +kernel
theorem dX1_init_13 : decode cX1_init 13 = .ok (.iconst 4, 1) := by decide +kernel
theorem dX1_init_14 : decode cX1_init 14 = .ok (.newarray .int, 2) := by decide +kernel
theorem dX1_init_16 : decode cX1_init 16 = .ok (.putfield 15, 3) := by decide +kernel
theorem dX1_init_19 : decode cX1_init 19 = .ok (.aload_n 0, 1) := by decide +kernel
theorem dX1_init_20 : decode cX1_init 20 = .ok (.bipush 24, 2) := by decide +kernel
theorem dX1_init_22 : decode cX1_init 22 = .ok (.newarray .int, 2) := by decide +kernel
theorem dX1_init_24 : decode cX1_init 24 = .ok (.putfield 18, 3) := by decide +kernel
theorem dX1_init_27 : decode cX1_init 27 = .ok (.aload_n 0, 1) := by decide +kernel
theorem dX1_init_28 : decode cX1_init 28 = .ok (.bipush 24, 2) := by decide +kernel
theorem dX1_init_30 : decode cX1_init 30 = .ok (.newarray .int, 2) := by decide +kernel
theorem dX1_init_32 : decode cX1_init 32 = .ok (.putfield 21, 3) := by decide +kernel
theorem dX1_init_35 : decode cX1_init 35 = .ok (.aload_n 0, 1) := by decide +kernel
theorem dX1_init_36 : decode cX1_init 36 = .ok (.bipush 24, 2) := by decide +kernel
theorem dX1_init_38 : decode cX1_init 38 = .ok (.newarray .int, 2) := by decide +kernel
theorem dX1_init_40 : decode cX1_init 40 = .ok (.putfield 24, 3) := by decide +kernel
theorem dX1_init_43 : decode cX1_init 43 = .ok (.aload_n 0, 1) := by decide +kernel
theorem dX1_init_44 : decode cX1_init 44 = .ok (.bipush 12, 2) := by decide +kernel
theorem dX1_init_46 : decode cX1_init 46 = .ok (.newarray .int, 2) := by decide +kernel
theorem dX1_init_48 : decode cX1_init 48 = .ok (.putfield 27, 3) := by decide +kernel
theorem dX1_init_51 : decode cX1_init 51 = .ok (.aload_n 0, 1) := by decide +kernel
theorem dX1_init_52 : decode cX1_init 52 = .ok (.bipush 12, 2) := by decide +kernel
theorem dX1_init_54 : decode cX1_init 54 = .ok (.newarray .int, 2) := by decide +kernel
theorem dX1_init_56 : decode cX1_init 56 = .ok (.putfield 30, 3) := by decide +kernel
theorem dX1_init_59 : decode cX1_init 59 = .ok (.aload_n 0, 1) := by decide +kernel
theorem dX1_init_60 : decode cX1_init 60 = .ok (.bipush 12, 2) := by decide +kernel
theorem dX1_init_62 : decode cX1_init 62 = .ok (.newarray .boolean, 2) := by decide +kernel
theorem dX1_init_64 : decode cX1_init 64 = .ok (.putfield 33, 3) := by decide +kernel
theorem dX1_init_67 : decode cX1_init 67 = .ok (.aload_n 0, 1) := by decide +kernel
theorem dX1_init_68 : decode cX1_init 68 = .ok (.bipush 12, 2) := by decide +kernel
theorem dX1_init_70 : decode cX1_init 70 = .ok (.iconst 3, 1) := by decide +kernel
theorem dX1_init_71 : decode cX1_init 71 = .ok (.multianewarray 37 2, 4) := by decide +kernel
theorem dX1_init_75 : decode cX1_init 75 = .ok (.putfield 39, 3) := by decide +kernel
theorem dX1_init_78 : decode cX1_init 78 = .ok (.aload_n 0, 1) := by decide +kernel
theorem dX1_init_79 : decode cX1_init 79 = .ok (.bipush 12, 2) := by decide +kernel
theorem dX1_init_81 : decode cX1_init 81 = .ok (.newarray .int, 2) := by decide +kernel
theorem dX1_init_83 : decode cX1_init 83 = .ok (.putfield 42, 3) := by decide +kernel
theorem dX1_init_86 : decode cX1_init 86 = .ok (.return_, 1) := by decide +kernel
theorem dX2_init_0 : decode cX2_init 0 = .ok (.aload_n 0, 1) := by decide +kernel
theorem dX2_init_1 : decode cX2_init 1 = .ok (.invokespecial 3, 3) := by decide +kernel
theorem dX2_init_4 : decode cX2_init 4 = .ok (.aload_n 0, 1) := by decide +kernel
theorem dX2_init_5 : decode cX2_init 5 = .ok (.bipush 12, 2) := by decide +kernel
theorem dX2_init_7 : decode cX2_init 7 = .ok (.newarray .int, 2) := by decide +kernel
theorem dX2_init_9 : decode cX2_init 9 = .ok (.putfield 9, 3) := by decide +kernel
theorem dX2_init_12 : decode cX2_init 12 = .ok (.aload_n 0, 1) := by decide +kernel
theorem dX2_init_13 : decode cX2_init 13 = .ok (.bipush 12, 2) := by decide +kernel
theorem dX2_init_15 : decode cX2_init 15 = .ok (.newarray .int, 2) := by decide +kernel
theorem dX2_init_17 : decode cX2_init 17 = .ok (.putfield 15, 3) := by decide +kernel
theorem dX2_init_20 : decode cX2_init 20 = .ok (.aload_n 0, 1) := by decide +kernel
theorem dX2_init_21 : decode cX2_init 21 = .ok (.bipush 12, 2) := by decide +kernel
theorem dX2_init_23 : decode cX2_init 23 = .ok (.newarray .int, 2) := by decide +kernel
theorem dX2_init_25 : decode cX2_init 25 = .ok (.putfield 18, 3) := by decide +kernel
theorem dX2_init_28 : decode cX2_init 28 = .ok (.return_, 1) := by decide +kernel
theorem dX3_init_0 : decode cX3_init 0 = .ok (.aload_n 0, 1) := by decide +kernel
theorem dX3_init_1 : decode cX3_init 1 = .ok (.invokespecial 3, 3) := by decide +kernel
theorem dX3_init_4 : decode cX3_init 4 = .ok (.aload_n 0, 1) := by decide +kernel
theorem dX3_init_5 : decode cX3_init 5 = .ok (.bipush 24, 2) := by decide +kernel
theorem dX3_init_7 : decode cX3_init 7 = .ok (.newarray .int, 2) := by decide +kernel
theorem dX3_init_9 : decode cX3_init 9 = .ok (.putfield 9, 3) := by decide +kernel
theorem dX3_init_12 : decode cX3_init 12 = .ok (.aload_n 0, 1) := by decide +kernel
theorem dX3_init_13 : decode cX3_init 13 = .ok (.bipush 8, 2) := by decide +kernel
theorem dX3_init_15 : decode cX3_init 15 = .ok (.newarray .int, 2) := by decide +kernel
theorem dX3_init_17 : decode cX3_init 17 = .ok (.putfield 15, 3) := by decide +kernel
theorem dX3_init_20 : decode cX3_init 20 = .ok (.aload_n 0, 1) := by decide +kernel
theorem dX3_init_21 : decode cX3_init 21 = .ok (.bipush 12, 2) := by decide +kernel
theorem dX3_init_23 : decode cX3_init 23 = .ok (.newarray .int, 2) := by decide +kernel
theorem dX3_init_25 : decode cX3_init 25 = .ok (.putfield 18, 3) := by decide +kernel
theorem dX3_init_28 : decode cX3_init 28 = .ok (.aload_n 0, 1) := by decide +kernel
theorem dX3_init_29 : decode cX3_init 29 = .ok (.bipush 12, 2) := by decide +kernel
theorem dX3_init_31 : decode cX3_init 31 = .ok (.newarray .int, 2) := by decide +kernel
theorem dX3_init_33 : decode cX3_init 33 = .ok (.putfield 21, 3) := by decide +kernel
theorem dX3_init_36 : decode cX3_init 36 = .ok (.aload_n 0, 1) := by decide +kernel
theorem dX3_init_37 : decode cX3_init 37 = .ok (.bipush 12, 2) := by decide +kernel
theorem dX3_init_39 : decode cX3_init 39 = .ok (.iconst 5, 1) := by decide +kernel
theorem dX3_init_40 : decode cX3_init 40 = .ok (.multianewarray 24 2, 4) := by decide +kernel
theorem dX3_init_44 : decode cX3_init 44 = .ok (.putfield 26, 3) := by decide +kernel
theorem dX3_init_47 : decode cX3_init 47 = .ok (.aload_n 0, 1) := by decide +kernel
theorem dX3_init_48 : decode cX3_init 48 = .ok (.bipush 12, 2) := by decide +kernel
theorem dX3_init_50 : decode cX3_init 50 = .ok (.iconst 5, 1) := by decide +kernel
theorem dX3_init_51 : decode cX3_init 51 = .ok (.multianewarray 24 2, 4) := by decide +kernel
theorem dX3_init_55 : decode cX3_init 55 = .ok (.putfield 29, 3) := by decide +kernel
theorem dX3_init_58 : decode cX3_init 58 = .ok (.aload_n 0, 1) := by decide +kernel
theorem dX3_init_59 : decode cX3_init 59 = .ok (.invokevirtual 32, 3) := by decide +kernel
theorem dX3_init_62 : decode cX3_init 62 = .ok (.return_, 1) := by decide +kernel
theorem dX4_init_0 : decode cX4_init 0 = .ok (.aload_n 0, 1) := by decide +kernel
theorem dX4_init_1 : decode cX4_init 1 = .ok (.invokespecial 3, 3) := by decide +kernel
theorem dX4_init_4 : decode cX4_init 4 = .ok (.aload_n 0, 1) := by decide +kernel
theorem dX4_init_5 : decode cX4_init 5 = .ok (.sipush 1000, 3) := by decide +kernel
theorem dX4_init_8 : decode cX4_init 8 = .ok (.newarray .byte, 2) := by decide +kernel
theorem dX4_init_10 : decode cX4_init 10 = .ok (.putfield 9, 3) := by decide +kernel
theorem dX4_init_13 : decode cX4_init 13 = .ok (.return_, 1) := by decide +kernel
theorem dX6_init_0 : decode cX6_init 0 = .ok (.aload_n 0, 1) := by decide +kernel
theorem dX6_init_1 : decode cX6_init 1 = .ok (.invokespecial 3, 3) := by decide +kernel
theorem dX6_init_4 : decode cX6_init 4 = .ok (.aload_n 0, 1) := by decide +kernel
theorem dX6_init_5 : decode cX6_init 5 = .ok (.bipush 24, 2) := by decide +kernel
theorem dX6_init_7 : decode cX6_init 7 = .ok (.newarray .int, 2) := by decide +kernel
theorem dX6_init_9 : decode cX6_init 9 = .ok (.putfield 9, 3) := by decide +kernel
theorem dX6_init_12 : decode cX6_init 12 = .ok (.aload_n 0, 1) := by decide +kernel
theorem dX6_init_13 : decode cX6_init 13 = .ok (.bipush 24, 2) := by decide +kernel
theorem dX6_init_15 : decode cX6_init 15 = .ok (.newarray .int, 2) := by decide +kernel
theorem dX6_init_17 : decode cX6_init 17 = .ok (.putfield 15, 3) := by decide +kernel
theorem dX6_init_20 : decode cX6_init 20 = .ok (.aload_n 0, 1) := by decide +kernel
theorem dX6_init_21 : decode cX6_init 21 = .ok (.bipush 12, 2) := by decide +kernel
theorem dX6_init_23 : decode cX6_init 23 = .ok (.bipush 24, 2) := by decide +kernel
theorem dX6_init_25 : decode cX6_init 25 = .ok (.multianewarray 18 2, 4) := by decide +kernel
theorem dX6_init_29 : decode cX6_init 29 = .ok (.putfield 20, 3) := by decide +kernel
theorem dX6_init_32 : decode cX6_init 32 = .ok (.aload_n 0, 1) := by decide +kernel
theorem dX6_init_33 : decode cX6_init 33 = .ok (.bipush 12, 2) := by decide +kernel
theorem dX6_init_35 : decode cX6_init 35 = .ok (.bipush 24, 2) := by decide +kernel
theorem dX6_init_37 : decode cX6_init 37 = .ok (.multianewarray 18 2, 4) := by decide +kernel
theorem dX6_init_41 : decode cX6_init 41 = .ok (.putfield 23, 3) := by decide +kernel
theorem dX6_init_44 : decode cX6_init 44 = .ok (.aload_n 0, 1) := by decide +kernel
theorem dX6_init_45 : decode cX6_init 45 = .ok (.bipush 24, 2) := by decide +kernel
theorem dX6_init_47 : decode cX6_init 47 = .ok (.newarray .int, 2) := by decide +kernel
theorem dX6_init_49 : decode cX6_init 49 = .ok (.putfield 26, 3) := by decide +kernel
theorem dX6_init_52 : decode cX6_init 52 = .ok (.aload_n 0, 1) := by decide +kernel
theorem dX6_init_53 : decode cX6_init 53 = .ok (.bipush 24, 2) := by decide +kernel
theorem dX6_init_55 : decode cX6_init 55 = .ok (.newarray .int, 2) := by decide +kernel
theorem dX6_init_57 : decode cX6_init 57 = .ok (.putfield 29, 3) := by decide +kernel
theorem dX6_init_60 : decode cX6_init 60 = .ok (.return_, 1) := by decide +kernel
theorem qw_663 : (Cond.code yX8_sooner cX8_sooner 7 (some .int) : Cond) ∈ TBL := List.mem_of_getElem? (i := 768) (by decide +kernel)
theorem qw_664 : (Cond.methodLink RL 7 yX8_sooner : Cond) ∈ TBL := List.mem_of_getElem? (i := 765) (by decide +kernel)
theorem qw_665 : (Cond.instanceMethod yX8_sooner : Cond) ∈ TBL := List.mem_of_getElem? (i := 766) (by decide +kernel)
theorem qw_666 : (Cond.selects RX8 yX8_sooner yX8_sooner : Cond) ∈ TBL := List.mem_of_getElem? (i := 767) (by decide +kernel)
theorem qw_667 : (Cond.classLink RL 13 "java/util/NoSuchElementException" : Cond) ∈ TBL := List.mem_of_getElem? (i := 764) (by decide +kernel)
theorem qw_668 : (Cond.methodLink RX4 3 objectInit : Cond) ∈ TBL := List.mem_of_getElem? (i := 45) (by decide +kernel)
theorem qw_669 : (Cond.instanceMethod objectInit : Cond) ∈ TBL := List.mem_of_getElem? (i := 11) (by decide +kernel)
theorem qw_670 : (Cond.code objectInit ⟨#[0xb1]⟩ 1 none : Cond) ∈ TBL := List.mem_of_getElem? (i := 12) (by decide +kernel)
theorem qw_671 : (Cond.arrayClass .byte : Cond) ∈ TBL := List.mem_of_getElem? (i := 46) (by decide +kernel)
theorem qw_672 : (Cond.methodLink RX2 3 objectInit : Cond) ∈ TBL := List.mem_of_getElem? (i := 130) (by decide +kernel)
theorem qw_673 : (Cond.methodLink RX1 3 objectInit : Cond) ∈ TBL := List.mem_of_getElem? (i := 150) (by decide +kernel)
theorem qw_674 : (Cond.fieldLink RX1 9 "ClosedUntil$Holdings" "birth" "[I" : Cond) ∈ TBL := List.mem_of_getElem? (i := 151) (by decide +kernel)
theorem qw_675 : (Cond.fieldLink RX1 15 "ClosedUntil$Holdings" "depositDay" "[I" : Cond) ∈ TBL := List.mem_of_getElem? (i := 152) (by decide +kernel)
theorem qw_676 : (Cond.fieldLink RX1 18 "ClosedUntil$Holdings" "lastDay" "[I" : Cond) ∈ TBL := List.mem_of_getElem? (i := 153) (by decide +kernel)
theorem qw_677 : (Cond.arrayClass .boolean : Cond) ∈ TBL := List.mem_of_getElem? (i := 33) (by decide +kernel)
theorem qw_678 : (Cond.fieldLink RX1 33 "ClosedUntil$Holdings" "whole" "[Z" : Cond) ∈ TBL := List.mem_of_getElem? (i := 158) (by decide +kernel)
theorem qw_679 : (Cond.classLink RX1 37 "[[I" : Cond) ∈ TBL := List.mem_of_getElem? (i := 159) (by decide +kernel)
theorem qw_680 : (Cond.fieldLink RX1 39 "ClosedUntil$Holdings" "years" "[[I" : Cond) ∈ TBL := List.mem_of_getElem? (i := 160) (by decide +kernel)
theorem qw_681 : (Cond.fieldLink RX1 42 "ClosedUntil$Holdings" "untilDay" "[I" : Cond) ∈ TBL := List.mem_of_getElem? (i := 161) (by decide +kernel)
theorem qw_682 : (Cond.methodLink RX6 3 objectInit : Cond) ∈ TBL := List.mem_of_getElem? (i := 120) (by decide +kernel)
theorem qw_683 : (Cond.classLink RX6 18 "[[I" : Cond) ∈ TBL := List.mem_of_getElem? (i := 123) (by decide +kernel)
theorem qw_684 : (Cond.methodLink RX3 3 objectInit : Cond) ∈ TBL := List.mem_of_getElem? (i := 136) (by decide +kernel)
theorem qw_685 : (Cond.classLink RX3 24 "[[I" : Cond) ∈ TBL := List.mem_of_getElem? (i := 141) (by decide +kernel)
theorem qw_686 : (Cond.methodLink RX3 32 yX3_clear : Cond) ∈ TBL := List.mem_of_getElem? (i := 144) (by decide +kernel)
theorem rgG1_69c5b20 {A : Nat → Prop} {D : va_G} {cl : List vw_C} {H : Heap} {c0 : Nat × va_E} {d : Nat × va_E} (hP : va_P D cl (([c0] ++ [d])) H) (hD : va_D A (([c0] ++ [d]))) : va_P D cl ([c0, d]) H ∧ va_D A ([c0, d]) := ⟨hP, hD⟩
theorem rgG2_ba1d474 {A : Nat → Prop} {D : va_G} {cl : List vw_C} {H : Heap} {c0 c1 : Nat × va_E} {d : Nat × va_E} (hP : va_P D cl (([c0, c1] ++ [d])) H) (hD : va_D A (([c0, c1] ++ [d]))) : va_P D cl ([c0, c1, d]) H ∧ va_D A ([c0, c1, d]) := ⟨hP, hD⟩
theorem rgG3_99a7846 {A : Nat → Prop} {D : va_G} {cl : List vw_C} {H : Heap} {c0 c1 c2 : Nat × va_E} {d : Nat × va_E} (hP : va_P D cl (([c0, c1, c2] ++ [d])) H) (hD : va_D A (([c0, c1, c2] ++ [d]))) : va_P D cl ([c0, c1, c2, d]) H ∧ va_D A ([c0, c1, c2, d]) := ⟨hP, hD⟩
theorem rgG4_09643f2 {A : Nat → Prop} {D : va_G} {cl : List vw_C} {H : Heap} {c0 c1 c2 c3 : Nat × va_E} {d : Nat × va_E} (hP : va_P D cl (([c0, c1, c2, c3] ++ [d])) H) (hD : va_D A (([c0, c1, c2, c3] ++ [d]))) : va_P D cl ([c0, c1, c2, c3, d]) H ∧ va_D A ([c0, c1, c2, c3, d]) := ⟨hP, hD⟩
theorem rgG5_26d9b8b {A : Nat → Prop} {D : va_G} {cl : List vw_C} {H : Heap} {c0 c1 c2 c3 c4 : Nat × va_E} {d : Nat × va_E} (hP : va_P D cl (([c0, c1, c2, c3, c4] ++ [d])) H) (hD : va_D A (([c0, c1, c2, c3, c4] ++ [d]))) : va_P D cl ([c0, c1, c2, c3, c4, d]) H ∧ va_D A ([c0, c1, c2, c3, c4, d]) := ⟨hP, hD⟩
theorem rgG6_1af900c {A : Nat → Prop} {D : va_G} {cl : List vw_C} {H : Heap} {c0 c1 c2 c3 c4 c5 : Nat × va_E} {d : Nat × va_E} (hP : va_P D cl (([c0, c1, c2, c3, c4, c5] ++ [d])) H) (hD : va_D A (([c0, c1, c2, c3, c4, c5] ++ [d]))) : va_P D cl ([c0, c1, c2, c3, c4, c5, d]) H ∧ va_D A ([c0, c1, c2, c3, c4, c5, d]) := ⟨hP, hD⟩
theorem rgS7_f509211 {A : Nat → Prop} {D : va_G} {cl : List vw_C} {H : Heap} {c0 c1 c2 c3 c4 c5 c6 : Nat × va_E} {d e : Nat × va_E} (hP : va_P D cl (([c0, c1, c2, c3, c4, c5, c6]).set 0 d) H) (hD : va_D A (([c0, c1, c2, c3, c4, c5, c6]).set 0 d)) (h : d = e) : va_P D cl ([e, c1, c2, c3, c4, c5, c6]) H ∧ va_D A ([e, c1, c2, c3, c4, c5, c6]) := by subst h; exact ⟨hP, hD⟩
theorem rgG7_2566b23 {A : Nat → Prop} {D : va_G} {cl : List vw_C} {H : Heap} {c0 c1 c2 c3 c4 c5 c6 : Nat × va_E} {d : Nat × va_E} (hP : va_P D cl (([c0, c1, c2, c3, c4, c5, c6] ++ [d])) H) (hD : va_D A (([c0, c1, c2, c3, c4, c5, c6] ++ [d]))) : va_P D cl ([c0, c1, c2, c3, c4, c5, c6, d]) H ∧ va_D A ([c0, c1, c2, c3, c4, c5, c6, d]) := ⟨hP, hD⟩
theorem rgG8_05fee0d {A : Nat → Prop} {D : va_G} {cl : List vw_C} {H : Heap} {c0 c1 c2 c3 c4 c5 c6 c7 : Nat × va_E} {d : Nat × va_E} (hP : va_P D cl (([c0, c1, c2, c3, c4, c5, c6, c7] ++ [d])) H) (hD : va_D A (([c0, c1, c2, c3, c4, c5, c6, c7] ++ [d]))) : va_P D cl ([c0, c1, c2, c3, c4, c5, c6, c7, d]) H ∧ va_D A ([c0, c1, c2, c3, c4, c5, c6, c7, d]) := ⟨hP, hD⟩
theorem rgS9_7696288 {A : Nat → Prop} {D : va_G} {cl : List vw_C} {H : Heap} {c0 c1 c2 c3 c4 c5 c6 c7 c8 : Nat × va_E} {d e : Nat × va_E} (hP : va_P D cl (([c0, c1, c2, c3, c4, c5, c6, c7, c8]).set 0 d) H) (hD : va_D A (([c0, c1, c2, c3, c4, c5, c6, c7, c8]).set 0 d)) (h : d = e) : va_P D cl ([e, c1, c2, c3, c4, c5, c6, c7, c8]) H ∧ va_D A ([e, c1, c2, c3, c4, c5, c6, c7, c8]) := by subst h; exact ⟨hP, hD⟩
theorem rgG9_f24b47d {A : Nat → Prop} {D : va_G} {cl : List vw_C} {H : Heap} {c0 c1 c2 c3 c4 c5 c6 c7 c8 : Nat × va_E} {R : va_W} {d : Nat × va_E} (hP : va_P D cl (([c0, c1, c2, c3, c4, c5, c6, c7, c8] ++ [d]) ++ R) H) (hD : va_D A (([c0, c1, c2, c3, c4, c5, c6, c7, c8] ++ [d]) ++ R)) : va_P D cl ([c0, c1, c2, c3, c4, c5, c6, c7, c8, d] ++ R) H ∧ va_D A ([c0, c1, c2, c3, c4, c5, c6, c7, c8, d] ++ R) := ⟨hP, hD⟩
theorem rgS10_69bbca1 {A : Nat → Prop} {D : va_G} {cl : List vw_C} {H : Heap} {c0 c1 c2 c3 c4 c5 c6 c7 c8 c9 : Nat × va_E} {R : va_W} {d e : Nat × va_E} (hP : va_P D cl (([c0, c1, c2, c3, c4, c5, c6, c7, c8, c9] ++ R).set 0 d) H) (hD : va_D A (([c0, c1, c2, c3, c4, c5, c6, c7, c8, c9] ++ R).set 0 d)) (h : d = e) : va_P D cl ([e, c1, c2, c3, c4, c5, c6, c7, c8, c9] ++ R) H ∧ va_D A ([e, c1, c2, c3, c4, c5, c6, c7, c8, c9] ++ R) := by subst h; exact ⟨hP, hD⟩
theorem rgG10_7d37990 {A : Nat → Prop} {D : va_G} {cl : List vw_C} {H : Heap} {c0 c1 c2 c3 c4 c5 c6 c7 c8 c9 : Nat × va_E} {R : va_W} {d : Nat × va_E} (hP : va_P D cl (([c0, c1, c2, c3, c4, c5, c6, c7, c8, c9] ++ [d]) ++ R) H) (hD : va_D A (([c0, c1, c2, c3, c4, c5, c6, c7, c8, c9] ++ [d]) ++ R)) : va_P D cl ([c0, c1, c2, c3, c4, c5, c6, c7, c8, c9, d] ++ R) H ∧ va_D A ([c0, c1, c2, c3, c4, c5, c6, c7, c8, c9, d] ++ R) := ⟨hP, hD⟩
theorem rgG3_622a7e8 {A : Nat → Prop} {D : va_G} {cl : List vw_C} {H : Heap} {c0 c1 c2 : Nat × va_E} {R : va_W} {d : Nat × va_E} (hP : va_P D cl (([c0, c1, c2] ++ [d]) ++ R) H) (hD : va_D A (([c0, c1, c2] ++ [d]) ++ R)) : va_P D cl ([c0, c1, c2, d] ++ R) H ∧ va_D A ([c0, c1, c2, d] ++ R) := ⟨hP, hD⟩
theorem rgS4_b8acf50 {A : Nat → Prop} {D : va_G} {cl : List vw_C} {H : Heap} {c0 c1 c2 c3 : Nat × va_E} {R : va_W} {d e : Nat × va_E} (hP : va_P D cl (([c0, c1, c2, c3] ++ R).set 0 d) H) (hD : va_D A (([c0, c1, c2, c3] ++ R).set 0 d)) (h : d = e) : va_P D cl ([e, c1, c2, c3] ++ R) H ∧ va_D A ([e, c1, c2, c3] ++ R) := by subst h; exact ⟨hP, hD⟩
theorem rgG4_295ba46 {A : Nat → Prop} {D : va_G} {cl : List vw_C} {H : Heap} {c0 c1 c2 c3 : Nat × va_E} {R : va_W} {d : Nat × va_E} (hP : va_P D cl (([c0, c1, c2, c3] ++ [d]) ++ R) H) (hD : va_D A (([c0, c1, c2, c3] ++ [d]) ++ R)) : va_P D cl ([c0, c1, c2, c3, d] ++ R) H ∧ va_D A ([c0, c1, c2, c3, d] ++ R) := ⟨hP, hD⟩
theorem rgL5_c7311da {c0 c1 c2 c3 c4 : Nat × va_E} {R : va_W} : (([c0, c1, c2, c3, c4] ++ R : va_W))[0]? = some c0 := rfl
theorem rgS5_30e406f {A : Nat → Prop} {D : va_G} {cl : List vw_C} {H : Heap} {c0 c1 c2 c3 c4 : Nat × va_E} {R : va_W} {d e : Nat × va_E} (hP : va_P D cl (([c0, c1, c2, c3, c4] ++ R).set 0 d) H) (hD : va_D A (([c0, c1, c2, c3, c4] ++ R).set 0 d)) (h : d = e) : va_P D cl ([e, c1, c2, c3, c4] ++ R) H ∧ va_D A ([e, c1, c2, c3, c4] ++ R) := by subst h; exact ⟨hP, hD⟩
theorem rgG5_ed5bd64 {A : Nat → Prop} {D : va_G} {cl : List vw_C} {H : Heap} {c0 c1 c2 c3 c4 : Nat × va_E} {R : va_W} {d : Nat × va_E} (hP : va_P D cl (([c0, c1, c2, c3, c4] ++ [d]) ++ R) H) (hD : va_D A (([c0, c1, c2, c3, c4] ++ [d]) ++ R)) : va_P D cl ([c0, c1, c2, c3, c4, d] ++ R) H ∧ va_D A ([c0, c1, c2, c3, c4, d] ++ R) := ⟨hP, hD⟩
theorem rgL6_ab82cf0 {c0 c1 c2 c3 c4 c5 : Nat × va_E} {R : va_W} : (([c0, c1, c2, c3, c4, c5] ++ R : va_W))[0]? = some c0 := rfl
theorem rgS6_ddd148c {A : Nat → Prop} {D : va_G} {cl : List vw_C} {H : Heap} {c0 c1 c2 c3 c4 c5 : Nat × va_E} {R : va_W} {d e : Nat × va_E} (hP : va_P D cl (([c0, c1, c2, c3, c4, c5] ++ R).set 0 d) H) (hD : va_D A (([c0, c1, c2, c3, c4, c5] ++ R).set 0 d)) (h : d = e) : va_P D cl ([e, c1, c2, c3, c4, c5] ++ R) H ∧ va_D A ([e, c1, c2, c3, c4, c5] ++ R) := by subst h; exact ⟨hP, hD⟩
theorem rgG6_438f1ee {A : Nat → Prop} {D : va_G} {cl : List vw_C} {H : Heap} {c0 c1 c2 c3 c4 c5 : Nat × va_E} {R : va_W} {d : Nat × va_E} (hP : va_P D cl (([c0, c1, c2, c3, c4, c5] ++ [d]) ++ R) H) (hD : va_D A (([c0, c1, c2, c3, c4, c5] ++ [d]) ++ R)) : va_P D cl ([c0, c1, c2, c3, c4, c5, d] ++ R) H ∧ va_D A ([c0, c1, c2, c3, c4, c5, d] ++ R) := ⟨hP, hD⟩
theorem rgL7_136f602 {c0 c1 c2 c3 c4 c5 c6 : Nat × va_E} {R : va_W} : (([c0, c1, c2, c3, c4, c5, c6] ++ R : va_W))[0]? = some c0 := rfl
theorem rgS7_74cab1f {A : Nat → Prop} {D : va_G} {cl : List vw_C} {H : Heap} {c0 c1 c2 c3 c4 c5 c6 : Nat × va_E} {R : va_W} {d e : Nat × va_E} (hP : va_P D cl (([c0, c1, c2, c3, c4, c5, c6] ++ R).set 0 d) H) (hD : va_D A (([c0, c1, c2, c3, c4, c5, c6] ++ R).set 0 d)) (h : d = e) : va_P D cl ([e, c1, c2, c3, c4, c5, c6] ++ R) H ∧ va_D A ([e, c1, c2, c3, c4, c5, c6] ++ R) := by subst h; exact ⟨hP, hD⟩
theorem rgP7_7bba4f0 {D : va_G} {cl : List vw_C} {H : Heap} {c0 c1 c2 c3 c4 c5 c6 : Nat × va_E} {R : va_W} (h : va_P D cl ([c0, c1, c2, c3, c4, c5, c6] ++ R) H) : va_P D cl ([c0, c1, c2, c3, c4]) H := h.sub (ws' := [c0, c1, c2, c3, c4]) [0, 1, 2, 3, 4] rfl
theorem rgK6_bbe55ed {D : va_G} {cl : List vw_C} {U : State} {t0 t1 t2 t3 t4 t5 : ClassId × FieldType} (h : va_K D cl [t0, t1, t2, t3, t4, t5] U) : va_K D cl [t0, t1, t2, t3] U := h.sub (tys' := [t0, t1, t2, t3]) [0, 1, 2, 3] rfl
theorem rgD7_9a5b9d2 {A : Nat → Prop} {c0 c1 c2 c3 c4 c5 c6 : Nat × va_E} {R : va_W} (h : va_D A ([c0, c1, c2, c3, c4, c5, c6] ++ R)) : va_D A ([c0, c1, c2, c3, c4]) := h.sub (ws' := [c0, c1, c2, c3, c4]) [0, 1, 2, 3, 4] (by decide +kernel) rfl
theorem rgJ7_7fed05b {A0 : Nat → Prop} {D : va_G} {cl : List vw_C} {H H1 : Heap} {c0 c1 c2 c3 c4 c5 c6 : Nat × va_E} {d0 d1 d2 d3 d4 : Nat × va_E} {R : va_W} (hP : va_P D cl ([c0, c1, c2, c3, c4, c5, c6] ++ R) H) (hD : va_D A0 ([c0, c1, c2, c3, c4, c5, c6] ++ R)) (hk : ∀ q : Nat, q < H.size → ¬ va_A ([c0, c1, c2, c3, c4]) H.size q → H1[q]? = H[q]?) (hF : ∀ q, va_A ([c0, c1, c2, c3, c4]) H.size q → A0 q) (hP1 : va_P D cl ([d0, d1, d2, d3, d4]) H1) (hD1 : va_D (va_A ([c0, c1, c2, c3, c4]) H.size) ([d0, d1, d2, d3, d4])) : va_P D cl ([d0, d1, d2, d3, d4, c5, c6] ++ R) H1 ∧ va_D A0 ([d0, d1, d2, d3, d4, c5, c6] ++ R) := by
  obtain ⟨h1, h2⟩ := va_joinQ (X := [c0, c1, c2, c3, c4, c5, c6]) (cx := [c0, c1, c2, c3, c4]) (wr := [c5, c6]) (w1 := [d0, d1, d2, d3, d4]) hP hD [0, 1, 2, 3, 4] [5, 6] rfl rfl (by decide +kernel) (by decide +kernel) hk hF hP1 hD1
  exact ⟨va_P.part (X := [c5, c6, d0, d1, d2, d3, d4]) (cx := [d0, d1, d2, d3, d4, c5, c6]) h1 [2, 3, 4, 5, 6, 0, 1] rfl, va_D.part (X := [c5, c6, d0, d1, d2, d3, d4]) (cx := [d0, d1, d2, d3, d4, c5, c6]) h2 [2, 3, 4, 5, 6, 0, 1] (by decide +kernel) rfl⟩
set_option maxHeartbeats 4000000 in
set_option maxRecDepth 100000 in
theorem k_X4_init (l : Launch) (dC : Nat → ClassId) (dI : Nat → Nat → Nat) (g : Gv) (sz : Nat) (a0 : Nat)  : Met l yX4_init (.code yX4_init cX4_init 1 none :: TBL) ({ frames := 1, cells := 1, slots := 1000, locals := 40 }) (va_Pc [.ref a0] (fun U => U.heap.size = sz ∧ va_P (dC, dI) vwCl [(a0, .inr (3, [.null, .int 0]))] U.heap ∧ va_K (dC, dI) vwCl [] U ∧ va_D (fun _ => True) [(a0, .inr (3, [.null, .int 0]))] ∧ Ev g (va_A [(a0, .inr (3, [.null, .int 0]))] sz) U)) (va_Qv (fun (_ : Unit) => True) (fun (_ : Unit) (t : State) => ∃ (za0_0 : Nat) (za0_0_c : ClassId), va_P (dC, dI) vwCl [(a0, .inr (3, [.ref za0_0, .int 0])), (za0_0, .inl (za0_0_c, 1000, .inl (fun _ => 0)))] t.heap ∧ va_K (dC, dI) vwCl [(za0_0_c, .byte)] t ∧ va_D (va_A [(a0, .inr (3, [.null, .int 0]))] sz) [(a0, .inr (3, [.ref za0_0, .int 0])), (za0_0, .inl (za0_0_c, 1000, .inl (fun _ => 0)))]) (va_A [(a0, .inr (3, [.null, .int 0]))] sz)) 1 1000 (va_A [(a0, .inr (3, [.null, .int 0]))] sz) := by
  refine Met.ofW (cc := cX4_init) (maxL := 1) (ret := none) (by decide) rfl ?_
  intro p e s m args below meth c s₁ B hml hv
  obtain ⟨rfl, hsz, hP, hK, hD0, hE⟩ := hv
  have hx := B.exec
  have hb := B.bytes
  have hr := B.returns
  have hts0 := atoms_spec (ws := (.code yX4_init cX4_init 1 none :: TBL)) B.pre
  have hts := fun (w : Cond) (h : w ∈ TBL) => hts0 w (List.mem_cons_of_mem _ h)
  have hown : s.vm.findClass RX4 = some m.cls := findClass_of_methodNamed B.named
  have hlocks := B.notSynchronized
  have hN := hE.1
  have hin : meth.name = "<init>" := (name_of_methodNamed B.named B.method).1
  subst hsz
  have hD := hD0.self (sz := s.heap.size)
  generalize hAe : va_A [(a0, .inr (3, [.null, .int 0]))] s.heap.size = A at hD hE ⊢
  have hA : ∀ q : Nat, s.heap.size ≤ q → A q := fun q h => by rw [← hAe]; exact Or.inr h
  have hS : va_S A s.heap s.heap [] := va_S.rf
  replace hP : va_P (dC, dI) vwCl [(a0, .inr (3, [.null, .int 0]))] s.heap := hP
  have hl := lv_entry ([.ref a0]) (n := 1) (Nat.le_of_ble_eq_true rfl)
  rw [lg_entry_eq]
  generalize (lg_sl ([.ref a0]) ++ List.replicate (1 - (lg_sl ([.ref a0])).length) Slot.unset).toArray = ls at hl ⊢
  have hl : lv_has ls 1 [(0, .ref a0)] := hl
  refine lv_aload_n hx hb dX4_init_0 rfl (lv_at hl 0 rfl) ?_
  refine W.objInit hx hb hown (hts (.methodLink RX4 3 objectInit) qw_668) (hts (.instanceMethod objectInit) qw_669) (hts (.code objectInit ⟨#[0xb1]⟩ 1 none) qw_670) rfl (by rw [hml]; exact hl.1) rfl dX4_init_1 (Nat.le_of_ble_eq_true rfl) (Nat.le_of_ble_eq_true rfl) ?_
  refine W.eq (g2 := F0 m 4 ls []) rfl ?_
  refine lv_aload_n hx hb dX4_init_4 rfl (lv_at hl 0 rfl) ?_
  refine lv_sipush (v := 1000) hx hb dX4_init_5 (by decide) ?_
  refine va_newa (atype := .byte) (ty := .byte) (a0 := (1000, .inl (fun _ => 0))) (N' := 1000) hx hb (hts (.arrayClass .byte) qw_671) rfl hK hP hD hS hA (fun _ => rfl) (by decide) (by decide) (Nat.le_of_ble_eq_true rfl) (Nat.le_of_ble_eq_true rfl) (Nat.le_of_ble_eq_true rfl) dX4_init_8 (fun q1 cA2 H hK hP hD hS => ?_)
  replace hK : va_K (dC, dI) vwCl [(cA2, .byte)] s := hK
  have hJ9 := rgG1_69c5b20 hP hD
  clear hP hD; obtain ⟨hP, hD⟩ := hJ9
  refine W.widen (k := 1) (n := 1000) (Nat.le_of_ble_eq_true rfl) (Nat.le_of_ble_eq_true rfl) ?_
  refine va_putF (D := (dC, dI)) (ci := 3) (v := .ref q1) (ty := .array .byte) (C := RX4) (T := TX4) (N := 2) hx hb hts inlX4 tyX4 tyX4_ok nmX4 hown hK hP hD hS 0 rgL2_5ac5f51 rfl 0 (by decide) (hts (.fieldLink RX4 9 "ClosedUntil$Tape" "bytes" "[B") qw_51) (fun _ h9 => h9) rfl hin rfl (by decide +kernel) rfl rfl (Nat.le_of_ble_eq_true rfl) dX4_init_10 (fun H locs hP9 hD9 hS9 => ?_)
  clear hP hD hS
  obtain ⟨hP, hD⟩ := rgS2_40109d0 (e := (a0, .inr (3, [.ref q1, .int 0]))) hP9 hD9 rfl
  have hS := hS9; clear hP9 hD9 hS9
  have hP9 := hP
  have hD9 := hD
  have hK9 := hK
  refine W.widen (k := 1) (n := 1000) (Nat.le_of_ble_eq_true rfl) (Nat.le_of_ble_eq_true rfl) ?_
  exact W.vret hx hb hr (fun t ht hW => ⟨⟨(), rfl, trivial, q1, cA2, atB ht hP9, va_K.moved hW.alike hK9, hD9⟩, hS.F ht⟩) hS.2.2 dX4_init_13
set_option maxHeartbeats 4000000 in
set_option maxRecDepth 100000 in
theorem k_X2_init (l : Launch) (dC : Nat → ClassId) (dI : Nat → Nat → Nat) (g : Gv) (sz : Nat) (a0 : Nat)  : Met l yX2_init (.code yX2_init cX2_init 1 none :: TBL) ({ frames := 1, cells := 3, slots := 36, locals := 40 }) (va_Pc [.ref a0] (fun U => U.heap.size = sz ∧ va_P (dC, dI) vwCl [(a0, .inr (1, [.null, .null, .null, .int 0]))] U.heap ∧ va_K (dC, dI) vwCl [] U ∧ va_D (fun _ => True) [(a0, .inr (1, [.null, .null, .null, .int 0]))] ∧ Ev g (va_A [(a0, .inr (1, [.null, .null, .null, .int 0]))] sz) U)) (va_Qv (fun (_ : Unit) => True) (fun (_ : Unit) (t : State) => ∃ (za0_0 : Nat) (za0_1 : Nat) (za0_2 : Nat) (za0_0_c : ClassId) (za0_1_c : ClassId) (za0_2_c : ClassId), va_P (dC, dI) vwCl [(a0, .inr (1, [.ref za0_0, .ref za0_1, .ref za0_2, .int 0])), (za0_0, .inl (za0_0_c, 12, .inl (fun _ => 0))), (za0_1, .inl (za0_1_c, 12, .inl (fun _ => 0))), (za0_2, .inl (za0_2_c, 12, .inl (fun _ => 0)))] t.heap ∧ va_K (dC, dI) vwCl [(za0_0_c, .int), (za0_1_c, .int), (za0_2_c, .int)] t ∧ va_D (va_A [(a0, .inr (1, [.null, .null, .null, .int 0]))] sz) [(a0, .inr (1, [.ref za0_0, .ref za0_1, .ref za0_2, .int 0])), (za0_0, .inl (za0_0_c, 12, .inl (fun _ => 0))), (za0_1, .inl (za0_1_c, 12, .inl (fun _ => 0))), (za0_2, .inl (za0_2_c, 12, .inl (fun _ => 0)))]) (va_A [(a0, .inr (1, [.null, .null, .null, .int 0]))] sz)) 3 36 (va_A [(a0, .inr (1, [.null, .null, .null, .int 0]))] sz) := by
  refine Met.ofW (cc := cX2_init) (maxL := 1) (ret := none) (by decide) rfl ?_
  intro p e s m args below meth c s₁ B hml hv
  obtain ⟨rfl, hsz, hP, hK, hD0, hE⟩ := hv
  have hx := B.exec
  have hb := B.bytes
  have hr := B.returns
  have hts0 := atoms_spec (ws := (.code yX2_init cX2_init 1 none :: TBL)) B.pre
  have hts := fun (w : Cond) (h : w ∈ TBL) => hts0 w (List.mem_cons_of_mem _ h)
  have hown : s.vm.findClass RX2 = some m.cls := findClass_of_methodNamed B.named
  have hlocks := B.notSynchronized
  have hN := hE.1
  have hin : meth.name = "<init>" := (name_of_methodNamed B.named B.method).1
  subst hsz
  have hD := hD0.self (sz := s.heap.size)
  generalize hAe : va_A [(a0, .inr (1, [.null, .null, .null, .int 0]))] s.heap.size = A at hD hE ⊢
  have hA : ∀ q : Nat, s.heap.size ≤ q → A q := fun q h => by rw [← hAe]; exact Or.inr h
  have hS : va_S A s.heap s.heap [] := va_S.rf
  replace hP : va_P (dC, dI) vwCl [(a0, .inr (1, [.null, .null, .null, .int 0]))] s.heap := hP
  have hl := lv_entry ([.ref a0]) (n := 1) (Nat.le_of_ble_eq_true rfl)
  rw [lg_entry_eq]
  generalize (lg_sl ([.ref a0]) ++ List.replicate (1 - (lg_sl ([.ref a0])).length) Slot.unset).toArray = ls at hl ⊢
  have hl : lv_has ls 1 [(0, .ref a0)] := hl
  refine lv_aload_n hx hb dX2_init_0 rfl (lv_at hl 0 rfl) ?_
  refine W.objInit hx hb hown (hts (.methodLink RX2 3 objectInit) qw_672) (hts (.instanceMethod objectInit) qw_669) (hts (.code objectInit ⟨#[0xb1]⟩ 1 none) qw_670) rfl (by rw [hml]; exact hl.1) rfl dX2_init_1 (Nat.le_of_ble_eq_true rfl) (Nat.le_of_ble_eq_true rfl) ?_
  refine W.eq (g2 := F0 m 4 ls []) rfl ?_
  refine lv_aload_n hx hb dX2_init_4 rfl (lv_at hl 0 rfl) ?_
  refine lv_bipush (v := 12) hx hb dX2_init_5 (by decide) ?_
  refine va_newa (atype := .int) (ty := .int) (a0 := (12, .inl (fun _ => 0))) (N' := 12) hx hb (hts (.arrayClass .int) qw_54) rfl hK hP hD hS hA (fun _ => rfl) (by decide) (by decide) (Nat.le_of_ble_eq_true rfl) (Nat.le_of_ble_eq_true rfl) (Nat.le_of_ble_eq_true rfl) dX2_init_7 (fun q1 cA2 H hK hP hD hS => ?_)
  replace hK : va_K (dC, dI) vwCl [(cA2, .int)] s := hK
  have hJ9 := rgG1_69c5b20 hP hD
  clear hP hD; obtain ⟨hP, hD⟩ := hJ9
  refine W.widen (k := 1) (n := 12) (Nat.le_of_ble_eq_true rfl) (Nat.le_of_ble_eq_true rfl) ?_
  refine va_putF (D := (dC, dI)) (ci := 1) (v := .ref q1) (ty := .array .int) (C := RX2) (T := TX2) (N := 4) hx hb hts inlX2 tyX2 tyX2_ok nmX2 hown hK hP hD hS 0 rgL2_5ac5f51 rfl 0 (by decide) (hts (.fieldLink RX2 9 "ClosedUntil$Journal" "acts" "[I") qw_34) (fun _ h9 => h9) rfl hin rfl (by decide +kernel) rfl rfl (Nat.le_of_ble_eq_true rfl) dX2_init_9 (fun H locs hP9 hD9 hS9 => ?_)
  clear hP hD hS
  obtain ⟨hP, hD⟩ := rgS2_40109d0 (e := (a0, .inr (1, [.ref q1, .null, .null, .int 0]))) hP9 hD9 rfl
  have hS := hS9; clear hP9 hD9 hS9
  refine lv_aload_n hx hb dX2_init_12 rfl (lv_at hl 0 rfl) ?_
  refine lv_bipush (v := 12) hx hb dX2_init_13 (by decide) ?_
  refine va_newa (atype := .int) (ty := .int) (a0 := (12, .inl (fun _ => 0))) (N' := 12) hx hb (hts (.arrayClass .int) qw_54) rfl hK hP hD hS hA (fun _ => rfl) (by decide) (by decide) (Nat.le_of_ble_eq_true rfl) (Nat.le_of_ble_eq_true rfl) (Nat.le_of_ble_eq_true rfl) dX2_init_15 (fun q3 cA4 H hK hP hD hS => ?_)
  replace hK : va_K (dC, dI) vwCl [(cA2, .int), (cA4, .int)] s := hK
  have hJ9 := rgG2_ba1d474 hP hD
  clear hP hD; obtain ⟨hP, hD⟩ := hJ9
  refine W.widen (k := 2) (n := 24) (Nat.le_of_ble_eq_true rfl) (Nat.le_of_ble_eq_true rfl) ?_
  refine va_putF (D := (dC, dI)) (ci := 1) (v := .ref q3) (ty := .array .int) (C := RX2) (T := TX2) (N := 4) hx hb hts inlX2 tyX2 tyX2_ok nmX2 hown hK hP hD hS 0 rgL3_619f1f5 rfl 1 (by decide) (hts (.fieldLink RX2 15 "ClosedUntil$Journal" "whose" "[I") qw_35) (fun _ h9 => h9) rfl hin rfl (by decide +kernel) rfl rfl (Nat.le_of_ble_eq_true rfl) dX2_init_17 (fun H locs hP9 hD9 hS9 => ?_)
  clear hP hD hS
  obtain ⟨hP, hD⟩ := rgS3_dd231b9 (e := (a0, .inr (1, [.ref q1, .ref q3, .null, .int 0]))) hP9 hD9 rfl
  have hS := hS9; clear hP9 hD9 hS9
  refine lv_aload_n hx hb dX2_init_20 rfl (lv_at hl 0 rfl) ?_
  refine lv_bipush (v := 12) hx hb dX2_init_21 (by decide) ?_
  refine va_newa (atype := .int) (ty := .int) (a0 := (12, .inl (fun _ => 0))) (N' := 12) hx hb (hts (.arrayClass .int) qw_54) rfl hK hP hD hS hA (fun _ => rfl) (by decide) (by decide) (Nat.le_of_ble_eq_true rfl) (Nat.le_of_ble_eq_true rfl) (Nat.le_of_ble_eq_true rfl) dX2_init_23 (fun q5 cA6 H hK hP hD hS => ?_)
  replace hK : va_K (dC, dI) vwCl [(cA2, .int), (cA4, .int), (cA6, .int)] s := hK
  have hJ9 := rgG3_99a7846 hP hD
  clear hP hD; obtain ⟨hP, hD⟩ := hJ9
  refine W.widen (k := 3) (n := 36) (Nat.le_of_ble_eq_true rfl) (Nat.le_of_ble_eq_true rfl) ?_
  refine va_putF (D := (dC, dI)) (ci := 1) (v := .ref q5) (ty := .array .int) (C := RX2) (T := TX2) (N := 4) hx hb hts inlX2 tyX2 tyX2_ok nmX2 hown hK hP hD hS 0 rgL4_25bb07f rfl 2 (by decide) (hts (.fieldLink RX2 18 "ClosedUntil$Journal" "before" "[I") qw_36) (fun _ h9 => h9) rfl hin rfl (by decide +kernel) rfl rfl (Nat.le_of_ble_eq_true rfl) dX2_init_25 (fun H locs hP9 hD9 hS9 => ?_)
  clear hP hD hS
  obtain ⟨hP, hD⟩ := rgS4_3ebc7b6 (e := (a0, .inr (1, [.ref q1, .ref q3, .ref q5, .int 0]))) hP9 hD9 rfl
  have hS := hS9; clear hP9 hD9 hS9
  have hP9 := hP
  have hD9 := hD
  have hK9 := hK
  refine W.widen (k := 3) (n := 36) (Nat.le_of_ble_eq_true rfl) (Nat.le_of_ble_eq_true rfl) ?_
  exact W.vret hx hb hr (fun t ht hW => ⟨⟨(), rfl, trivial, q1, q3, q5, cA2, cA4, cA6, atB ht hP9, va_K.moved hW.alike hK9, hD9⟩, hS.F ht⟩) hS.2.2 dX2_init_28
set_option maxHeartbeats 4000000 in
set_option maxRecDepth 100000 in
theorem k_X1_init (l : Launch) (dC : Nat → ClassId) (dI : Nat → Nat → Nat) (g : Gv) (sz : Nat) (a0 : Nat)  : Met l yX1_init (.code yX1_init cX1_init 1 none :: TBL) ({ frames := 1, cells := 22, slots := 180, locals := 40 }) (va_Pc [.ref a0] (fun U => U.heap.size = sz ∧ va_P (dC, dI) vwCl [(a0, .inr (0, [.int 0, .null, .int 0, .null, .int 0, .null, .null, .null, .int 0, .null, .null, .null, .null, .null]))] U.heap ∧ va_K (dC, dI) vwCl [] U ∧ va_D (fun _ => True) [(a0, .inr (0, [.int 0, .null, .int 0, .null, .int 0, .null, .null, .null, .int 0, .null, .null, .null, .null, .null]))] ∧ Ev g (va_A [(a0, .inr (0, [.int 0, .null, .int 0, .null, .int 0, .null, .null, .null, .int 0, .null, .null, .null, .null, .null]))] sz) U)) (va_Qv (fun (_ : Unit) => True) (fun (_ : Unit) (t : State) => ∃ (za0_1 : Nat) (za0_3 : Nat) (za0_5 : Nat) (za0_6 : Nat) (za0_7 : Nat) (za0_9 : Nat) (za0_10 : Nat) (za0_11 : Nat) (za0_12 : Nat) (za0_13 : Nat) (za0_1_c : ClassId) (za0_3_c : ClassId) (za0_5_c : ClassId) (za0_6_c : ClassId) (za0_7_c : ClassId) (za0_9_c : ClassId) (za0_10_c : ClassId) (za0_11_c : ClassId) (za0_12_c : ClassId) (za0_12_f : Nat → Option Nat) (za0_13_c : ClassId) (zrows : va_W), GR g.2.2.2.2.1 3 12 za0_12_f zrows ∧ va_P (dC, dI) vwCl (([(a0, .inr (0, [.int 0, .ref za0_1, .int 0, .ref za0_3, .int 0, .ref za0_5, .ref za0_6, .ref za0_7, .int 0, .ref za0_9, .ref za0_10, .ref za0_11, .ref za0_12, .ref za0_13])), (za0_1, .inl (za0_1_c, 8, .inl (fun _ => 0))), (za0_3, .inl (za0_3_c, 4, .inl (fun _ => 0))), (za0_5, .inl (za0_5_c, 24, .inl (fun _ => 0))), (za0_6, .inl (za0_6_c, 24, .inl (fun _ => 0))), (za0_7, .inl (za0_7_c, 24, .inl (fun _ => 0))), (za0_9, .inl (za0_9_c, 12, .inl (fun _ => 0))), (za0_10, .inl (za0_10_c, 12, .inl (fun _ => 0))), (za0_11, .inl (za0_11_c, 12, .inl (fun _ => 0))), (za0_12, .inl (za0_12_c, 12, .inr (.inr (.inr (.inr za0_12_f))))), (za0_13, .inl (za0_13_c, 12, .inl (fun _ => 0)))] : va_W) ++ zrows) t.heap ∧ va_K (dC, dI) vwCl [(za0_1_c, .int), (za0_3_c, .int), (za0_5_c, .int), (za0_6_c, .int), (za0_7_c, .int), (za0_9_c, .int), (za0_10_c, .int), (za0_11_c, .boolean), (za0_12_c, .array .int), (za0_13_c, .int)] t ∧ va_D (va_A [(a0, .inr (0, [.int 0, .null, .int 0, .null, .int 0, .null, .null, .null, .int 0, .null, .null, .null, .null, .null]))] sz) (([(a0, .inr (0, [.int 0, .ref za0_1, .int 0, .ref za0_3, .int 0, .ref za0_5, .ref za0_6, .ref za0_7, .int 0, .ref za0_9, .ref za0_10, .ref za0_11, .ref za0_12, .ref za0_13])), (za0_1, .inl (za0_1_c, 8, .inl (fun _ => 0))), (za0_3, .inl (za0_3_c, 4, .inl (fun _ => 0))), (za0_5, .inl (za0_5_c, 24, .inl (fun _ => 0))), (za0_6, .inl (za0_6_c, 24, .inl (fun _ => 0))), (za0_7, .inl (za0_7_c, 24, .inl (fun _ => 0))), (za0_9, .inl (za0_9_c, 12, .inl (fun _ => 0))), (za0_10, .inl (za0_10_c, 12, .inl (fun _ => 0))), (za0_11, .inl (za0_11_c, 12, .inl (fun _ => 0))), (za0_12, .inl (za0_12_c, 12, .inr (.inr (.inr (.inr za0_12_f))))), (za0_13, .inl (za0_13_c, 12, .inl (fun _ => 0)))] : va_W) ++ zrows)) (va_A [(a0, .inr (0, [.int 0, .null, .int 0, .null, .int 0, .null, .null, .null, .int 0, .null, .null, .null, .null, .null]))] sz)) 22 180 (va_A [(a0, .inr (0, [.int 0, .null, .int 0, .null, .int 0, .null, .null, .null, .int 0, .null, .null, .null, .null, .null]))] sz) := by
  refine Met.ofW (cc := cX1_init) (maxL := 1) (ret := none) (by decide) rfl ?_
  intro p e s m args below meth c s₁ B hml hv
  obtain ⟨rfl, hsz, hP, hK, hD0, hE⟩ := hv
  have hx := B.exec
  have hb := B.bytes
  have hr := B.returns
  have hts0 := atoms_spec (ws := (.code yX1_init cX1_init 1 none :: TBL)) B.pre
  have hts := fun (w : Cond) (h : w ∈ TBL) => hts0 w (List.mem_cons_of_mem _ h)
  have hown : s.vm.findClass RX1 = some m.cls := findClass_of_methodNamed B.named
  have hlocks := B.notSynchronized
  have hN := hE.1
  have hin : meth.name = "<init>" := (name_of_methodNamed B.named B.method).1
  subst hsz
  have hD := hD0.self (sz := s.heap.size)
  generalize hAe : va_A [(a0, .inr (0, [.int 0, .null, .int 0, .null, .int 0, .null, .null, .null, .int 0, .null, .null, .null, .null, .null]))] s.heap.size = A at hD hE ⊢
  have hA : ∀ q : Nat, s.heap.size ≤ q → A q := fun q h => by rw [← hAe]; exact Or.inr h
  have hS : va_S A s.heap s.heap [] := va_S.rf
  replace hP : va_P (dC, dI) vwCl [(a0, .inr (0, [.int 0, .null, .int 0, .null, .int 0, .null, .null, .null, .int 0, .null, .null, .null, .null, .null]))] s.heap := hP
  have hl := lv_entry ([.ref a0]) (n := 1) (Nat.le_of_ble_eq_true rfl)
  rw [lg_entry_eq]
  generalize (lg_sl ([.ref a0]) ++ List.replicate (1 - (lg_sl ([.ref a0])).length) Slot.unset).toArray = ls at hl ⊢
  have hl : lv_has ls 1 [(0, .ref a0)] := hl
  refine lv_aload_n hx hb dX1_init_0 rfl (lv_at hl 0 rfl) ?_
  refine W.objInit hx hb hown (hts (.methodLink RX1 3 objectInit) qw_673) (hts (.instanceMethod objectInit) qw_669) (hts (.code objectInit ⟨#[0xb1]⟩ 1 none) qw_670) rfl (by rw [hml]; exact hl.1) rfl dX1_init_1 (Nat.le_of_ble_eq_true rfl) (Nat.le_of_ble_eq_true rfl) ?_
  refine W.eq (g2 := F0 m 4 ls []) rfl ?_
  refine lv_aload_n hx hb dX1_init_4 rfl (lv_at hl 0 rfl) ?_
  refine lv_bipush (v := 8) hx hb dX1_init_5 (by decide) ?_
  refine va_newa (atype := .int) (ty := .int) (a0 := (8, .inl (fun _ => 0))) (N' := 8) hx hb (hts (.arrayClass .int) qw_54) rfl hK hP hD hS hA (fun _ => rfl) (by decide) (by decide) (Nat.le_of_ble_eq_true rfl) (Nat.le_of_ble_eq_true rfl) (Nat.le_of_ble_eq_true rfl) dX1_init_7 (fun q1 cA2 H hK hP hD hS => ?_)
  replace hK : va_K (dC, dI) vwCl [(cA2, .int)] s := hK
  have hJ9 := rgG1_69c5b20 hP hD
  clear hP hD; obtain ⟨hP, hD⟩ := hJ9
  refine W.widen (k := 1) (n := 8) (Nat.le_of_ble_eq_true rfl) (Nat.le_of_ble_eq_true rfl) ?_
  refine va_putF (D := (dC, dI)) (ci := 0) (v := .ref q1) (ty := .array .int) (C := RX1) (T := TX1) (N := 14) hx hb hts inlX1 tyX1 tyX1_ok nmX1 hown hK hP hD hS 0 rgL2_5ac5f51 rfl 1 (by decide) (hts (.fieldLink RX1 9 "ClosedUntil$Holdings" "birth" "[I") qw_674) (fun _ h9 => h9) rfl hin rfl (by decide +kernel) rfl rfl (Nat.le_of_ble_eq_true rfl) dX1_init_9 (fun H locs hP9 hD9 hS9 => ?_)
  clear hP hD hS
  obtain ⟨hP, hD⟩ := rgS2_40109d0 (e := (a0, .inr (0, [.int 0, .ref q1, .int 0, .null, .int 0, .null, .null, .null, .int 0, .null, .null, .null, .null, .null]))) hP9 hD9 rfl
  have hS := hS9; clear hP9 hD9 hS9
  refine lv_aload_n hx hb dX1_init_12 rfl (lv_at hl 0 rfl) ?_
  refine lv_iconst (v := 4) hx hb dX1_init_13 (by decide) ?_
  refine va_newa (atype := .int) (ty := .int) (a0 := (4, .inl (fun _ => 0))) (N' := 4) hx hb (hts (.arrayClass .int) qw_54) rfl hK hP hD hS hA (fun _ => rfl) (by decide) (by decide) (Nat.le_of_ble_eq_true rfl) (Nat.le_of_ble_eq_true rfl) (Nat.le_of_ble_eq_true rfl) dX1_init_14 (fun q3 cA4 H hK hP hD hS => ?_)
  replace hK : va_K (dC, dI) vwCl [(cA2, .int), (cA4, .int)] s := hK
  have hJ9 := rgG2_ba1d474 hP hD
  clear hP hD; obtain ⟨hP, hD⟩ := hJ9
  refine W.widen (k := 2) (n := 12) (Nat.le_of_ble_eq_true rfl) (Nat.le_of_ble_eq_true rfl) ?_
  refine va_putF (D := (dC, dI)) (ci := 0) (v := .ref q3) (ty := .array .int) (C := RX1) (T := TX1) (N := 14) hx hb hts inlX1 tyX1 tyX1_ok nmX1 hown hK hP hD hS 0 rgL3_619f1f5 rfl 3 (by decide) (hts (.fieldLink RX1 15 "ClosedUntil$Holdings" "depositDay" "[I") qw_675) (fun _ h9 => h9) rfl hin rfl (by decide +kernel) rfl rfl (Nat.le_of_ble_eq_true rfl) dX1_init_16 (fun H locs hP9 hD9 hS9 => ?_)
  clear hP hD hS
  obtain ⟨hP, hD⟩ := rgS3_dd231b9 (e := (a0, .inr (0, [.int 0, .ref q1, .int 0, .ref q3, .int 0, .null, .null, .null, .int 0, .null, .null, .null, .null, .null]))) hP9 hD9 rfl
  have hS := hS9; clear hP9 hD9 hS9
  refine lv_aload_n hx hb dX1_init_19 rfl (lv_at hl 0 rfl) ?_
  refine lv_bipush (v := 24) hx hb dX1_init_20 (by decide) ?_
  refine va_newa (atype := .int) (ty := .int) (a0 := (24, .inl (fun _ => 0))) (N' := 24) hx hb (hts (.arrayClass .int) qw_54) rfl hK hP hD hS hA (fun _ => rfl) (by decide) (by decide) (Nat.le_of_ble_eq_true rfl) (Nat.le_of_ble_eq_true rfl) (Nat.le_of_ble_eq_true rfl) dX1_init_22 (fun q5 cA6 H hK hP hD hS => ?_)
  replace hK : va_K (dC, dI) vwCl [(cA2, .int), (cA4, .int), (cA6, .int)] s := hK
  have hJ9 := rgG3_99a7846 hP hD
  clear hP hD; obtain ⟨hP, hD⟩ := hJ9
  refine W.widen (k := 3) (n := 36) (Nat.le_of_ble_eq_true rfl) (Nat.le_of_ble_eq_true rfl) ?_
  refine va_putF (D := (dC, dI)) (ci := 0) (v := .ref q5) (ty := .array .int) (C := RX1) (T := TX1) (N := 14) hx hb hts inlX1 tyX1 tyX1_ok nmX1 hown hK hP hD hS 0 rgL4_25bb07f rfl 5 (by decide) (hts (.fieldLink RX1 18 "ClosedUntil$Holdings" "lastDay" "[I") qw_676) (fun _ h9 => h9) rfl hin rfl (by decide +kernel) rfl rfl (Nat.le_of_ble_eq_true rfl) dX1_init_24 (fun H locs hP9 hD9 hS9 => ?_)
  clear hP hD hS
  obtain ⟨hP, hD⟩ := rgS4_3ebc7b6 (e := (a0, .inr (0, [.int 0, .ref q1, .int 0, .ref q3, .int 0, .ref q5, .null, .null, .int 0, .null, .null, .null, .null, .null]))) hP9 hD9 rfl
  have hS := hS9; clear hP9 hD9 hS9
  refine lv_aload_n hx hb dX1_init_27 rfl (lv_at hl 0 rfl) ?_
  refine lv_bipush (v := 24) hx hb dX1_init_28 (by decide) ?_
  refine va_newa (atype := .int) (ty := .int) (a0 := (24, .inl (fun _ => 0))) (N' := 24) hx hb (hts (.arrayClass .int) qw_54) rfl hK hP hD hS hA (fun _ => rfl) (by decide) (by decide) (Nat.le_of_ble_eq_true rfl) (Nat.le_of_ble_eq_true rfl) (Nat.le_of_ble_eq_true rfl) dX1_init_30 (fun q7 cA8 H hK hP hD hS => ?_)
  replace hK : va_K (dC, dI) vwCl [(cA2, .int), (cA4, .int), (cA6, .int), (cA8, .int)] s := hK
  have hJ9 := rgG4_09643f2 hP hD
  clear hP hD; obtain ⟨hP, hD⟩ := hJ9
  refine W.widen (k := 4) (n := 60) (Nat.le_of_ble_eq_true rfl) (Nat.le_of_ble_eq_true rfl) ?_
  refine va_putF (D := (dC, dI)) (ci := 0) (v := .ref q7) (ty := .array .int) (C := RX1) (T := TX1) (N := 14) hx hb hts inlX1 tyX1 tyX1_ok nmX1 hown hK hP hD hS 0 rgL5_a6879b9 rfl 6 (by decide) (hts (.fieldLink RX1 21 "ClosedUntil$Holdings" "peopleOf" "[I") qw_26) (fun _ h9 => h9) rfl hin rfl (by decide +kernel) rfl rfl (Nat.le_of_ble_eq_true rfl) dX1_init_32 (fun H locs hP9 hD9 hS9 => ?_)
  clear hP hD hS
  obtain ⟨hP, hD⟩ := rgS5_283d4d4 (e := (a0, .inr (0, [.int 0, .ref q1, .int 0, .ref q3, .int 0, .ref q5, .ref q7, .null, .int 0, .null, .null, .null, .null, .null]))) hP9 hD9 rfl
  have hS := hS9; clear hP9 hD9 hS9
  refine lv_aload_n hx hb dX1_init_35 rfl (lv_at hl 0 rfl) ?_
  refine lv_bipush (v := 24) hx hb dX1_init_36 (by decide) ?_
  refine va_newa (atype := .int) (ty := .int) (a0 := (24, .inl (fun _ => 0))) (N' := 24) hx hb (hts (.arrayClass .int) qw_54) rfl hK hP hD hS hA (fun _ => rfl) (by decide) (by decide) (Nat.le_of_ble_eq_true rfl) (Nat.le_of_ble_eq_true rfl) (Nat.le_of_ble_eq_true rfl) dX1_init_38 (fun q9 cA10 H hK hP hD hS => ?_)
  replace hK : va_K (dC, dI) vwCl [(cA2, .int), (cA4, .int), (cA6, .int), (cA8, .int), (cA10, .int)] s := hK
  have hJ9 := rgG5_26d9b8b hP hD
  clear hP hD; obtain ⟨hP, hD⟩ := hJ9
  refine W.widen (k := 5) (n := 84) (Nat.le_of_ble_eq_true rfl) (Nat.le_of_ble_eq_true rfl) ?_
  refine va_putF (D := (dC, dI)) (ci := 0) (v := .ref q9) (ty := .array .int) (C := RX1) (T := TX1) (N := 14) hx hb hts inlX1 tyX1 tyX1_ok nmX1 hown hK hP hD hS 0 rgL6_3f800dd rfl 7 (by decide) (hts (.fieldLink RX1 24 "ClosedUntil$Holdings" "depositOf" "[I") qw_32) (fun _ h9 => h9) rfl hin rfl (by decide +kernel) rfl rfl (Nat.le_of_ble_eq_true rfl) dX1_init_40 (fun H locs hP9 hD9 hS9 => ?_)
  clear hP hD hS
  obtain ⟨hP, hD⟩ := rgS6_fcbeb75 (e := (a0, .inr (0, [.int 0, .ref q1, .int 0, .ref q3, .int 0, .ref q5, .ref q7, .ref q9, .int 0, .null, .null, .null, .null, .null]))) hP9 hD9 rfl
  have hS := hS9; clear hP9 hD9 hS9
  refine lv_aload_n hx hb dX1_init_43 rfl (lv_at hl 0 rfl) ?_
  refine lv_bipush (v := 12) hx hb dX1_init_44 (by decide) ?_
  refine va_newa (atype := .int) (ty := .int) (a0 := (12, .inl (fun _ => 0))) (N' := 12) hx hb (hts (.arrayClass .int) qw_54) rfl hK hP hD hS hA (fun _ => rfl) (by decide) (by decide) (Nat.le_of_ble_eq_true rfl) (Nat.le_of_ble_eq_true rfl) (Nat.le_of_ble_eq_true rfl) dX1_init_46 (fun q11 cA12 H hK hP hD hS => ?_)
  replace hK : va_K (dC, dI) vwCl [(cA2, .int), (cA4, .int), (cA6, .int), (cA8, .int), (cA10, .int), (cA12, .int)] s := hK
  have hJ9 := rgG6_1af900c hP hD
  clear hP hD; obtain ⟨hP, hD⟩ := hJ9
  refine W.widen (k := 6) (n := 96) (Nat.le_of_ble_eq_true rfl) (Nat.le_of_ble_eq_true rfl) ?_
  refine va_putF (D := (dC, dI)) (ci := 0) (v := .ref q11) (ty := .array .int) (C := RX1) (T := TX1) (N := 14) hx hb hts inlX1 tyX1 tyX1_ok nmX1 hown hK hP hD hS 0 rgL7_2e0bc46 rfl 9 (by decide) (hts (.fieldLink RX1 27 "ClosedUntil$Holdings" "sort" "[I") qw_31) (fun _ h9 => h9) rfl hin rfl (by decide +kernel) rfl rfl (Nat.le_of_ble_eq_true rfl) dX1_init_48 (fun H locs hP9 hD9 hS9 => ?_)
  clear hP hD hS
  obtain ⟨hP, hD⟩ := rgS7_f509211 (e := (a0, .inr (0, [.int 0, .ref q1, .int 0, .ref q3, .int 0, .ref q5, .ref q7, .ref q9, .int 0, .ref q11, .null, .null, .null, .null]))) hP9 hD9 rfl
  have hS := hS9; clear hP9 hD9 hS9
  refine lv_aload_n hx hb dX1_init_51 rfl (lv_at hl 0 rfl) ?_
  refine lv_bipush (v := 12) hx hb dX1_init_52 (by decide) ?_
  refine va_newa (atype := .int) (ty := .int) (a0 := (12, .inl (fun _ => 0))) (N' := 12) hx hb (hts (.arrayClass .int) qw_54) rfl hK hP hD hS hA (fun _ => rfl) (by decide) (by decide) (Nat.le_of_ble_eq_true rfl) (Nat.le_of_ble_eq_true rfl) (Nat.le_of_ble_eq_true rfl) dX1_init_54 (fun q13 cA14 H hK hP hD hS => ?_)
  replace hK : va_K (dC, dI) vwCl [(cA2, .int), (cA4, .int), (cA6, .int), (cA8, .int), (cA10, .int), (cA12, .int), (cA14, .int)] s := hK
  have hJ9 := rgG7_2566b23 hP hD
  clear hP hD; obtain ⟨hP, hD⟩ := hJ9
  refine W.widen (k := 7) (n := 108) (Nat.le_of_ble_eq_true rfl) (Nat.le_of_ble_eq_true rfl) ?_
  refine va_putF (D := (dC, dI)) (ci := 0) (v := .ref q13) (ty := .array .int) (C := RX1) (T := TX1) (N := 14) hx hb hts inlX1 tyX1 tyX1_ok nmX1 hown hK hP hD hS 0 rgL8_41f41bf rfl 10 (by decide) (hts (.fieldLink RX1 30 "ClosedUntil$Holdings" "subject" "[I") qw_30) (fun _ h9 => h9) rfl hin rfl (by decide +kernel) rfl rfl (Nat.le_of_ble_eq_true rfl) dX1_init_56 (fun H locs hP9 hD9 hS9 => ?_)
  clear hP hD hS
  obtain ⟨hP, hD⟩ := rgS8_9a11695 (e := (a0, .inr (0, [.int 0, .ref q1, .int 0, .ref q3, .int 0, .ref q5, .ref q7, .ref q9, .int 0, .ref q11, .ref q13, .null, .null, .null]))) hP9 hD9 rfl
  have hS := hS9; clear hP9 hD9 hS9
  refine lv_aload_n hx hb dX1_init_59 rfl (lv_at hl 0 rfl) ?_
  refine lv_bipush (v := 12) hx hb dX1_init_60 (by decide) ?_
  refine va_newa (atype := .boolean) (ty := .boolean) (a0 := (12, .inl (fun _ => 0))) (N' := 12) hx hb (hts (.arrayClass .boolean) qw_677) rfl hK hP hD hS hA (fun _ => rfl) (by decide) (by decide) (Nat.le_of_ble_eq_true rfl) (Nat.le_of_ble_eq_true rfl) (Nat.le_of_ble_eq_true rfl) dX1_init_62 (fun q15 cA16 H hK hP hD hS => ?_)
  replace hK : va_K (dC, dI) vwCl [(cA2, .int), (cA4, .int), (cA6, .int), (cA8, .int), (cA10, .int), (cA12, .int), (cA14, .int), (cA16, .boolean)] s := hK
  have hJ9 := rgG8_05fee0d hP hD
  clear hP hD; obtain ⟨hP, hD⟩ := hJ9
  refine W.widen (k := 8) (n := 120) (Nat.le_of_ble_eq_true rfl) (Nat.le_of_ble_eq_true rfl) ?_
  refine va_putF (D := (dC, dI)) (ci := 0) (v := .ref q15) (ty := .array .boolean) (C := RX1) (T := TX1) (N := 14) hx hb hts inlX1 tyX1 tyX1_ok nmX1 hown hK hP hD hS 0 rgL9_97de23c rfl 11 (by decide) (hts (.fieldLink RX1 33 "ClosedUntil$Holdings" "whole" "[Z") qw_678) (fun _ h9 => h9) rfl hin rfl (by decide +kernel) rfl rfl (Nat.le_of_ble_eq_true rfl) dX1_init_64 (fun H locs hP9 hD9 hS9 => ?_)
  clear hP hD hS
  obtain ⟨hP, hD⟩ := rgS9_7696288 (e := (a0, .inr (0, [.int 0, .ref q1, .int 0, .ref q3, .int 0, .ref q5, .ref q7, .ref q9, .int 0, .ref q11, .ref q13, .ref q15, .null, .null]))) hP9 hD9 rfl
  have hS := hS9; clear hP9 hD9 hS9
  refine lv_aload_n hx hb dX1_init_67 rfl (lv_at hl 0 rfl) ?_
  refine lv_bipush (v := 12) hx hb dX1_init_68 (by decide) ?_
  refine lv_iconst (v := 3) hx hb dX1_init_70 (by decide) ?_
  refine mna (cy := g.2.2.2.2.1) (N' := 12) (K' := 3) hx hb hown (hts (.classLink RX1 37 "[[I") qw_679) hE.2.2.2.2.2.2.2.2.2.2.1 (hts (.arrayClass .int) qw_54) hE.2.2.2.2.2.2.2.2.2.2.2.2.1 hK hP hD hS hA (by decide) (by decide) (by decide) (by decide) (Nat.le_of_ble_eq_true rfl) (Nat.le_of_ble_eq_true rfl) (Nat.le_of_ble_eq_true rfl) (Nat.le_of_ble_eq_true rfl) dX1_init_71 (fun q17 gf18 rw19 cA20 H hro21 hgr22 hK hP hD hS => ?_)
  replace hK : va_K (dC, dI) vwCl [(cA2, .int), (cA4, .int), (cA6, .int), (cA8, .int), (cA10, .int), (cA12, .int), (cA14, .int), (cA16, .boolean), (cA20, .array .int)] s := hK
  have hJ9 := rgG9_f24b47d hP hD
  clear hP hD; obtain ⟨hP, hD⟩ := hJ9
  refine W.widen (k := 21) (n := 168) (Nat.le_of_ble_eq_true rfl) (Nat.le_of_ble_eq_true rfl) ?_
  refine va_putF (D := (dC, dI)) (ci := 0) (v := .ref q17) (ty := .array (.array .int)) (C := RX1) (T := TX1) (N := 14) hx hb hts inlX1 tyX1 tyX1_ok nmX1 hown hK hP hD hS 0 rgL10_ed6c27a rfl 12 (by decide) (hts (.fieldLink RX1 39 "ClosedUntil$Holdings" "years" "[[I") qw_680) (fun _ h9 => h9) rfl hin rfl (by decide +kernel) rfl rfl (Nat.le_of_ble_eq_true rfl) dX1_init_75 (fun H locs hP9 hD9 hS9 => ?_)
  clear hP hD hS
  obtain ⟨hP, hD⟩ := rgS10_69bbca1 (e := (a0, .inr (0, [.int 0, .ref q1, .int 0, .ref q3, .int 0, .ref q5, .ref q7, .ref q9, .int 0, .ref q11, .ref q13, .ref q15, .ref q17, .null]))) hP9 hD9 rfl
  have hS := hS9; clear hP9 hD9 hS9
  refine lv_aload_n hx hb dX1_init_78 rfl (lv_at hl 0 rfl) ?_
  refine lv_bipush (v := 12) hx hb dX1_init_79 (by decide) ?_
  refine va_newa (atype := .int) (ty := .int) (a0 := (12, .inl (fun _ => 0))) (N' := 12) hx hb (hts (.arrayClass .int) qw_54) rfl hK hP hD hS hA (fun _ => rfl) (by decide) (by decide) (Nat.le_of_ble_eq_true rfl) (Nat.le_of_ble_eq_true rfl) (Nat.le_of_ble_eq_true rfl) dX1_init_81 (fun q23 cA24 H hK hP hD hS => ?_)
  have hP := va_P.swap hP
  have hD := va_D.swap hD
  replace hK : va_K (dC, dI) vwCl [(cA2, .int), (cA4, .int), (cA6, .int), (cA8, .int), (cA10, .int), (cA12, .int), (cA14, .int), (cA16, .boolean), (cA20, .array .int), (cA24, .int)] s := hK
  have hJ9 := rgG10_7d37990 hP hD
  clear hP hD; obtain ⟨hP, hD⟩ := hJ9
  refine W.widen (k := 22) (n := 180) (Nat.le_of_ble_eq_true rfl) (Nat.le_of_ble_eq_true rfl) ?_
  refine va_putF (D := (dC, dI)) (ci := 0) (v := .ref q23) (ty := .array .int) (C := RX1) (T := TX1) (N := 14) hx hb hts inlX1 tyX1 tyX1_ok nmX1 hown hK hP hD hS 0 rgL11_b27e9f1 rfl 13 (by decide) (hts (.fieldLink RX1 42 "ClosedUntil$Holdings" "untilDay" "[I") qw_681) (fun _ h9 => h9) rfl hin rfl (by decide +kernel) rfl rfl (Nat.le_of_ble_eq_true rfl) dX1_init_83 (fun H locs hP9 hD9 hS9 => ?_)
  clear hP hD hS
  obtain ⟨hP, hD⟩ := rgS11_4660afc (e := (a0, .inr (0, [.int 0, .ref q1, .int 0, .ref q3, .int 0, .ref q5, .ref q7, .ref q9, .int 0, .ref q11, .ref q13, .ref q15, .ref q17, .ref q23]))) hP9 hD9 rfl
  have hS := hS9; clear hP9 hD9 hS9
  have hP9 := hP
  have hD9 := hD
  have hK9 := hK
  refine W.widen (k := 22) (n := 180) (Nat.le_of_ble_eq_true rfl) (Nat.le_of_ble_eq_true rfl) ?_
  exact W.vret hx hb hr (fun t ht hW => ⟨⟨(), rfl, trivial, q1, q3, q5, q7, q9, q11, q13, q15, q17, q23, cA2, cA4, cA6, cA8, cA10, cA12, cA14, cA16, cA20, gf18, cA24, rw19, (GR.of hro21 hgr22), atB ht hP9, va_K.moved hW.alike hK9, hD9⟩, hS.F ht⟩) hS.2.2 dX1_init_86
set_option maxHeartbeats 4000000 in
set_option maxRecDepth 100000 in
theorem k_X6_init (l : Launch) (dC : Nat → ClassId) (dI : Nat → Nat → Nat) (g : Gv) (sz : Nat) (a0 : Nat)  : Met l yX6_init (.code yX6_init cX6_init 1 none :: TBL) ({ frames := 1, cells := 30, slots := 696, locals := 40 }) (va_Pc [.ref a0] (fun U => U.heap.size = sz ∧ va_P (dC, dI) vwCl [(a0, .inr (5, [.null, .null, .null, .null, .null, .null, .int 0, .int 0]))] U.heap ∧ va_K (dC, dI) vwCl [] U ∧ va_D (fun _ => True) [(a0, .inr (5, [.null, .null, .null, .null, .null, .null, .int 0, .int 0]))] ∧ Ev g (va_A [(a0, .inr (5, [.null, .null, .null, .null, .null, .null, .int 0, .int 0]))] sz) U)) (va_Qv (fun (_ : Unit) => True) (fun (_ : Unit) (t : State) => ∃ (za0_0 : Nat) (za0_1 : Nat) (za0_2 : Nat) (za0_3 : Nat) (za0_4 : Nat) (za0_5 : Nat) (za0_0_c : ClassId) (za0_1_c : ClassId) (za0_2_c : ClassId) (za0_2_f : Nat → Option Nat) (za0_3_c : ClassId) (za0_3_f : Nat → Option Nat) (za0_4_c : ClassId) (za0_5_c : ClassId) (zrows : va_W), GR g.2.2.2.2.1 24 12 za0_2_f zrows ∧ GR g.2.2.2.2.1 24 12 za0_3_f zrows ∧ va_P (dC, dI) vwCl (([(a0, .inr (5, [.ref za0_0, .ref za0_1, .ref za0_2, .ref za0_3, .ref za0_4, .ref za0_5, .int 0, .int 0])), (za0_0, .inl (za0_0_c, 24, .inl (fun _ => 0))), (za0_1, .inl (za0_1_c, 24, .inl (fun _ => 0))), (za0_2, .inl (za0_2_c, 12, .inr (.inr (.inr (.inr za0_2_f))))), (za0_3, .inl (za0_3_c, 12, .inr (.inr (.inr (.inr za0_3_f))))), (za0_4, .inl (za0_4_c, 24, .inl (fun _ => 0))), (za0_5, .inl (za0_5_c, 24, .inl (fun _ => 0)))] : va_W) ++ zrows) t.heap ∧ va_K (dC, dI) vwCl [(za0_0_c, .int), (za0_1_c, .int), (za0_2_c, .array .int), (za0_3_c, .array .int), (za0_4_c, .int), (za0_5_c, .int)] t ∧ va_D (va_A [(a0, .inr (5, [.null, .null, .null, .null, .null, .null, .int 0, .int 0]))] sz) (([(a0, .inr (5, [.ref za0_0, .ref za0_1, .ref za0_2, .ref za0_3, .ref za0_4, .ref za0_5, .int 0, .int 0])), (za0_0, .inl (za0_0_c, 24, .inl (fun _ => 0))), (za0_1, .inl (za0_1_c, 24, .inl (fun _ => 0))), (za0_2, .inl (za0_2_c, 12, .inr (.inr (.inr (.inr za0_2_f))))), (za0_3, .inl (za0_3_c, 12, .inr (.inr (.inr (.inr za0_3_f))))), (za0_4, .inl (za0_4_c, 24, .inl (fun _ => 0))), (za0_5, .inl (za0_5_c, 24, .inl (fun _ => 0)))] : va_W) ++ zrows)) (va_A [(a0, .inr (5, [.null, .null, .null, .null, .null, .null, .int 0, .int 0]))] sz)) 30 696 (va_A [(a0, .inr (5, [.null, .null, .null, .null, .null, .null, .int 0, .int 0]))] sz) := by
  refine Met.ofW (cc := cX6_init) (maxL := 1) (ret := none) (by decide) rfl ?_
  intro p e s m args below meth c s₁ B hml hv
  obtain ⟨rfl, hsz, hP, hK, hD0, hE⟩ := hv
  have hx := B.exec
  have hb := B.bytes
  have hr := B.returns
  have hts0 := atoms_spec (ws := (.code yX6_init cX6_init 1 none :: TBL)) B.pre
  have hts := fun (w : Cond) (h : w ∈ TBL) => hts0 w (List.mem_cons_of_mem _ h)
  have hown : s.vm.findClass RX6 = some m.cls := findClass_of_methodNamed B.named
  have hlocks := B.notSynchronized
  have hN := hE.1
  have hin : meth.name = "<init>" := (name_of_methodNamed B.named B.method).1
  subst hsz
  have hD := hD0.self (sz := s.heap.size)
  generalize hAe : va_A [(a0, .inr (5, [.null, .null, .null, .null, .null, .null, .int 0, .int 0]))] s.heap.size = A at hD hE ⊢
  have hA : ∀ q : Nat, s.heap.size ≤ q → A q := fun q h => by rw [← hAe]; exact Or.inr h
  have hS : va_S A s.heap s.heap [] := va_S.rf
  replace hP : va_P (dC, dI) vwCl [(a0, .inr (5, [.null, .null, .null, .null, .null, .null, .int 0, .int 0]))] s.heap := hP
  have hl := lv_entry ([.ref a0]) (n := 1) (Nat.le_of_ble_eq_true rfl)
  rw [lg_entry_eq]
  generalize (lg_sl ([.ref a0]) ++ List.replicate (1 - (lg_sl ([.ref a0])).length) Slot.unset).toArray = ls at hl ⊢
  have hl : lv_has ls 1 [(0, .ref a0)] := hl
  refine lv_aload_n hx hb dX6_init_0 rfl (lv_at hl 0 rfl) ?_
  refine W.objInit hx hb hown (hts (.methodLink RX6 3 objectInit) qw_682) (hts (.instanceMethod objectInit) qw_669) (hts (.code objectInit ⟨#[0xb1]⟩ 1 none) qw_670) rfl (by rw [hml]; exact hl.1) rfl dX6_init_1 (Nat.le_of_ble_eq_true rfl) (Nat.le_of_ble_eq_true rfl) ?_
  refine W.eq (g2 := F0 m 4 ls []) rfl ?_
  refine lv_aload_n hx hb dX6_init_4 rfl (lv_at hl 0 rfl) ?_
  refine lv_bipush (v := 24) hx hb dX6_init_5 (by decide) ?_
  refine va_newa (atype := .int) (ty := .int) (a0 := (24, .inl (fun _ => 0))) (N' := 24) hx hb (hts (.arrayClass .int) qw_54) rfl hK hP hD hS hA (fun _ => rfl) (by decide) (by decide) (Nat.le_of_ble_eq_true rfl) (Nat.le_of_ble_eq_true rfl) (Nat.le_of_ble_eq_true rfl) dX6_init_7 (fun q1 cA2 H hK hP hD hS => ?_)
  replace hK : va_K (dC, dI) vwCl [(cA2, .int)] s := hK
  have hJ9 := rgG1_69c5b20 hP hD
  clear hP hD; obtain ⟨hP, hD⟩ := hJ9
  refine W.widen (k := 1) (n := 24) (Nat.le_of_ble_eq_true rfl) (Nat.le_of_ble_eq_true rfl) ?_
  refine va_putF (D := (dC, dI)) (ci := 5) (v := .ref q1) (ty := .array .int) (C := RX6) (T := TX6) (N := 8) hx hb hts inlX6 tyX6 tyX6_ok nmX6 hown hK hP hD hS 0 rgL2_5ac5f51 rfl 0 (by decide) (hts (.fieldLink RX6 9 "ClosedUntil$Timetable" "below" "[I") qw_126) (fun _ h9 => h9) rfl hin rfl (by decide +kernel) rfl rfl (Nat.le_of_ble_eq_true rfl) dX6_init_9 (fun H locs hP9 hD9 hS9 => ?_)
  clear hP hD hS
  obtain ⟨hP, hD⟩ := rgS2_40109d0 (e := (a0, .inr (5, [.ref q1, .null, .null, .null, .null, .null, .int 0, .int 0]))) hP9 hD9 rfl
  have hS := hS9; clear hP9 hD9 hS9
  refine lv_aload_n hx hb dX6_init_12 rfl (lv_at hl 0 rfl) ?_
  refine lv_bipush (v := 24) hx hb dX6_init_13 (by decide) ?_
  refine va_newa (atype := .int) (ty := .int) (a0 := (24, .inl (fun _ => 0))) (N' := 24) hx hb (hts (.arrayClass .int) qw_54) rfl hK hP hD hS hA (fun _ => rfl) (by decide) (by decide) (Nat.le_of_ble_eq_true rfl) (Nat.le_of_ble_eq_true rfl) (Nat.le_of_ble_eq_true rfl) dX6_init_15 (fun q3 cA4 H hK hP hD hS => ?_)
  replace hK : va_K (dC, dI) vwCl [(cA2, .int), (cA4, .int)] s := hK
  have hJ9 := rgG2_ba1d474 hP hD
  clear hP hD; obtain ⟨hP, hD⟩ := hJ9
  refine W.widen (k := 2) (n := 48) (Nat.le_of_ble_eq_true rfl) (Nat.le_of_ble_eq_true rfl) ?_
  refine va_putF (D := (dC, dI)) (ci := 5) (v := .ref q3) (ty := .array .int) (C := RX6) (T := TX6) (N := 8) hx hb hts inlX6 tyX6 tyX6_ok nmX6 hown hK hP hD hS 0 rgL3_619f1f5 rfl 1 (by decide) (hts (.fieldLink RX6 15 "ClosedUntil$Timetable" "depth" "[I") qw_125) (fun _ h9 => h9) rfl hin rfl (by decide +kernel) rfl rfl (Nat.le_of_ble_eq_true rfl) dX6_init_17 (fun H locs hP9 hD9 hS9 => ?_)
  clear hP hD hS
  obtain ⟨hP, hD⟩ := rgS3_dd231b9 (e := (a0, .inr (5, [.ref q1, .ref q3, .null, .null, .null, .null, .int 0, .int 0]))) hP9 hD9 rfl
  have hS := hS9; clear hP9 hD9 hS9
  refine lv_aload_n hx hb dX6_init_20 rfl (lv_at hl 0 rfl) ?_
  refine lv_bipush (v := 12) hx hb dX6_init_21 (by decide) ?_
  refine lv_bipush (v := 24) hx hb dX6_init_23 (by decide) ?_
  refine mna (cy := g.2.2.2.2.1) (N' := 12) (K' := 24) hx hb hown (hts (.classLink RX6 18 "[[I") qw_683) hE.2.2.2.2.2.2.2.2.2.2.1 (hts (.arrayClass .int) qw_54) hE.2.2.2.2.2.2.2.2.2.2.2.2.1 hK hP hD hS hA (by decide) (by decide) (by decide) (by decide) (Nat.le_of_ble_eq_true rfl) (Nat.le_of_ble_eq_true rfl) (Nat.le_of_ble_eq_true rfl) (Nat.le_of_ble_eq_true rfl) dX6_init_25 (fun q5 gf6 rw7 cA8 H hro9 hgr10 hK hP hD hS => ?_)
  replace hK : va_K (dC, dI) vwCl [(cA2, .int), (cA4, .int), (cA8, .array .int)] s := hK
  have hJ9 := rgG3_622a7e8 hP hD
  clear hP hD; obtain ⟨hP, hD⟩ := hJ9
  refine W.widen (k := 15) (n := 348) (Nat.le_of_ble_eq_true rfl) (Nat.le_of_ble_eq_true rfl) ?_
  refine va_putF (D := (dC, dI)) (ci := 5) (v := .ref q5) (ty := .array (.array .int)) (C := RX6) (T := TX6) (N := 8) hx hb hts inlX6 tyX6 tyX6_ok nmX6 hown hK hP hD hS 0 rgL4_6945f2e rfl 2 (by decide) (hts (.fieldLink RX6 20 "ClosedUntil$Timetable" "terms" "[[I") qw_142) (fun _ h9 => h9) rfl hin rfl (by decide +kernel) rfl rfl (Nat.le_of_ble_eq_true rfl) dX6_init_29 (fun H locs hP9 hD9 hS9 => ?_)
  clear hP hD hS
  obtain ⟨hP, hD⟩ := rgS4_b8acf50 (e := (a0, .inr (5, [.ref q1, .ref q3, .ref q5, .null, .null, .null, .int 0, .int 0]))) hP9 hD9 rfl
  have hS := hS9; clear hP9 hD9 hS9
  refine lv_aload_n hx hb dX6_init_32 rfl (lv_at hl 0 rfl) ?_
  refine lv_bipush (v := 12) hx hb dX6_init_33 (by decide) ?_
  refine lv_bipush (v := 24) hx hb dX6_init_35 (by decide) ?_
  refine mna (cy := g.2.2.2.2.1) (N' := 12) (K' := 24) hx hb hown (hts (.classLink RX6 18 "[[I") qw_683) hE.2.2.2.2.2.2.2.2.2.2.1 (hts (.arrayClass .int) qw_54) hE.2.2.2.2.2.2.2.2.2.2.2.2.1 hK hP hD hS hA (by decide) (by decide) (by decide) (by decide) (Nat.le_of_ble_eq_true rfl) (Nat.le_of_ble_eq_true rfl) (Nat.le_of_ble_eq_true rfl) (Nat.le_of_ble_eq_true rfl) dX6_init_37 (fun q11 gf12 rw13 cA14 H hro15 hgr16 hK hP hD hS => ?_)
  have hP := vr2P hP
  have hD := vr2D hD
  replace hK : va_K (dC, dI) vwCl [(cA2, .int), (cA4, .int), (cA8, .array .int), (cA14, .array .int)] s := hK
  have hJ9 := rgG4_295ba46 hP hD
  clear hP hD; obtain ⟨hP, hD⟩ := hJ9
  refine W.widen (k := 28) (n := 648) (Nat.le_of_ble_eq_true rfl) (Nat.le_of_ble_eq_true rfl) ?_
  refine va_putF (D := (dC, dI)) (ci := 5) (v := .ref q11) (ty := .array (.array .int)) (C := RX6) (T := TX6) (N := 8) hx hb hts inlX6 tyX6 tyX6_ok nmX6 hown hK hP hD hS 0 rgL5_c7311da rfl 3 (by decide) (hts (.fieldLink RX6 23 "ClosedUntil$Timetable" "ends" "[[I") qw_147) (fun _ h9 => h9) rfl hin rfl (by decide +kernel) rfl rfl (Nat.le_of_ble_eq_true rfl) dX6_init_41 (fun H locs hP9 hD9 hS9 => ?_)
  clear hP hD hS
  obtain ⟨hP, hD⟩ := rgS5_30e406f (e := (a0, .inr (5, [.ref q1, .ref q3, .ref q5, .ref q11, .null, .null, .int 0, .int 0]))) hP9 hD9 rfl
  have hS := hS9; clear hP9 hD9 hS9
  refine lv_aload_n hx hb dX6_init_44 rfl (lv_at hl 0 rfl) ?_
  refine lv_bipush (v := 24) hx hb dX6_init_45 (by decide) ?_
  refine va_newa (atype := .int) (ty := .int) (a0 := (24, .inl (fun _ => 0))) (N' := 24) hx hb (hts (.arrayClass .int) qw_54) rfl hK hP hD hS hA (fun _ => rfl) (by decide) (by decide) (Nat.le_of_ble_eq_true rfl) (Nat.le_of_ble_eq_true rfl) (Nat.le_of_ble_eq_true rfl) dX6_init_47 (fun q17 cA18 H hK hP hD hS => ?_)
  have hP := va_P.swap hP
  have hD := va_D.swap hD
  replace hK : va_K (dC, dI) vwCl [(cA2, .int), (cA4, .int), (cA8, .array .int), (cA14, .array .int), (cA18, .int)] s := hK
  have hJ9 := rgG5_ed5bd64 hP hD
  clear hP hD; obtain ⟨hP, hD⟩ := hJ9
  refine W.widen (k := 29) (n := 672) (Nat.le_of_ble_eq_true rfl) (Nat.le_of_ble_eq_true rfl) ?_
  refine va_putF (D := (dC, dI)) (ci := 5) (v := .ref q17) (ty := .array .int) (C := RX6) (T := TX6) (N := 8) hx hb hts inlX6 tyX6 tyX6_ok nmX6 hown hK hP hD hS 0 rgL6_ab82cf0 rfl 4 (by decide) (hts (.fieldLink RX6 26 "ClosedUntil$Timetable" "closers" "[I") qw_154) (fun _ h9 => h9) rfl hin rfl (by decide +kernel) rfl rfl (Nat.le_of_ble_eq_true rfl) dX6_init_49 (fun H locs hP9 hD9 hS9 => ?_)
  clear hP hD hS
  obtain ⟨hP, hD⟩ := rgS6_ddd148c (e := (a0, .inr (5, [.ref q1, .ref q3, .ref q5, .ref q11, .ref q17, .null, .int 0, .int 0]))) hP9 hD9 rfl
  have hS := hS9; clear hP9 hD9 hS9
  refine lv_aload_n hx hb dX6_init_52 rfl (lv_at hl 0 rfl) ?_
  refine lv_bipush (v := 24) hx hb dX6_init_53 (by decide) ?_
  refine va_newa (atype := .int) (ty := .int) (a0 := (24, .inl (fun _ => 0))) (N' := 24) hx hb (hts (.arrayClass .int) qw_54) rfl hK hP hD hS hA (fun _ => rfl) (by decide) (by decide) (Nat.le_of_ble_eq_true rfl) (Nat.le_of_ble_eq_true rfl) (Nat.le_of_ble_eq_true rfl) dX6_init_55 (fun q19 cA20 H hK hP hD hS => ?_)
  have hP := va_P.swap hP
  have hD := va_D.swap hD
  replace hK : va_K (dC, dI) vwCl [(cA2, .int), (cA4, .int), (cA8, .array .int), (cA14, .array .int), (cA18, .int), (cA20, .int)] s := hK
  have hJ9 := rgG6_438f1ee hP hD
  clear hP hD; obtain ⟨hP, hD⟩ := hJ9
  refine W.widen (k := 30) (n := 696) (Nat.le_of_ble_eq_true rfl) (Nat.le_of_ble_eq_true rfl) ?_
  refine va_putF (D := (dC, dI)) (ci := 5) (v := .ref q19) (ty := .array .int) (C := RX6) (T := TX6) (N := 8) hx hb hts inlX6 tyX6 tyX6_ok nmX6 hown hK hP hD hS 0 rgL7_136f602 rfl 5 (by decide) (hts (.fieldLink RX6 29 "ClosedUntil$Timetable" "openings" "[I") qw_153) (fun _ h9 => h9) rfl hin rfl (by decide +kernel) rfl rfl (Nat.le_of_ble_eq_true rfl) dX6_init_57 (fun H locs hP9 hD9 hS9 => ?_)
  clear hP hD hS
  obtain ⟨hP, hD⟩ := rgS7_74cab1f (e := (a0, .inr (5, [.ref q1, .ref q3, .ref q5, .ref q11, .ref q17, .ref q19, .int 0, .int 0]))) hP9 hD9 rfl
  have hS := hS9; clear hP9 hD9 hS9
  have hP9 := hP
  have hD9 := hD
  have hK9 := hK
  refine W.widen (k := 30) (n := 696) (Nat.le_of_ble_eq_true rfl) (Nat.le_of_ble_eq_true rfl) ?_
  exact W.vret hx hb hr (fun t ht hW => ⟨⟨(), rfl, trivial, q1, q3, q5, q11, q17, q19, cA2, cA4, cA8, gf6, cA14, gf12, cA18, cA20, (rw7 ++ rw13), (GR.left (GR.of hro9 hgr10)), (GR.right (GR.of hro15 hgr16)), atB ht hP9, va_K.moved hW.alike hK9, hD9⟩, hS.F ht⟩) hS.2.2 dX6_init_60
set_option maxHeartbeats 4000000 in
set_option maxRecDepth 100000 in
theorem k_X3_init (l : Launch) (dC : Nat → ClassId) (dI : Nat → Nat → Nat) (g : Gv) (sz : Nat) (a0 : Nat)  : Met l yX3_init (.code yX3_init cX3_init 1 none :: TBL) ({ frames := 1, cells := 30, slots := 200, locals := 40 }) (va_Pc [.ref a0] (fun U => U.heap.size = sz ∧ va_P (dC, dI) vwCl [(a0, .inr (2, [.null, .null, .null, .null, .null, .null]))] U.heap ∧ va_K (dC, dI) vwCl [] U ∧ va_D (fun _ => True) [(a0, .inr (2, [.null, .null, .null, .null, .null, .null]))] ∧ Ev g (va_A [(a0, .inr (2, [.null, .null, .null, .null, .null, .null]))] sz) U)) (va_Qv (fun (_ : Unit) => True) (fun (_ : Unit) (t : State) => ∃ (za0_0 : Nat) (za0_1 : Nat) (za0_2 : Nat) (za0_3 : Nat) (za0_4 : Nat) (za0_5 : Nat) (za0_0_c : ClassId) (za0_0_f : Nat → Int32) (za0_1_c : ClassId) (za0_1_f : Nat → Int32) (za0_2_c : ClassId) (za0_2_f : Nat → Int32) (za0_3_c : ClassId) (za0_3_f : Nat → Int32) (za0_4_c : ClassId) (za0_4_f : Nat → Option Nat) (za0_5_c : ClassId) (za0_5_f : Nat → Option Nat) (zrows : va_W), vr 0 5 za0_3_f ∧ GR g.2.2.2.2.1 5 12 za0_4_f zrows ∧ GR g.2.2.2.2.1 5 12 za0_5_f zrows ∧ va_P (dC, dI) vwCl (([(a0, .inr (2, [.ref za0_0, .ref za0_1, .ref za0_2, .ref za0_3, .ref za0_4, .ref za0_5])), (za0_0, .inl (za0_0_c, 24, .inl za0_0_f)), (za0_1, .inl (za0_1_c, 8, .inl za0_1_f)), (za0_2, .inl (za0_2_c, 12, .inl za0_2_f)), (za0_3, .inl (za0_3_c, 12, .inl za0_3_f)), (za0_4, .inl (za0_4_c, 12, .inr (.inr (.inr (.inr za0_4_f))))), (za0_5, .inl (za0_5_c, 12, .inr (.inr (.inr (.inr za0_5_f)))))] : va_W) ++ zrows) t.heap ∧ va_K (dC, dI) vwCl [(za0_0_c, .int), (za0_1_c, .int), (za0_2_c, .int), (za0_3_c, .int), (za0_4_c, .array .int), (za0_5_c, .array .int)] t ∧ va_D (va_A [(a0, .inr (2, [.null, .null, .null, .null, .null, .null]))] sz) (([(a0, .inr (2, [.ref za0_0, .ref za0_1, .ref za0_2, .ref za0_3, .ref za0_4, .ref za0_5])), (za0_0, .inl (za0_0_c, 24, .inl za0_0_f)), (za0_1, .inl (za0_1_c, 8, .inl za0_1_f)), (za0_2, .inl (za0_2_c, 12, .inl za0_2_f)), (za0_3, .inl (za0_3_c, 12, .inl za0_3_f)), (za0_4, .inl (za0_4_c, 12, .inr (.inr (.inr (.inr za0_4_f))))), (za0_5, .inl (za0_5_c, 12, .inr (.inr (.inr (.inr za0_5_f)))))] : va_W) ++ zrows)) (va_A [(a0, .inr (2, [.null, .null, .null, .null, .null, .null]))] sz)) 30 200 (va_A [(a0, .inr (2, [.null, .null, .null, .null, .null, .null]))] sz) := by
  refine Met.ofW (cc := cX3_init) (maxL := 1) (ret := none) (by decide) rfl ?_
  intro p e s m args below meth c s₁ B hml hv
  obtain ⟨rfl, hsz, hP, hK, hD0, hE⟩ := hv
  have hx := B.exec
  have hb := B.bytes
  have hr := B.returns
  have hts0 := atoms_spec (ws := (.code yX3_init cX3_init 1 none :: TBL)) B.pre
  have hts := fun (w : Cond) (h : w ∈ TBL) => hts0 w (List.mem_cons_of_mem _ h)
  have hown : s.vm.findClass RX3 = some m.cls := findClass_of_methodNamed B.named
  have hlocks := B.notSynchronized
  have hN := hE.1
  have hin : meth.name = "<init>" := (name_of_methodNamed B.named B.method).1
  subst hsz
  have hD := hD0.self (sz := s.heap.size)
  generalize hAe : va_A [(a0, .inr (2, [.null, .null, .null, .null, .null, .null]))] s.heap.size = A at hD hE ⊢
  have hA : ∀ q : Nat, s.heap.size ≤ q → A q := fun q h => by rw [← hAe]; exact Or.inr h
  have hS : va_S A s.heap s.heap [] := va_S.rf
  replace hP : va_P (dC, dI) vwCl [(a0, .inr (2, [.null, .null, .null, .null, .null, .null]))] s.heap := hP
  have hl := lv_entry ([.ref a0]) (n := 1) (Nat.le_of_ble_eq_true rfl)
  rw [lg_entry_eq]
  generalize (lg_sl ([.ref a0]) ++ List.replicate (1 - (lg_sl ([.ref a0])).length) Slot.unset).toArray = ls at hl ⊢
  have hl : lv_has ls 1 [(0, .ref a0)] := hl
  refine lv_aload_n hx hb dX3_init_0 rfl (lv_at hl 0 rfl) ?_
  refine W.objInit hx hb hown (hts (.methodLink RX3 3 objectInit) qw_684) (hts (.instanceMethod objectInit) qw_669) (hts (.code objectInit ⟨#[0xb1]⟩ 1 none) qw_670) rfl (by rw [hml]; exact hl.1) rfl dX3_init_1 (Nat.le_of_ble_eq_true rfl) (Nat.le_of_ble_eq_true rfl) ?_
  refine W.eq (g2 := F0 m 4 ls []) rfl ?_
  refine lv_aload_n hx hb dX3_init_4 rfl (lv_at hl 0 rfl) ?_
  refine lv_bipush (v := 24) hx hb dX3_init_5 (by decide) ?_
  refine va_newa (atype := .int) (ty := .int) (a0 := (24, .inl (fun _ => 0))) (N' := 24) hx hb (hts (.arrayClass .int) qw_54) rfl hK hP hD hS hA (fun _ => rfl) (by decide) (by decide) (Nat.le_of_ble_eq_true rfl) (Nat.le_of_ble_eq_true rfl) (Nat.le_of_ble_eq_true rfl) dX3_init_7 (fun q1 cA2 H hK hP hD hS => ?_)
  replace hK : va_K (dC, dI) vwCl [(cA2, .int)] s := hK
  have hJ9 := rgG1_69c5b20 hP hD
  clear hP hD; obtain ⟨hP, hD⟩ := hJ9
  refine W.widen (k := 1) (n := 24) (Nat.le_of_ble_eq_true rfl) (Nat.le_of_ble_eq_true rfl) ?_
  refine va_putF (D := (dC, dI)) (ci := 2) (v := .ref q1) (ty := .array .int) (C := RX3) (T := TX3) (N := 6) hx hb hts inlX3 tyX3 tyX3_ok nmX3 hown hK hP hD hS 0 rgL2_5ac5f51 rfl 0 (by decide) (hts (.fieldLink RX3 9 "ClosedUntil$State" "parent" "[I") qw_46) (fun _ h9 => h9) rfl hin rfl (by decide +kernel) rfl rfl (Nat.le_of_ble_eq_true rfl) dX3_init_9 (fun H locs hP9 hD9 hS9 => ?_)
  clear hP hD hS
  obtain ⟨hP, hD⟩ := rgS2_40109d0 (e := (a0, .inr (2, [.ref q1, .null, .null, .null, .null, .null]))) hP9 hD9 rfl
  have hS := hS9; clear hP9 hD9 hS9
  refine lv_aload_n hx hb dX3_init_12 rfl (lv_at hl 0 rfl) ?_
  refine lv_bipush (v := 8) hx hb dX3_init_13 (by decide) ?_
  refine va_newa (atype := .int) (ty := .int) (a0 := (8, .inl (fun _ => 0))) (N' := 8) hx hb (hts (.arrayClass .int) qw_54) rfl hK hP hD hS hA (fun _ => rfl) (by decide) (by decide) (Nat.le_of_ble_eq_true rfl) (Nat.le_of_ble_eq_true rfl) (Nat.le_of_ble_eq_true rfl) dX3_init_15 (fun q3 cA4 H hK hP hD hS => ?_)
  replace hK : va_K (dC, dI) vwCl [(cA2, .int), (cA4, .int)] s := hK
  have hJ9 := rgG2_ba1d474 hP hD
  clear hP hD; obtain ⟨hP, hD⟩ := hJ9
  refine W.widen (k := 2) (n := 32) (Nat.le_of_ble_eq_true rfl) (Nat.le_of_ble_eq_true rfl) ?_
  refine va_putF (D := (dC, dI)) (ci := 2) (v := .ref q3) (ty := .array .int) (C := RX3) (T := TX3) (N := 6) hx hb hts inlX3 tyX3 tyX3_ok nmX3 hown hK hP hD hS 0 rgL3_619f1f5 rfl 1 (by decide) (hts (.fieldLink RX3 15 "ClosedUntil$State" "death" "[I") qw_47) (fun _ h9 => h9) rfl hin rfl (by decide +kernel) rfl rfl (Nat.le_of_ble_eq_true rfl) dX3_init_17 (fun H locs hP9 hD9 hS9 => ?_)
  clear hP hD hS
  obtain ⟨hP, hD⟩ := rgS3_dd231b9 (e := (a0, .inr (2, [.ref q1, .ref q3, .null, .null, .null, .null]))) hP9 hD9 rfl
  have hS := hS9; clear hP9 hD9 hS9
  refine lv_aload_n hx hb dX3_init_20 rfl (lv_at hl 0 rfl) ?_
  refine lv_bipush (v := 12) hx hb dX3_init_21 (by decide) ?_
  refine va_newa (atype := .int) (ty := .int) (a0 := (12, .inl (fun _ => 0))) (N' := 12) hx hb (hts (.arrayClass .int) qw_54) rfl hK hP hD hS hA (fun _ => rfl) (by decide) (by decide) (Nat.le_of_ble_eq_true rfl) (Nat.le_of_ble_eq_true rfl) (Nat.le_of_ble_eq_true rfl) dX3_init_23 (fun q5 cA6 H hK hP hD hS => ?_)
  replace hK : va_K (dC, dI) vwCl [(cA2, .int), (cA4, .int), (cA6, .int)] s := hK
  have hJ9 := rgG3_99a7846 hP hD
  clear hP hD; obtain ⟨hP, hD⟩ := hJ9
  refine W.widen (k := 3) (n := 44) (Nat.le_of_ble_eq_true rfl) (Nat.le_of_ble_eq_true rfl) ?_
  refine va_putF (D := (dC, dI)) (ci := 2) (v := .ref q5) (ty := .array .int) (C := RX3) (T := TX3) (N := 6) hx hb hts inlX3 tyX3 tyX3_ok nmX3 hown hK hP hD hS 0 rgL4_25bb07f rfl 2 (by decide) (hts (.fieldLink RX3 18 "ClosedUntil$State" "lifted" "[I") qw_48) (fun _ h9 => h9) rfl hin rfl (by decide +kernel) rfl rfl (Nat.le_of_ble_eq_true rfl) dX3_init_25 (fun H locs hP9 hD9 hS9 => ?_)
  clear hP hD hS
  obtain ⟨hP, hD⟩ := rgS4_3ebc7b6 (e := (a0, .inr (2, [.ref q1, .ref q3, .ref q5, .null, .null, .null]))) hP9 hD9 rfl
  have hS := hS9; clear hP9 hD9 hS9
  refine lv_aload_n hx hb dX3_init_28 rfl (lv_at hl 0 rfl) ?_
  refine lv_bipush (v := 12) hx hb dX3_init_29 (by decide) ?_
  refine va_newa (atype := .int) (ty := .int) (a0 := (12, .inl (fun _ => 0))) (N' := 12) hx hb (hts (.arrayClass .int) qw_54) rfl hK hP hD hS hA (fun _ => rfl) (by decide) (by decide) (Nat.le_of_ble_eq_true rfl) (Nat.le_of_ble_eq_true rfl) (Nat.le_of_ble_eq_true rfl) dX3_init_31 (fun q7 cA8 H hK hP hD hS => ?_)
  replace hK : va_K (dC, dI) vwCl [(cA2, .int), (cA4, .int), (cA6, .int), (cA8, .int)] s := hK
  have hJ9 := rgG4_09643f2 hP hD
  clear hP hD; obtain ⟨hP, hD⟩ := hJ9
  refine W.widen (k := 4) (n := 56) (Nat.le_of_ble_eq_true rfl) (Nat.le_of_ble_eq_true rfl) ?_
  refine va_putF (D := (dC, dI)) (ci := 2) (v := .ref q7) (ty := .array .int) (C := RX3) (T := TX3) (N := 6) hx hb hts inlX3 tyX3 tyX3_ok nmX3 hown hK hP hD hS 0 rgL5_a6879b9 rfl 3 (by decide) (hts (.fieldLink RX3 21 "ClosedUntil$State" "reviews" "[I") qw_49) (fun _ h9 => h9) rfl hin rfl (by decide +kernel) rfl rfl (Nat.le_of_ble_eq_true rfl) dX3_init_33 (fun H locs hP9 hD9 hS9 => ?_)
  clear hP hD hS
  obtain ⟨hP, hD⟩ := rgS5_283d4d4 (e := (a0, .inr (2, [.ref q1, .ref q3, .ref q5, .ref q7, .null, .null]))) hP9 hD9 rfl
  have hS := hS9; clear hP9 hD9 hS9
  refine lv_aload_n hx hb dX3_init_36 rfl (lv_at hl 0 rfl) ?_
  refine lv_bipush (v := 12) hx hb dX3_init_37 (by decide) ?_
  refine lv_iconst (v := 5) hx hb dX3_init_39 (by decide) ?_
  refine mna (cy := g.2.2.2.2.1) (N' := 12) (K' := 5) hx hb hown (hts (.classLink RX3 24 "[[I") qw_685) hE.2.2.2.2.2.2.2.2.2.2.1 (hts (.arrayClass .int) qw_54) hE.2.2.2.2.2.2.2.2.2.2.2.2.1 hK hP hD hS hA (by decide) (by decide) (by decide) (by decide) (Nat.le_of_ble_eq_true rfl) (Nat.le_of_ble_eq_true rfl) (Nat.le_of_ble_eq_true rfl) (Nat.le_of_ble_eq_true rfl) dX3_init_40 (fun q9 gf10 rw11 cA12 H hro13 hgr14 hK hP hD hS => ?_)
  replace hK : va_K (dC, dI) vwCl [(cA2, .int), (cA4, .int), (cA6, .int), (cA8, .int), (cA12, .array .int)] s := hK
  have hJ9 := rgG5_ed5bd64 hP hD
  clear hP hD; obtain ⟨hP, hD⟩ := hJ9
  refine W.widen (k := 17) (n := 128) (Nat.le_of_ble_eq_true rfl) (Nat.le_of_ble_eq_true rfl) ?_
  refine va_putF (D := (dC, dI)) (ci := 2) (v := .ref q9) (ty := .array (.array .int)) (C := RX3) (T := TX3) (N := 6) hx hb hts inlX3 tyX3 tyX3_ok nmX3 hown hK hP hD hS 0 rgL6_ab82cf0 rfl 4 (by decide) (hts (.fieldLink RX3 26 "ClosedUntil$State" "reviewDay" "[[I") qw_53) (fun _ h9 => h9) rfl hin rfl (by decide +kernel) rfl rfl (Nat.le_of_ble_eq_true rfl) dX3_init_44 (fun H locs hP9 hD9 hS9 => ?_)
  clear hP hD hS
  obtain ⟨hP, hD⟩ := rgS6_ddd148c (e := (a0, .inr (2, [.ref q1, .ref q3, .ref q5, .ref q7, .ref q9, .null]))) hP9 hD9 rfl
  have hS := hS9; clear hP9 hD9 hS9
  refine lv_aload_n hx hb dX3_init_47 rfl (lv_at hl 0 rfl) ?_
  refine lv_bipush (v := 12) hx hb dX3_init_48 (by decide) ?_
  refine lv_iconst (v := 5) hx hb dX3_init_50 (by decide) ?_
  refine mna (cy := g.2.2.2.2.1) (N' := 12) (K' := 5) hx hb hown (hts (.classLink RX3 24 "[[I") qw_685) hE.2.2.2.2.2.2.2.2.2.2.1 (hts (.arrayClass .int) qw_54) hE.2.2.2.2.2.2.2.2.2.2.2.2.1 hK hP hD hS hA (by decide) (by decide) (by decide) (by decide) (Nat.le_of_ble_eq_true rfl) (Nat.le_of_ble_eq_true rfl) (Nat.le_of_ble_eq_true rfl) (Nat.le_of_ble_eq_true rfl) dX3_init_51 (fun q15 gf16 rw17 cA18 H hro19 hgr20 hK hP hD hS => ?_)
  have hP := vr2P hP
  have hD := vr2D hD
  replace hK : va_K (dC, dI) vwCl [(cA2, .int), (cA4, .int), (cA6, .int), (cA8, .int), (cA12, .array .int), (cA18, .array .int)] s := hK
  have hJ9 := rgG6_438f1ee hP hD
  clear hP hD; obtain ⟨hP, hD⟩ := hJ9
  refine W.widen (k := 30) (n := 200) (Nat.le_of_ble_eq_true rfl) (Nat.le_of_ble_eq_true rfl) ?_
  refine va_putF (D := (dC, dI)) (ci := 2) (v := .ref q15) (ty := .array (.array .int)) (C := RX3) (T := TX3) (N := 6) hx hb hts inlX3 tyX3 tyX3_ok nmX3 hown hK hP hD hS 0 rgL7_136f602 rfl 5 (by decide) (hts (.fieldLink RX3 29 "ClosedUntil$State" "reviewYears" "[[I") qw_55) (fun _ h9 => h9) rfl hin rfl (by decide +kernel) rfl rfl (Nat.le_of_ble_eq_true rfl) dX3_init_55 (fun H locs hP9 hD9 hS9 => ?_)
  clear hP hD hS
  obtain ⟨hP, hD⟩ := rgS7_74cab1f (e := (a0, .inr (2, [.ref q1, .ref q3, .ref q5, .ref q7, .ref q9, .ref q15]))) hP9 hD9 rfl
  have hS := hS9; clear hP9 hD9 hS9
  refine lv_aload_n hx hb dX3_init_58 rfl (lv_at hl 0 rfl) ?_
  have hPc := (rgP7_7bba4f0 hP)
  have hKc := (rgK6_bbe55ed hK)
  have hDc := (rgD7_9a5b9d2 hD)
  have hFc := freeW hDc hS hA
  refine va_callv (va_runV (As := []) (rest := []) ⟨hx, hb, hml, hown, hts⟩ (k_X3_clear l dC dI g H.size (a0) (q1) (q3) (q5) (q7) (q9) (q15) (cA2) ((fun _ => 0)) (cA4) ((fun _ => 0)) (cA6) ((fun _ => 0)) (cA8) ((fun _ => 0)) (vr0 (by decide))) (cwV 0 hts (gwV qw_686 qw_221 qw_222 qw_57 qw_220) rfl rfl rfl (by decide +kernel) ⟨Nat.le_of_ble_eq_true rfl, Nat.le_of_ble_eq_true rfl⟩) ⟨fun a U g9 mk q => ⟨q.1, q.2.1, q.2.2.1, va_K.moved (u := U) (U := U.calling g9 mk a) (Vm.Alike.refl U.vm) q.2.2.2.1, q.2.2.2.2.1, Ev.bl q.2.2.2.2.2⟩, va_recv hK hP (ci := 2) (q0 := 0) rfl rgL7_136f602, fun U hU hW => ⟨rfl, by rw [hU], atB hU hPc, va_K.moved hW.alike hKc, hDc.weaken (fun _ _ _ _ => trivial), hE.go hS hFc hU hW⟩⟩ rfl rfl hl.1 rfl (lv_room (Nat.le_of_ble_eq_true rfl)) dX3_init_59 ⟨Nat.le_of_ble_eq_true rfl, Nat.le_of_ble_eq_true rfl⟩) hS (fun q _ h => hFc q h) hFc (fun u21 t H1 locs ht hvm h_u21 hB hz1 hk1 hS => ?_)
  obtain ⟨za0_0_f_23, za0_1_f_24, za0_2_f_25, za0_3_f_26, hF27, hP1, hK1, hD1⟩ := hB
  have hK1 := va_K.moved hvm.symm hK1
  have hJ9 := rgJ7_7fed05b hP hD hk1 hFc (atH ht hP1) hD1
  clear hP hD hPc hKc hDc hFc hP1 hD1 hk1 hz1
  obtain ⟨hP, hD⟩ := hJ9
  clear hK1
  generalize H1 = H at hP hS ⊢
  refine W.widen (k := 30) (n := 200) (Nat.le_of_ble_eq_true rfl) (Nat.le_of_ble_eq_true rfl) ?_
  have hP9 := hP
  have hD9 := hD
  have hK9 := hK
  refine W.widen (k := 30) (n := 200) (Nat.le_of_ble_eq_true rfl) (Nat.le_of_ble_eq_true rfl) ?_
  exact W.vret hx hb hr (fun t ht hW => ⟨⟨(), rfl, trivial, q1, q3, q5, q7, q9, q15, cA2, za0_0_f_23, cA4, za0_1_f_24, cA6, za0_2_f_25, cA8, za0_3_f_26, cA12, gf10, cA18, gf16, (rw11 ++ rw17), (by assumption), (GR.left (GR.of hro13 hgr14)), (GR.right (GR.of hro19 hgr20)), atB ht hP9, va_K.moved hW.alike hK9, hD9⟩, hS.F ht⟩) hS.2.2 dX3_init_62
