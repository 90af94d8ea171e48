theorem dX3_init_0 : decode cX3_init 0 = .ok (.aload_n 0, 1) := by decide +kernel
theorem dX3_init_1 : decode cX3_init 1 = .ok (.invokespecial 3, 3) := by decide +kernel
theorem dX3_init_4 : decode cX3_init 4 = .ok (.aload_n 0, 1) := by decide +kernel
theorem dX3_init_5 : decode cX3_init 5 = .ok (.bipush 24, 2) := by decide +kernel
theorem dX3_init_7 : decode cX3_init 7 = .ok (.newarray .int, 2) := by decide +kernel
theorem dX3_init_9 : decode cX3_init 9 = .ok (.putfield 9, 3) := by decide +kernel
theorem dX3_init_12 : decode cX3_init 12 = .ok (.aload_n 0, 1) := by decide +kernel
theorem dX3_init_13 : decode cX3_init 13 = .ok (.bipush 8, 2) := by decide +kernel
theorem dX3_init_15 : decode cX3_init 15 = .ok (.newarray .int, 2) := by decide +kernel
theorem dX3_init_17 : decode cX3_init 17 = .ok (.putfield 15, 3) := by decide +kernel
theorem dX3_init_20 : decode cX3_init 20 = .ok (.aload_n 0, 1) := by decide +kernel
theorem dX3_init_21 : decode cX3_init 21 = .ok (.bipush 12, 2) := by decide +kernel
theorem dX3_init_23 : decode cX3_init 23 = .ok (.newarray .int, 2) := by decide +kernel
theorem dX3_init_25 : decode cX3_init 25 = .ok (.putfield 18, 3) := by decide +kernel
theorem dX3_init_28 : decode cX3_init 28 = .ok (.aload_n 0, 1) := by decide +kernel
theorem dX3_init_29 : decode cX3_init 29 = .ok (.bipush 12, 2) := by decide +kernel
theorem dX3_init_31 : decode cX3_init 31 = .ok (.newarray .int, 2) := by decide +kernel
theorem dX3_init_33 : decode cX3_init 33 = .ok (.putfield 21, 3) := by decide +kernel
theorem dX3_init_36 : decode cX3_init 36 = .ok (.aload_n 0, 1) := by decide +kernel
theorem dX3_init_37 : decode cX3_init 37 = .ok (.bipush 12, 2) := by decide +kernel
theorem dX3_init_39 : decode cX3_init 39 = .ok (.iconst 5, 1) := by decide +kernel
theorem dX3_init_40 : decode cX3_init 40 = .ok (.multianewarray 24 2, 4) := by decide +kernel
theorem dX3_init_44 : decode cX3_init 44 = .ok (.putfield 26, 3) := by decide +kernel
theorem dX3_init_47 : decode cX3_init 47 = .ok (.aload_n 0, 1) := by decide +kernel
theorem dX3_init_48 : decode cX3_init 48 = .ok (.bipush 12, 2) := by decide +kernel
theorem dX3_init_50 : decode cX3_init 50 = .ok (.iconst 5, 1) := by decide +kernel
theorem dX3_init_51 : decode cX3_init 51 = .ok (.multianewarray 24 2, 4) := by decide +kernel
theorem dX3_init_55 : decode cX3_init 55 = .ok (.putfield 29, 3) := by decide +kernel
theorem dX3_init_58 : decode cX3_init 58 = .ok (.aload_n 0, 1) := by decide +kernel
theorem dX3_init_59 : decode cX3_init 59 = .ok (.invokevirtual 32, 3) := by decide +kernel
theorem dX3_init_62 : decode cX3_init 62 = .ok (.return_, 1) := by decide +kernel
theorem dX5_init_0 : decode cX5_init 0 = .ok (.aload_n 0, 1) := by decide +kernel
theorem dX5_init_1 : decode cX5_init 1 = .ok (.invokespecial 3, 3) := by decide +kernel
theorem dX5_init_4 : decode cX5_init 4 = .ok (.aload_n 0, 1) := by decide +kernel
theorem dX5_init_5 : decode cX5_init 5 = .ok (.new 9, 3) := by decide +kernel
theorem dX5_init_8 : decode cX5_init 8 = .ok (.dup, 1) := by decide +kernel
theorem dX5_init_9 : decode cX5_init 9 = .ok (.invokespecial 11, 3) := by decide +kernel
theorem dX5_init_12 : decode cX5_init 12 = .ok (.putfield 12, 3) := by decide +kernel
theorem dX5_init_15 : decode cX5_init 15 = .ok (.aload_n 0, 1) := by decide +kernel
theorem dX5_init_16 : decode cX5_init 16 = .ok (.bipush 36, 2) := by decide +kernel
theorem dX5_init_18 : decode cX5_init 18 = .ok (.newarray .long, 2) := by decide +kernel
theorem dX5_init_20 : decode cX5_init 20 = .ok (.putfield 18, 3) := by decide +kernel
theorem dX5_init_23 : decode cX5_init 23 = .ok (.aload_n 0, 1) := by decide +kernel
theorem dX5_init_24 : decode cX5_init 24 = .ok (.bipush 36, 2) := by decide +kernel
theorem dX5_init_26 : decode cX5_init 26 = .ok (.newarray .int, 2) := by decide +kernel
theorem dX5_init_28 : decode cX5_init 28 = .ok (.putfield 22, 3) := by decide +kernel
theorem dX5_init_31 : decode cX5_init 31 = .ok (.aload_n 0, 1) := by decide +kernel
theorem dX5_init_32 : decode cX5_init 32 = .ok (.bipush 36, 2) := by decide +kernel
theorem dX5_init_34 : decode cX5_init 34 = .ok (.newarray .int, 2) := by decide +kernel
theorem dX5_init_36 : decode cX5_init 36 = .ok (.putfield 26, 3) := by decide +kernel
theorem dX5_init_39 : decode cX5_init 39 = .ok (.return_, 1) := by decide +kernel
theorem dX7_init_0 : decode cX7_init 0 = .ok (.aload_n 0, 1) := by decide +kernel
theorem dX7_init_1 : decode cX7_init 1 = .ok (.invokespecial 1, 3) := by decide +kernel
theorem dX7_init_4 : decode cX7_init 4 = .ok (.aload_n 0, 1) := by decide +kernel
theorem dX7_init_5 : decode cX7_init 5 = .ok (.bipush 12, 2) := by decide +kernel
theorem dX7_init_7 : decode cX7_init 7 = .ok (.newarray .long, 2) := by decide +kernel
theorem dX7_init_9 : decode cX7_init 9 = .ok (.putfield 9, 3) := by decide +kernel
theorem dX7_init_12 : decode cX7_init 12 = .ok (.aload_n 0, 1) := by decide +kernel
theorem dX7_init_13 : decode cX7_init 13 = .ok (.iconst 0, 1) := by decide +kernel
theorem dX7_init_14 : decode cX7_init 14 = .ok (.newarray .byte, 2) := by decide +kernel
theorem dX7_init_16 : decode cX7_init 16 = .ok (.putfield 13, 3) := by decide +kernel
theorem dX7_init_19 : decode cX7_init 19 = .ok (.iconst 0, 1) := by decide +kernel
theorem dX7_init_20 : decode cX7_init 20 = .ok (.istore_n 1, 1) := by decide +kernel
theorem dX7_init_21 : decode cX7_init 21 = .ok (.iconst 0, 1) := by decide +kernel
theorem dX7_init_22 : decode cX7_init 22 = .ok (.istore_n 2, 1) := by decide +kernel
theorem dX7_init_23 : decode cX7_init 23 = .ok (.iload_n 2, 1) := by decide +kernel
theorem dX7_init_24 : decode cX7_init 24 = .ok (.ldc 17, 2) := by decide +kernel
theorem dX7_init_26 : decode cX7_init 26 = .ok (.invokevirtual 19, 3) := by decide +kernel
theorem dX7_init_29 : decode cX7_init 29 = .ok (.if_icmp .ge 53, 3) := by decide +kernel
theorem dX7_init_32 : decode cX7_init 32 = .ok (.iload_n 1, 1) := by decide +kernel
theorem dX7_init_33 : decode cX7_init 33 = .ok (.bipush 12, 2) := by decide +kernel
theorem dX7_init_35 : decode cX7_init 35 = .ok (.if_icmp .ge 47, 3) := by decide +kernel
theorem dX7_init_38 : decode cX7_init 38 = .ok (.ldc 17, 2) := by decide +kernel
theorem dX7_init_40 : decode cX7_init 40 = .ok (.iload_n 2, 1) := by decide +kernel
theorem dX7_init_41 : decode cX7_init 41 = .ok (.invokevirtual 25, 3) := by decide +kernel
theorem dX7_init_44 : decode cX7_init 44 = .ok (.bipush 32, 2) := by decide +kernel
theorem dX7_init_46 : decode cX7_init 46 = .ok (.if_icmp .ne 9, 3) := by decide +kernel
theorem dX7_init_49 : decode cX7_init 49 = .ok (.iinc 1 1, 3) := by decide +kernel
theorem dX7_init_52 : decode cX7_init 52 = .ok (.goto 24, 3) := by decide +kernel
theorem dX7_init_55 : decode cX7_init 55 = .ok (.aload_n 0, 1) := by decide +kernel
theorem dX7_init_56 : decode cX7_init 56 = .ok (.getfield 9, 3) := by decide +kernel
theorem dX7_init_59 : decode cX7_init 59 = .ok (.iload_n 1, 1) := by decide +kernel
theorem dX7_init_60 : decode cX7_init 60 = .ok (.aload_n 0, 1) := by decide +kernel
theorem dX7_init_61 : decode cX7_init 61 = .ok (.getfield 9, 3) := by decide +kernel
theorem dX7_init_64 : decode cX7_init 64 = .ok (.iload_n 1, 1) := by decide +kernel
theorem dX7_init_65 : decode cX7_init 65 = .ok (.laload, 1) := by decide +kernel
theorem dX7_init_66 : decode cX7_init 66 = .ok (.ldc 17, 2) := by decide +kernel
theorem dX7_init_68 : decode cX7_init 68 = .ok (.iload_n 2, 1) := by decide +kernel
theorem dX7_init_69 : decode cX7_init 69 = .ok (.invokevirtual 25, 3) := by decide +kernel
theorem dX7_init_72 : decode cX7_init 72 = .ok (.invokestatic 29, 3) := by decide +kernel
theorem dX7_init_75 : decode cX7_init 75 = .ok (.lastore, 1) := by decide +kernel
theorem dX7_init_76 : decode cX7_init 76 = .ok (.iinc 2 1, 3) := by decide +kernel
theorem dX7_init_79 : decode cX7_init 79 = .ok (.goto (-56), 3) := by decide +kernel
theorem dX7_init_82 : decode cX7_init 82 = .ok (.return_, 1) := by decide +kernel
theorem qw_135 : (Cond.methodLink RX7 1 objectInit : Cond) ∈ TBL := List.mem_of_getElem? (i := 61) (by decide +kernel)
theorem qw_136 : (Cond.arrayClass .long : Cond) ∈ TBL := List.mem_of_getElem? (i := 6) (by decide +kernel)
theorem qw_137 : (Cond.fieldLink RX7 9 "ClosedUntil$Tokens" "keywords" "[J" : Cond) ∈ TBL := List.mem_of_getElem? (i := 62) (by decide +kernel)
theorem qw_138 : (Cond.fieldLink RX7 13 "ClosedUntil$Tokens" "bytes" "[B" : Cond) ∈ TBL := List.mem_of_getElem? (i := 63) (by decide +kernel)
theorem qw_139 : (Cond.code yJ0_length_8abf5 cJ0_length_8abf5 1 (some .int) : Cond) ∈ TBL := List.mem_of_getElem? (i := 68) (by decide +kernel)
theorem qw_140 : (Cond.methodLink RX7 19 yJ0_length_8abf5 : Cond) ∈ TBL := List.mem_of_getElem? (i := 64) (by decide +kernel)
theorem qw_141 : (Cond.instanceMethod yJ0_length_8abf5 : Cond) ∈ TBL := List.mem_of_getElem? (i := 65) (by decide +kernel)
theorem qw_142 : (Cond.selects RJ0 yJ0_length_8abf5 yJ0_length_8abf5 : Cond) ∈ TBL := List.mem_of_getElem? (i := 66) (by decide +kernel)
theorem qw_143 : (Cond.code yJ0_charAt_5068e cJ0_charAt_5068e 2 (some .char) : Cond) ∈ TBL := List.mem_of_getElem? (i := 79) (by decide +kernel)
theorem qw_144 : (Cond.methodLink RX7 25 yJ0_charAt_5068e : Cond) ∈ TBL := List.mem_of_getElem? (i := 76) (by decide +kernel)
theorem qw_145 : (Cond.instanceMethod yJ0_charAt_5068e : Cond) ∈ TBL := List.mem_of_getElem? (i := 77) (by decide +kernel)
theorem qw_146 : (Cond.selects RJ0 yJ0_charAt_5068e yJ0_charAt_5068e : Cond) ∈ TBL := List.mem_of_getElem? (i := 78) (by decide +kernel)
theorem qw_147 : (Cond.code yX7_withLetter cX7_withLetter 3 (some .long) : Cond) ∈ TBL := List.mem_of_getElem? (i := 115) (by decide +kernel)
theorem qw_148 : (Cond.initialized RX7 : Cond) ∈ TBL := List.mem_of_getElem? (i := 53) (by decide +kernel)
theorem qw_149 : (Cond.methodLink RX7 29 yX7_withLetter : Cond) ∈ TBL := List.mem_of_getElem? (i := 113) (by decide +kernel)
theorem qw_150 : (Cond.static yX7_withLetter : Cond) ∈ TBL := List.mem_of_getElem? (i := 114) (by decide +kernel)
theorem qw_151 : (Cond.methodLink RX5 3 objectInit : Cond) ∈ TBL := List.mem_of_getElem? (i := 50) (by decide +kernel)
theorem qw_152 : (Cond.classLink RX5 9 RX7 : Cond) ∈ TBL := List.mem_of_getElem? (i := 51) (by decide +kernel)
theorem qw_153 : (Cond.instantiable RX7 8 : Cond) ∈ TBL := List.mem_of_getElem? (i := 52) (by decide +kernel)
theorem qw_154 : (Cond.code yX7_init cX7_init 3 none : Cond) ∈ TBL := List.mem_of_getElem? (i := 60) (by decide +kernel)
theorem qw_155 : (Cond.instanceMethod yX7_init : Cond) ∈ TBL := List.mem_of_getElem? (i := 59) (by decide +kernel)
theorem qw_156 : (Cond.fieldLink RX5 12 "ClosedUntil$TextReader" "tokens" "LClosedUntil$Tokens;" : Cond) ∈ TBL := List.mem_of_getElem? (i := 54) (by decide +kernel)
theorem qw_157 : (Cond.fieldLink RX5 18 "ClosedUntil$TextReader" "names" "[J" : Cond) ∈ TBL := List.mem_of_getElem? (i := 55) (by decide +kernel)
theorem qw_158 : (Cond.fieldLink RX5 22 "ClosedUntil$TextReader" "nameKinds" "[I" : Cond) ∈ TBL := List.mem_of_getElem? (i := 57) (by decide +kernel)
theorem qw_159 : (Cond.fieldLink RX5 26 "ClosedUntil$TextReader" "nameNumbers" "[I" : Cond) ∈ TBL := List.mem_of_getElem? (i := 58) (by decide +kernel)
theorem qw_160 : (Cond.methodLink RX3 3 objectInit : Cond) ∈ TBL := List.mem_of_getElem? (i := 136) (by decide +kernel)
theorem qw_161 : (Cond.classLink RX3 24 "[[I" : Cond) ∈ TBL := List.mem_of_getElem? (i := 141) (by decide +kernel)
theorem qw_162 : (Cond.fieldLink RX3 26 "ClosedUntil$State" "reviewDay" "[[I" : Cond) ∈ TBL := List.mem_of_getElem? (i := 142) (by decide +kernel)
theorem qw_163 : (Cond.fieldLink RX3 29 "ClosedUntil$State" "reviewYears" "[[I" : Cond) ∈ TBL := List.mem_of_getElem? (i := 143) (by decide +kernel)
theorem qw_164 : (Cond.code yX3_clear cX3_clear 2 none : Cond) ∈ TBL := List.mem_of_getElem? (i := 147) (by decide +kernel)
theorem qw_165 : (Cond.initialized RX3 : Cond) ∈ TBL := List.mem_of_getElem? (i := 32) (by decide +kernel)
theorem qw_166 : (Cond.methodLink RX3 32 yX3_clear : Cond) ∈ TBL := List.mem_of_getElem? (i := 144) (by decide +kernel)
theorem qw_167 : (Cond.instanceMethod yX3_clear : Cond) ∈ TBL := List.mem_of_getElem? (i := 145) (by decide +kernel)
theorem qw_168 : (Cond.selects RX3 yX3_clear yX3_clear : Cond) ∈ TBL := List.mem_of_getElem? (i := 146) (by decide +kernel)
set_option maxHeartbeats 4000000 in
set_option maxRecDepth 100000 in
theorem c_X7i (l : Launch) (dC : Nat → ClassId) (dI : Nat → Nat → Nat) (g : Gv) (sz : Nat) (h0 : Nat)  : Met l yX7_init (.code yX7_init cX7_init 3 none :: TBL) ({ frames := 4, cells := 2, slots := 12, locals := 240 }) (va_Pc [.ref h0] (fun U => U.heap.size = sz ∧ va_P (dC, dI) vwCl [(h0, .inr (6, [.null, .null, .int 0, .int 0, .int 0, .int 0, .long 0, .int 0]))] U.heap ∧ va_K (dC, dI) vwCl [] U ∧ va_D (fun _ => True) [(h0, .inr (6, [.null, .null, .int 0, .int 0, .int 0, .int 0, .long 0, .int 0]))] ∧ Ev g (va_A [(h0, .inr (6, [.null, .null, .int 0, .int 0, .int 0, .int 0, .long 0, .int 0]))] sz) U)) (va_Qv (fun (u : (Nat → Nat)) => True) (fun (u : (Nat → Nat)) (t : State) => va_P (dC, dI) vwCl [(h0, .inr (6, [.ref (u 0), .ref (u 1), .int 0, .int 0, .int 0, .int 0, .long 0, .int 0]))] t.heap ∧ va_K (dC, dI) vwCl [] t ∧ va_D (va_A [(h0, .inr (6, [.null, .null, .int 0, .int 0, .int 0, .int 0, .long 0, .int 0]))] sz) [(h0, .inr (6, [.ref (u 0), .ref (u 1), .int 0, .int 0, .int 0, .int 0, .long 0, .int 0]))]) (va_A [(h0, .inr (6, [.null, .null, .int 0, .int 0, .int 0, .int 0, .long 0, .int 0]))] sz)) 2 12 (va_A [(h0, .inr (6, [.null, .null, .int 0, .int 0, .int 0, .int 0, .long 0, .int 0]))] sz) := by
  refine Met.ofW (cc := cX7_init) (maxL := 3) (ret := none) (by decide) rfl ?_
  intro p e s m args below meth c s₁ B hml hv
  obtain ⟨rfl, hsz, hP, hK, hD0, hE⟩ := hv
  have hx := B.exec
  have hb := B.bytes
  have hr := B.returns
  have hts0 := atoms_spec (ws := (.code yX7_init cX7_init 3 none :: TBL)) B.pre
  have hts := fun (w : Cond) (h : w ∈ TBL) => hts0 w (List.mem_cons_of_mem _ h)
  have hown : s.vm.findClass RX7 = some m.cls := findClass_of_methodNamed B.named
  have hlocks := B.notSynchronized
  have hN := hE.1
  have hin : meth.name = "<init>" := (name_of_methodNamed B.named B.method).1
  subst hsz
  have hD := hD0.self (sz := s.heap.size)
  generalize hAe : va_A [(h0, .inr (6, [.null, .null, .int 0, .int 0, .int 0, .int 0, .long 0, .int 0]))] s.heap.size = A at hD hE ⊢
  have hA : ∀ q : Nat, s.heap.size ≤ q → A q := fun q h => by rw [← hAe]; exact Or.inr h
  have hS : va_S A s.heap s.heap [] := va_S.rf
  have hP : va_P (dC, dI) vwCl [(h0, .inr (6, [.null, .null, .int 0, .int 0, .int 0, .int 0, .long 0, .int 0]))] s.heap := hP
  have hl := lv_entry ([.ref h0]) (n := 3) (Nat.le_of_ble_eq_true rfl)
  rw [lg_entry_eq]
  generalize (lg_sl ([.ref h0]) ++ List.replicate (3 - (lg_sl ([.ref h0])).length) Slot.unset).toArray = ls at hl ⊢
  have hl : lv_has ls 3 [(0, .ref h0)] := hl
  refine lv_aload_n hx hb dX7_init_0 rfl (lv_at hl 0 rfl) ?_
  refine W.objInit hx hb hown (hts (.methodLink RX7 1 objectInit) qw_135) (hts (.instanceMethod objectInit) qw_101) (hts (.code objectInit ⟨#[0xb1]⟩ 1 none) qw_102) rfl (by rw [hml]; exact hl.1) rfl dX7_init_1 (Nat.le_of_ble_eq_true rfl) (Nat.le_of_ble_eq_true rfl) ?_
  refine W.eq (g2 := F0 m 4 ls []) rfl ?_
  refine lv_aload_n hx hb dX7_init_4 rfl (lv_at hl 0 rfl) ?_
  refine lv_bipush (v := 12) hx hb dX7_init_5 (by decide) ?_
  refine va_newa (atype := .long) (ty := .long) (a0 := (12, .inr (.inl (fun _ => 0)))) (N' := 12) hx hb (hts (.arrayClass .long) qw_136) rfl hK hP hD hS hA (fun _ => rfl) (by decide) (by decide) (Nat.le_of_ble_eq_true rfl) (Nat.le_of_ble_eq_true rfl) (Nat.le_of_ble_eq_true rfl) dX7_init_7 (fun q1 cA2 H hK hP hD hS => ?_)
  have hK : va_K (dC, dI) vwCl [(cA2, .long)] s := hK
  have hP : va_P (dC, dI) vwCl [(h0, .inr (6, [.null, .null, .int 0, .int 0, .int 0, .int 0, .long 0, .int 0])), (q1, .inl (cA2, 12, .inr (.inl (fun _ => 0))))] H := hP
  have hD : va_D A [(h0, .inr (6, [.null, .null, .int 0, .int 0, .int 0, .int 0, .long 0, .int 0])), (q1, .inl (cA2, 12, .inr (.inl (fun _ => 0))))] := hD
  refine W.widen (k := 1) (n := 12) (Nat.le_of_ble_eq_true rfl) (Nat.le_of_ble_eq_true rfl) ?_
  refine va_putF (D := (dC, dI)) (ci := 6) (v := .ref q1) (ty := .array .long) (C := RX7) (T := TX7) (N := 8) hx hb hts inlX7 tyX7 tyX7_ok nmX7 hown hK hP hD hS 0 rfl rfl 0 (by decide) (hts (.fieldLink RX7 9 "ClosedUntil$Tokens" "keywords" "[J") qw_137) (fun _ h9 => h9) rfl hin rfl (by decide +kernel) rfl rfl (Nat.le_of_ble_eq_true rfl) dX7_init_9 (fun H locs hP hD hS => ?_)
  have hP : va_P (dC, dI) vwCl [(h0, .inr (6, [.ref q1, .null, .int 0, .int 0, .int 0, .int 0, .long 0, .int 0])), (q1, .inl (cA2, 12, .inr (.inl (fun _ => 0))))] H := hP
  have hD : va_D A [(h0, .inr (6, [.ref q1, .null, .int 0, .int 0, .int 0, .int 0, .long 0, .int 0])), (q1, .inl (cA2, 12, .inr (.inl (fun _ => 0))))] := hD
  refine lv_aload_n hx hb dX7_init_12 rfl (lv_at hl 0 rfl) ?_
  refine lv_iconst (v := 0) hx hb dX7_init_13 (by decide) ?_
  refine va_newa (atype := .byte) (ty := .byte) (a0 := (0, .inl (fun _ => 0))) (N' := 0) hx hb (hts (.arrayClass .byte) qw_103) rfl hK hP hD hS hA (fun _ => rfl) (by decide) (by decide) (Nat.le_of_ble_eq_true rfl) (Nat.le_of_ble_eq_true rfl) (Nat.le_of_ble_eq_true rfl) dX7_init_14 (fun q3 cA4 H hK hP hD hS => ?_)
  have hK : va_K (dC, dI) vwCl [(cA2, .long), (cA4, .byte)] s := hK
  have hP : va_P (dC, dI) vwCl [(h0, .inr (6, [.ref q1, .null, .int 0, .int 0, .int 0, .int 0, .long 0, .int 0])), (q1, .inl (cA2, 12, .inr (.inl (fun _ => 0)))), (q3, .inl (cA4, 0, .inl (fun _ => 0)))] H := hP
  have hD : va_D A [(h0, .inr (6, [.ref q1, .null, .int 0, .int 0, .int 0, .int 0, .long 0, .int 0])), (q1, .inl (cA2, 12, .inr (.inl (fun _ => 0)))), (q3, .inl (cA4, 0, .inl (fun _ => 0)))] := hD
  refine W.widen (k := 2) (n := 12) (Nat.le_of_ble_eq_true rfl) (Nat.le_of_ble_eq_true rfl) ?_
  refine va_put (D := (dC, dI)) (ci := 6) (v := .ref q3) (ty := .array .byte) (C := RX7) (T := TX7) (N := 8) hx hb hts inlX7 tyX7 tyX7_ok nmX7 hown hK hP hD hS 0 rfl rfl 1 (by decide) (hts (.fieldLink RX7 13 "ClosedUntil$Tokens" "bytes" "[B") qw_138) (fun _ h9 => h9) rfl (by decide +kernel) rfl rfl (Nat.le_of_ble_eq_true rfl) dX7_init_16 (fun H locs hP hD hS => ?_)
  have hP : va_P (dC, dI) vwCl [(h0, .inr (6, [.ref q1, .ref q3, .int 0, .int 0, .int 0, .int 0, .long 0, .int 0])), (q1, .inl (cA2, 12, .inr (.inl (fun _ => 0)))), (q3, .inl (cA4, 0, .inl (fun _ => 0)))] H := hP
  have hD : va_D A [(h0, .inr (6, [.ref q1, .ref q3, .int 0, .int 0, .int 0, .int 0, .long 0, .int 0])), (q1, .inl (cA2, 12, .inr (.inl (fun _ => 0)))), (q3, .inl (cA4, 0, .inl (fun _ => 0)))] := hD
  refine lv_iconst (v := 0) hx hb dX7_init_19 (by decide) ?_
  refine lv_istore_n (lv' := [(1, .int 0), (0, .ref h0)]) hx hb dX7_init_20 rfl hl (by decide) rfl (fun ls hl => ?_)
  refine lv_iconst (v := 0) hx hb dX7_init_21 (by decide) ?_
  refine lv_istore_n (lv' := [(2, .int 0), (1, .int 0), (0, .ref h0)]) hx hb dX7_init_22 rfl hl (by decide) rfl (fun ls hl => ?_)
  refine wloop (fun n H locs ls => ∃ (i : Nat) (kk : Nat) (kf : Nat → Int64), n = 68 - i ∧ (i ≤ 68) ∧ (kk ≤ 12) ∧ lv_has ls 3 [(0, .ref h0), (1, .int (nI kk)), (2, .int (nI i))] ∧ va_P (dC, dI) vwCl [(h0, .inr (6, [.ref q1, .ref q3, .int 0, .int 0, .int 0, .int 0, .long 0, .int 0])), (q1, .inl (cA2, 12, .inr (.inl kf)))] H ∧ va_D A [(h0, .inr (6, [.ref q1, .ref q3, .int 0, .int 0, .int 0, .int 0, .long 0, .int 0])), (q1, .inl (cA2, 12, .inr (.inl kf)))] ∧ va_S A s.heap H locs) ?_ (68 - (0)) _ _ _ ⟨0, 0, (fun _ => 0), rfl, (by omega), (by omega), lv_sub hl [2, 1, 0] rfl, hP.sub [0, 1] rfl, hD.sub [0, 1] (by decide) rfl, hS⟩
  intro n H locs ls hI ih
  obtain ⟨i, kk, kf, hn9, i2, k2, hl, hP, hD, hS⟩ := hI
  refine lv_iload_n hx hb dX7_init_23 rfl (lv_at hl 2 rfl) ?_
  refine va_ldcS hx hb hown hE.2.2.2.1 dX7_init_24 ?_
  have hPc := hP.sub (ws' := []) [] rfl
  have hKc := hK.sub (tys' := []) [] rfl
  refine vp_callSi ((va_runV (As := []) (rest := [.int (nI i)]) ⟨hx, hb, hml, hown, hts⟩ (c_len l dC dI g  ) (cwV 0 hts (gwV qw_140 qw_141 qw_142 qw_78 qw_139) rfl rfl rfl (by decide +kernel) ⟨Nat.le_of_ble_eq_true rfl, Nat.le_of_ble_eq_true rfl⟩) ⟨fun a U g9 mk q => ⟨q.1, q.2.1, va_K.moved (u := U) (U := U.calling g9 mk a) (Vm.Alike.refl U.vm) q.2.2.1, Ev.bl q.2.2.2⟩, hE.recv hS, fun U hU hW => ⟨rfl, by rw [hU]; exact hPc, va_K.moved hW.alike hKc, hE.go hS (fun _ h => h.elim) hU hW⟩⟩ rfl rfl hl.1 rfl (lv_room (Nat.le_of_ble_eq_true rfl)) dX7_init_26 ⟨Nat.le_of_ble_eq_true rfl, Nat.le_of_ble_eq_true rfl⟩)).run (fun r5 h_r5 => ?_)
  have h_r5 : r5 = 68 := h_r5
  subst h_r5
  refine lv_icmp_ge (tgt := 82) hx hb dX7_init_29 (by decide) (fun c29_6 => ?_) (fun c29_6 => ?_)
  · have c29_6 : 68 ≤ ((i : Nat) : Int) := (cv_le (by decide) (nI_toInt (by omega))).mp c29_6
    refine W.widen (k := 2) (n := 12) (Nat.le_of_ble_eq_true rfl) (Nat.le_of_ble_eq_true rfl) ?_
    have hP9 := hP.sub (ws' := [(h0, .inr (6, [.ref ((fun k => match k with | 0 => q1 | 1 => q3 | _ => 0) 0), .ref ((fun k => match k with | 0 => q1 | 1 => q3 | _ => 0) 1), .int 0, .int 0, .int 0, .int 0, .long 0, .int 0]))]) [0] rfl
    have hD9 := hD.sub (ws' := [(h0, .inr (6, [.ref ((fun k => match k with | 0 => q1 | 1 => q3 | _ => 0) 0), .ref ((fun k => match k with | 0 => q1 | 1 => q3 | _ => 0) 1), .int 0, .int 0, .int 0, .int 0, .long 0, .int 0]))]) [0] (by decide) rfl
    have hK9 := hK.sub (tys' := []) [] rfl
    exact W.vret hx hb hr (fun t ht hW => ⟨⟨((fun k => match k with | 0 => q1 | 1 => q3 | _ => 0)), rfl, (trivial), by rw [ht]; exact hP9, va_K.moved hW.alike hK9, hD9⟩, hS.F ht⟩) hS.2.2 dX7_init_82
  · have c29_6 : ¬ (68 ≤ ((i : Nat) : Int)) := mt (cv_le (by decide) (nI_toInt (by omega))).mpr c29_6
    refine lv_iload_n hx hb dX7_init_32 rfl (lv_at hl 1 rfl) ?_
    refine lv_bipush (v := 12) hx hb dX7_init_33 (by decide) ?_
    refine lv_icmp_ge (tgt := 82) hx hb dX7_init_35 (by decide) (fun c35_7 => ?_) (fun c35_7 => ?_)
    · have c35_7 : 12 ≤ ((kk : Nat) : Int) := (cv_le (by decide) (nI_toInt (by omega))).mp c35_7
      refine W.widen (k := 2) (n := 12) (Nat.le_of_ble_eq_true rfl) (Nat.le_of_ble_eq_true rfl) ?_
      have hP9 := hP.sub (ws' := [(h0, .inr (6, [.ref ((fun k => match k with | 0 => q1 | 1 => q3 | _ => 0) 0), .ref ((fun k => match k with | 0 => q1 | 1 => q3 | _ => 0) 1), .int 0, .int 0, .int 0, .int 0, .long 0, .int 0]))]) [0] rfl
      have hD9 := hD.sub (ws' := [(h0, .inr (6, [.ref ((fun k => match k with | 0 => q1 | 1 => q3 | _ => 0) 0), .ref ((fun k => match k with | 0 => q1 | 1 => q3 | _ => 0) 1), .int 0, .int 0, .int 0, .int 0, .long 0, .int 0]))]) [0] (by decide) rfl
      have hK9 := hK.sub (tys' := []) [] rfl
      exact W.vret hx hb hr (fun t ht hW => ⟨⟨((fun k => match k with | 0 => q1 | 1 => q3 | _ => 0)), rfl, (trivial), by rw [ht]; exact hP9, va_K.moved hW.alike hK9, hD9⟩, hS.F ht⟩) hS.2.2 dX7_init_82
    · have c35_7 : ¬ (12 ≤ ((kk : Nat) : Int)) := mt (cv_le (by decide) (nI_toInt (by omega))).mpr c35_7
      refine va_ldcS hx hb hown hE.2.2.2.1 dX7_init_38 ?_
      refine lv_iload_n hx hb dX7_init_40 rfl (lv_at hl 2 rfl) ?_
      have hPc := hP.sub (ws' := []) [] rfl
      have hKc := hK.sub (tys' := []) [] rfl
      refine vp_callSi ((va_runV (As := [.int (nI i)]) (rest := []) ⟨hx, hb, hml, hown, hts⟩ (c_ch l dC dI g (i) (by omega)) (cwV 1 hts (gwV qw_144 qw_145 qw_146 qw_78 qw_143) rfl rfl rfl (by decide +kernel) ⟨Nat.le_of_ble_eq_true rfl, Nat.le_of_ble_eq_true rfl⟩) ⟨fun a U g9 mk q => ⟨q.1, q.2.1, va_K.moved (u := U) (U := U.calling g9 mk a) (Vm.Alike.refl U.vm) q.2.2.1, Ev.bl q.2.2.2⟩, hE.recv hS, fun U hU hW => ⟨rfl, by rw [hU]; exact hPc, va_K.moved hW.alike hKc, hE.go hS (fun _ h => h.elim) hU hW⟩⟩ rfl rfl hl.1 rfl (lv_room (Nat.le_of_ble_eq_true rfl)) dX7_init_41 ⟨Nat.le_of_ble_eq_true rfl, Nat.le_of_ble_eq_true rfl⟩)).run (fun r8 h_r8 => ?_)
      refine lv_bipush (v := 32) hx hb dX7_init_44 (by decide) ?_
      refine lv_icmp_ne (tgt := 55) hx hb dX7_init_46 (by decide) (fun c46_9 => ?_) (fun c46_9 => ?_)
      · have c46_9 : ¬ (r8.toInt = 32) := mt (cv_eq rfl (by decide)).mpr c46_9
        refine lv_aload_n hx hb dX7_init_55 rfl (lv_at hl 0 rfl) ?_
        refine va_get (D := (dC, dI)) (ci := 6) (v := .ref q1) (C := RX7) (T := TX7) (N := 8) hx hb hts inlX7 hown hK hP 0 rfl rfl 0 (by decide) (hts (.fieldLink RX7 9 "ClosedUntil$Tokens" "keywords" "[J") qw_137) (fun _ h9 => h9) rfl dX7_init_56 ?_
        refine lv_iload_n hx hb dX7_init_59 rfl (lv_at hl 1 rfl) ?_
        refine lv_aload_n hx hb dX7_init_60 rfl (lv_at hl 0 rfl) ?_
        refine va_get (D := (dC, dI)) (ci := 6) (v := .ref q1) (C := RX7) (T := TX7) (N := 8) hx hb hts inlX7 hown hK hP 0 rfl rfl 0 (by decide) (hts (.fieldLink RX7 9 "ClosedUntil$Tokens" "keywords" "[J") qw_137) (fun _ h9 => h9) rfl dX7_init_61 ?_
        refine lv_iload_n hx hb dX7_init_64 rfl (lv_at hl 1 rfl) ?_
        refine va_lald hx hb hK hP 1 0 rfl rfl (vp_in_nI (by omega) (by omega)) dX7_init_65 ?_
        refine lv_topl (fun x10 e_x10 => ?_)
        refine va_ldcS hx hb hown hE.2.2.2.1 dX7_init_66 ?_
        refine lv_iload_n hx hb dX7_init_68 rfl (lv_at hl 2 rfl) ?_
        have hPc := hP.sub (ws' := []) [] rfl
        have hKc := hK.sub (tys' := []) [] rfl
        refine vp_callSi ((va_runV (As := [.int (nI i)]) (rest := [.long x10, .int (nI kk), .ref q1]) ⟨hx, hb, hml, hown, hts⟩ (c_ch l dC dI g (i) (by omega)) (cwV 1 hts (gwV qw_144 qw_145 qw_146 qw_78 qw_143) rfl rfl rfl (by decide +kernel) ⟨Nat.le_of_ble_eq_true rfl, Nat.le_of_ble_eq_true rfl⟩) ⟨fun a U g9 mk q => ⟨q.1, q.2.1, va_K.moved (u := U) (U := U.calling g9 mk a) (Vm.Alike.refl U.vm) q.2.2.1, Ev.bl q.2.2.2⟩, hE.recv hS, fun U hU hW => ⟨rfl, by rw [hU]; exact hPc, va_K.moved hW.alike hKc, hE.go hS (fun _ h => h.elim) hU hW⟩⟩ rfl rfl hl.1 rfl (lv_room (Nat.le_of_ble_eq_true rfl)) dX7_init_69 ⟨Nat.le_of_ble_eq_true rfl, Nat.le_of_ble_eq_true rfl⟩)).run (fun r11 h_r11 => ?_)
        have hPc := hP.sub (ws' := []) [] rfl
        have hKc := hK.sub (tys' := []) [] rfl
        refine vp_callSl ((va_runS (As := [.long x10, .int r11]) (rest := [.int (nI kk), .ref q1]) ⟨hx, hb, hml, hown, hts⟩ (c_wl l dC dI g (x10) (r11) ) (va_cwS 2 hts (gwS qw_149 qw_150 qw_148 qw_147) rfl rfl rfl (by decide +kernel) ⟨Nat.le_of_ble_eq_true rfl, Nat.le_of_ble_eq_true rfl⟩) ⟨fun a U g9 mk q => ⟨q.1, q.2.1, va_K.moved (u := U) (U := U.calling g9 mk a) (Vm.Alike.refl U.vm) q.2.2.1, Ev.bl q.2.2.2⟩, fun U hU hW => ⟨rfl, by rw [hU]; exact hPc, va_K.moved hW.alike hKc, hE.go hS (fun _ h => h.elim) hU hW⟩⟩ rfl rfl hl.1 rfl (lv_room (Nat.le_of_ble_eq_true rfl)) dX7_init_72 ⟨Nat.le_of_ble_eq_true rfl, Nat.le_of_ble_eq_true rfl⟩)).run (fun r12 h_r12 => ?_)
        refine va_last hx hb hK hP hD hS 1 0 rfl rfl (vp_in_nI (by omega) (by omega)) dX7_init_75 (fun H locs hP hD hS => ?_)
        have hP : va_P (dC, dI) vwCl [(h0, .inr (6, [.ref q1, .ref q3, .int 0, .int 0, .int 0, .int 0, .long 0, .int 0])), (q1, .inl (cA2, 12, .inr (.inl (vp_updL kf (nI kk).toNatClampNeg r12))))] H := hP
        have hD : va_D A [(h0, .inr (6, [.ref q1, .ref q3, .int 0, .int 0, .int 0, .int 0, .long 0, .int 0])), (q1, .inl (cA2, 12, .inr (.inl (vp_updL kf (nI kk).toNatClampNeg r12))))] := hD
        refine lv_iinc (v := (nI (i + 1))) (lv' := [(2, .int (nI (i + 1))), (0, .ref h0), (1, .int (nI kk))]) hx hb dX7_init_76 hl (k := 2) rfl (nI_add (i) 1) (by decide) rfl (fun ls hl => ?_)
        refine lv_goto (tgt := 23) hx hb dX7_init_79 (by decide) ?_
        exact ih (68 - (i + 1)) _ _ _ (by omega) ⟨i + 1, kk, (vp_updL kf (nI kk).toNatClampNeg r12), rfl, (by omega), (by omega), lv_sub hl [1, 2, 0] rfl, hP.sub [0, 1] rfl, hD.sub [0, 1] (by decide) rfl, hS⟩
      · have c46_9 : r8.toInt = 32 := (cv_eq rfl (by decide)).mp c46_9
        refine lv_iinc (v := (nI (kk + 1))) (lv' := [(1, .int (nI (kk + 1))), (0, .ref h0), (2, .int (nI i))]) hx hb dX7_init_49 hl (k := 1) rfl (nI_add (kk) 1) (by decide) rfl (fun ls hl => ?_)
        refine lv_goto (tgt := 76) hx hb dX7_init_52 (by decide) ?_
        refine lv_iinc (v := (nI (i + 1))) (lv' := [(2, .int (nI (i + 1))), (1, .int (nI (kk + 1))), (0, .ref h0)]) hx hb dX7_init_76 hl (k := 2) rfl (nI_add (i) 1) (by decide) rfl (fun ls hl => ?_)
        refine lv_goto (tgt := 23) hx hb dX7_init_79 (by decide) ?_
        exact ih (68 - (i + 1)) _ _ _ (by omega) ⟨i + 1, kk + 1, kf, rfl, (by omega), (by omega), lv_sub hl [2, 1, 0] rfl, hP.sub [0, 1] rfl, hD.sub [0, 1] (by decide) rfl, hS⟩
set_option maxHeartbeats 4000000 in
set_option maxRecDepth 100000 in
theorem c_X5i (l : Launch) (dC : Nat → ClassId) (dI : Nat → Nat → Nat) (g : Gv) (sz : Nat) (h0 : Nat)  : Met l yX5_init (.code yX5_init cX5_init 1 none :: TBL) ({ frames := 5, cells := 6, slots := 128, locals := 300 }) (va_Pc [.ref h0] (fun U => U.heap.size = sz ∧ va_P (dC, dI) vwCl [(h0, .inr (4, [.null, .null, .null, .null, .int 0, .int 0]))] U.heap ∧ va_K (dC, dI) vwCl [] U ∧ va_D (fun _ => True) [(h0, .inr (4, [.null, .null, .null, .null, .int 0, .int 0]))] ∧ Ev g (va_A [(h0, .inr (4, [.null, .null, .null, .null, .int 0, .int 0]))] sz) U)) (va_Qv (fun (u : (Nat → Nat) × (Nat → Nat)) => True) (fun (u : (Nat → Nat) × (Nat → Nat)) (t : State) => va_P (dC, dI) vwCl [(h0, .inr (4, [.ref (u.1 0), .ref (u.1 1), .ref (u.1 2), .ref (u.1 3), .int 0, .int 0])), ((u.1 0), .inr (6, [.ref (u.2 0), .ref (u.2 1), .int 0, .int 0, .int 0, .int 0, .long 0, .int 0]))] t.heap ∧ va_K (dC, dI) vwCl [] t ∧ va_D (va_A [(h0, .inr (4, [.null, .null, .null, .null, .int 0, .int 0]))] sz) [(h0, .inr (4, [.ref (u.1 0), .ref (u.1 1), .ref (u.1 2), .ref (u.1 3), .int 0, .int 0])), ((u.1 0), .inr (6, [.ref (u.2 0), .ref (u.2 1), .int 0, .int 0, .int 0, .int 0, .long 0, .int 0]))]) (va_A [(h0, .inr (4, [.null, .null, .null, .null, .int 0, .int 0]))] sz)) 6 128 (va_A [(h0, .inr (4, [.null, .null, .null, .null, .int 0, .int 0]))] sz) := by
  refine Met.ofW (cc := cX5_init) (maxL := 1) (ret := none) (by decide) rfl ?_
  intro p e s m args below meth c s₁ B hml hv
  obtain ⟨rfl, hsz, hP, hK, hD0, hE⟩ := hv
  have hx := B.exec
  have hb := B.bytes
  have hr := B.returns
  have hts0 := atoms_spec (ws := (.code yX5_init cX5_init 1 none :: TBL)) B.pre
  have hts := fun (w : Cond) (h : w ∈ TBL) => hts0 w (List.mem_cons_of_mem _ h)
  have hown : s.vm.findClass RX5 = some m.cls := findClass_of_methodNamed B.named
  have hlocks := B.notSynchronized
  have hN := hE.1
  have hin : meth.name = "<init>" := (name_of_methodNamed B.named B.method).1
  subst hsz
  have hD := hD0.self (sz := s.heap.size)
  generalize hAe : va_A [(h0, .inr (4, [.null, .null, .null, .null, .int 0, .int 0]))] s.heap.size = A at hD hE ⊢
  have hA : ∀ q : Nat, s.heap.size ≤ q → A q := fun q h => by rw [← hAe]; exact Or.inr h
  have hS : va_S A s.heap s.heap [] := va_S.rf
  have hP : va_P (dC, dI) vwCl [(h0, .inr (4, [.null, .null, .null, .null, .int 0, .int 0]))] s.heap := hP
  have hl := lv_entry ([.ref h0]) (n := 1) (Nat.le_of_ble_eq_true rfl)
  rw [lg_entry_eq]
  generalize (lg_sl ([.ref h0]) ++ List.replicate (1 - (lg_sl ([.ref h0])).length) Slot.unset).toArray = ls at hl ⊢
  have hl : lv_has ls 1 [(0, .ref h0)] := hl
  refine lv_aload_n hx hb dX5_init_0 rfl (lv_at hl 0 rfl) ?_
  refine W.objInit hx hb hown (hts (.methodLink RX5 3 objectInit) qw_151) (hts (.instanceMethod objectInit) qw_101) (hts (.code objectInit ⟨#[0xb1]⟩ 1 none) qw_102) rfl (by rw [hml]; exact hl.1) rfl dX5_init_1 (Nat.le_of_ble_eq_true rfl) (Nat.le_of_ble_eq_true rfl) ?_
  refine W.eq (g2 := F0 m 4 ls []) rfl ?_
  refine lv_aload_n hx hb dX5_init_4 rfl (lv_at hl 0 rfl) ?_
  refine va_new (ci := 6) (fs := [.null, .null, .int 0, .int 0, .int 0, .int 0, .long 0, .int 0]) (C := RX7) (T := TX7) (N := 8) hx hb hts inlX7 tyX7 tyX7_ok hown (hts (.classLink RX5 9 RX7) qw_152) (hts (.instantiable RX7 8) qw_153) (hts (.initialized RX7) qw_148) hK hP hD hS hA rfl dv_X7 (Nat.le_of_ble_eq_true rfl) (Nat.le_of_ble_eq_true rfl) dX5_init_5 (fun q1 H hP hD hS => ?_)
  have hP : va_P (dC, dI) vwCl [(h0, .inr (4, [.null, .null, .null, .null, .int 0, .int 0])), (q1, .inr (6, [.null, .null, .int 0, .int 0, .int 0, .int 0, .long 0, .int 0]))] H := hP
  have hD : va_D A [(h0, .inr (4, [.null, .null, .null, .null, .int 0, .int 0])), (q1, .inr (6, [.null, .null, .int 0, .int 0, .int 0, .int 0, .long 0, .int 0]))] := hD
  refine W.widen (k := 1) (n := 8) (Nat.le_of_ble_eq_true rfl) (Nat.le_of_ble_eq_true rfl) ?_
  refine lv_dup hx hb dX5_init_8 rfl ?_
  have hPc := hP.sub (ws' := [(q1, .inr (6, [.null, .null, .int 0, .int 0, .int 0, .int 0, .long 0, .int 0]))]) [1] rfl
  have hKc := hK.sub (tys' := []) [] rfl
  have hDc := hD.sub (ws' := [(q1, .inr (6, [.null, .null, .int 0, .int 0, .int 0, .int 0, .long 0, .int 0]))]) [1] (by decide) rfl
  have hFc := va_free (wc := [(q1, .inr (6, [.null, .null, .int 0, .int 0, .int 0, .int 0, .long 0, .int 0]))]) hD hS hA [1] rfl
  refine va_callv (va_runIN (As := []) (rest := [.ref q1, .ref h0]) ⟨hx, hb, hml, hown, hts⟩ (c_X7i l dC dI g H.size (q1) ) ⟨va_cnB 0 hts (gwC qw_154) rfl rfl rfl (nm_2 hN) (hts (.initialized RX7) qw_148) (by decide +kernel) ⟨Nat.le_of_ble_eq_true rfl, Nat.le_of_ble_eq_true rfl⟩, rfl, (hts (.instanceMethod yX7_init) qw_155)⟩ ⟨fun a U g9 mk q => ⟨q.1, q.2.1, q.2.2.1, va_K.moved (u := U) (U := U.calling g9 mk a) (Vm.Alike.refl U.vm) q.2.2.2.1, q.2.2.2.2.1, Ev.bl q.2.2.2.2.2⟩, fun U hU hW => ⟨rfl, by rw [hU], by rw [hU]; exact hPc, va_K.moved hW.alike hKc, hDc.weaken (fun _ _ _ _ => trivial), hE.go hS hFc hU hW⟩⟩ rfl rfl hl.1 rfl (lv_room (Nat.le_of_ble_eq_true rfl)) dX5_init_9 ⟨Nat.le_of_ble_eq_true rfl, Nat.le_of_ble_eq_true rfl⟩) hS (fun q _ h => hFc q h) hFc (fun u2 t H1 locs ht hvm h_u2 hB hz1 hk1 hS => ?_)
  obtain ⟨f7_4, rfl⟩ : ∃ z, z = u2 := ⟨_, rfl⟩
  obtain ⟨hP1, hK1, hD1⟩ := hB
  rw [ht] at hP1
  have hK1 := va_K.moved hvm.symm hK1
  obtain ⟨hP, hD⟩ := va_join (wr := [(h0, .inr (4, [.null, .null, .null, .null, .int 0, .int 0]))]) (w1 := [(q1, .inr (6, [.ref (f7_4 0), .ref (f7_4 1), .int 0, .int 0, .int 0, .int 0, .long 0, .int 0]))]) hP hD [1] [0] rfl rfl (by decide) (by decide) hk1 hFc hP1 hD1
  have hK := hK.app hK1
  have hK : va_K (dC, dI) vwCl [] s := hK
  generalize H1 = H at hP hS ⊢
  have hP : va_P (dC, dI) vwCl [(h0, .inr (4, [.null, .null, .null, .null, .int 0, .int 0])), (q1, .inr (6, [.ref (f7_4 0), .ref (f7_4 1), .int 0, .int 0, .int 0, .int 0, .long 0, .int 0]))] H := hP
  have hD : va_D A [(h0, .inr (4, [.null, .null, .null, .null, .int 0, .int 0])), (q1, .inr (6, [.ref (f7_4 0), .ref (f7_4 1), .int 0, .int 0, .int 0, .int 0, .long 0, .int 0]))] := hD
  refine W.widen (k := 3) (n := 20) (Nat.le_of_ble_eq_true rfl) (Nat.le_of_ble_eq_true rfl) ?_
  refine va_putF (D := (dC, dI)) (ci := 4) (v := .ref q1) (ty := .object "ClosedUntil$Tokens") (C := RX5) (T := TX5) (N := 6) hx hb hts inlX5 tyX5 tyX5_ok nmX5 hown hK hP hD hS 0 rfl rfl 0 (by decide) (hts (.fieldLink RX5 12 "ClosedUntil$TextReader" "tokens" "LClosedUntil$Tokens;") qw_156) (fun _ h9 => h9) rfl hin rfl (by decide +kernel) rfl rfl (Nat.le_of_ble_eq_true rfl) dX5_init_12 (fun H locs hP hD hS => ?_)
  have hP : va_P (dC, dI) vwCl [(h0, .inr (4, [.ref q1, .null, .null, .null, .int 0, .int 0])), (q1, .inr (6, [.ref (f7_4 0), .ref (f7_4 1), .int 0, .int 0, .int 0, .int 0, .long 0, .int 0]))] H := hP
  have hD : va_D A [(h0, .inr (4, [.ref q1, .null, .null, .null, .int 0, .int 0])), (q1, .inr (6, [.ref (f7_4 0), .ref (f7_4 1), .int 0, .int 0, .int 0, .int 0, .long 0, .int 0]))] := hD
  refine lv_aload_n hx hb dX5_init_15 rfl (lv_at hl 0 rfl) ?_
  refine lv_bipush (v := 36) hx hb dX5_init_16 (by decide) ?_
  refine va_newa (atype := .long) (ty := .long) (a0 := (36, .inr (.inl (fun _ => 0)))) (N' := 36) hx hb (hts (.arrayClass .long) qw_136) rfl hK hP hD hS hA (fun _ => rfl) (by decide) (by decide) (Nat.le_of_ble_eq_true rfl) (Nat.le_of_ble_eq_true rfl) (Nat.le_of_ble_eq_true rfl) dX5_init_18 (fun q5 cA6 H hK hP hD hS => ?_)
  have hK : va_K (dC, dI) vwCl [(cA6, .long)] s := hK
  have hP : va_P (dC, dI) vwCl [(h0, .inr (4, [.ref q1, .null, .null, .null, .int 0, .int 0])), (q1, .inr (6, [.ref (f7_4 0), .ref (f7_4 1), .int 0, .int 0, .int 0, .int 0, .long 0, .int 0])), (q5, .inl (cA6, 36, .inr (.inl (fun _ => 0))))] H := hP
  have hD : va_D A [(h0, .inr (4, [.ref q1, .null, .null, .null, .int 0, .int 0])), (q1, .inr (6, [.ref (f7_4 0), .ref (f7_4 1), .int 0, .int 0, .int 0, .int 0, .long 0, .int 0])), (q5, .inl (cA6, 36, .inr (.inl (fun _ => 0))))] := hD
  refine W.widen (k := 4) (n := 56) (Nat.le_of_ble_eq_true rfl) (Nat.le_of_ble_eq_true rfl) ?_
  refine va_putF (D := (dC, dI)) (ci := 4) (v := .ref q5) (ty := .array .long) (C := RX5) (T := TX5) (N := 6) hx hb hts inlX5 tyX5 tyX5_ok nmX5 hown hK hP hD hS 0 rfl rfl 1 (by decide) (hts (.fieldLink RX5 18 "ClosedUntil$TextReader" "names" "[J") qw_157) (fun _ h9 => h9) rfl hin rfl (by decide +kernel) rfl rfl (Nat.le_of_ble_eq_true rfl) dX5_init_20 (fun H locs hP hD hS => ?_)
  have hP : va_P (dC, dI) vwCl [(h0, .inr (4, [.ref q1, .ref q5, .null, .null, .int 0, .int 0])), (q1, .inr (6, [.ref (f7_4 0), .ref (f7_4 1), .int 0, .int 0, .int 0, .int 0, .long 0, .int 0])), (q5, .inl (cA6, 36, .inr (.inl (fun _ => 0))))] H := hP
  have hD : va_D A [(h0, .inr (4, [.ref q1, .ref q5, .null, .null, .int 0, .int 0])), (q1, .inr (6, [.ref (f7_4 0), .ref (f7_4 1), .int 0, .int 0, .int 0, .int 0, .long 0, .int 0])), (q5, .inl (cA6, 36, .inr (.inl (fun _ => 0))))] := hD
  refine lv_aload_n hx hb dX5_init_23 rfl (lv_at hl 0 rfl) ?_
  refine lv_bipush (v := 36) hx hb dX5_init_24 (by decide) ?_
  refine va_newa (atype := .int) (ty := .int) (a0 := (36, .inl (fun _ => 0))) (N' := 36) hx hb (hts (.arrayClass .int) qw_106) rfl hK hP hD hS hA (fun _ => rfl) (by decide) (by decide) (Nat.le_of_ble_eq_true rfl) (Nat.le_of_ble_eq_true rfl) (Nat.le_of_ble_eq_true rfl) dX5_init_26 (fun q7 cA8 H hK hP hD hS => ?_)
  have hK : va_K (dC, dI) vwCl [(cA6, .long), (cA8, .int)] s := hK
  have hP : va_P (dC, dI) vwCl [(h0, .inr (4, [.ref q1, .ref q5, .null, .null, .int 0, .int 0])), (q1, .inr (6, [.ref (f7_4 0), .ref (f7_4 1), .int 0, .int 0, .int 0, .int 0, .long 0, .int 0])), (q5, .inl (cA6, 36, .inr (.inl (fun _ => 0)))), (q7, .inl (cA8, 36, .inl (fun _ => 0)))] H := hP
  have hD : va_D A [(h0, .inr (4, [.ref q1, .ref q5, .null, .null, .int 0, .int 0])), (q1, .inr (6, [.ref (f7_4 0), .ref (f7_4 1), .int 0, .int 0, .int 0, .int 0, .long 0, .int 0])), (q5, .inl (cA6, 36, .inr (.inl (fun _ => 0)))), (q7, .inl (cA8, 36, .inl (fun _ => 0)))] := hD
  refine W.widen (k := 5) (n := 92) (Nat.le_of_ble_eq_true rfl) (Nat.le_of_ble_eq_true rfl) ?_
  refine va_putF (D := (dC, dI)) (ci := 4) (v := .ref q7) (ty := .array .int) (C := RX5) (T := TX5) (N := 6) hx hb hts inlX5 tyX5 tyX5_ok nmX5 hown hK hP hD hS 0 rfl rfl 2 (by decide) (hts (.fieldLink RX5 22 "ClosedUntil$TextReader" "nameKinds" "[I") qw_158) (fun _ h9 => h9) rfl hin rfl (by decide +kernel) rfl rfl (Nat.le_of_ble_eq_true rfl) dX5_init_28 (fun H locs hP hD hS => ?_)
  have hP : va_P (dC, dI) vwCl [(h0, .inr (4, [.ref q1, .ref q5, .ref q7, .null, .int 0, .int 0])), (q1, .inr (6, [.ref (f7_4 0), .ref (f7_4 1), .int 0, .int 0, .int 0, .int 0, .long 0, .int 0])), (q5, .inl (cA6, 36, .inr (.inl (fun _ => 0)))), (q7, .inl (cA8, 36, .inl (fun _ => 0)))] H := hP
  have hD : va_D A [(h0, .inr (4, [.ref q1, .ref q5, .ref q7, .null, .int 0, .int 0])), (q1, .inr (6, [.ref (f7_4 0), .ref (f7_4 1), .int 0, .int 0, .int 0, .int 0, .long 0, .int 0])), (q5, .inl (cA6, 36, .inr (.inl (fun _ => 0)))), (q7, .inl (cA8, 36, .inl (fun _ => 0)))] := hD
  refine lv_aload_n hx hb dX5_init_31 rfl (lv_at hl 0 rfl) ?_
  refine lv_bipush (v := 36) hx hb dX5_init_32 (by decide) ?_
  refine va_newa (atype := .int) (ty := .int) (a0 := (36, .inl (fun _ => 0))) (N' := 36) hx hb (hts (.arrayClass .int) qw_106) rfl hK hP hD hS hA (fun _ => rfl) (by decide) (by decide) (Nat.le_of_ble_eq_true rfl) (Nat.le_of_ble_eq_true rfl) (Nat.le_of_ble_eq_true rfl) dX5_init_34 (fun q9 cA10 H hK hP hD hS => ?_)
  have hK : va_K (dC, dI) vwCl [(cA6, .long), (cA8, .int), (cA10, .int)] s := hK
  have hP : va_P (dC, dI) vwCl [(h0, .inr (4, [.ref q1, .ref q5, .ref q7, .null, .int 0, .int 0])), (q1, .inr (6, [.ref (f7_4 0), .ref (f7_4 1), .int 0, .int 0, .int 0, .int 0, .long 0, .int 0])), (q5, .inl (cA6, 36, .inr (.inl (fun _ => 0)))), (q7, .inl (cA8, 36, .inl (fun _ => 0))), (q9, .inl (cA10, 36, .inl (fun _ => 0)))] H := hP
  have hD : va_D A [(h0, .inr (4, [.ref q1, .ref q5, .ref q7, .null, .int 0, .int 0])), (q1, .inr (6, [.ref (f7_4 0), .ref (f7_4 1), .int 0, .int 0, .int 0, .int 0, .long 0, .int 0])), (q5, .inl (cA6, 36, .inr (.inl (fun _ => 0)))), (q7, .inl (cA8, 36, .inl (fun _ => 0))), (q9, .inl (cA10, 36, .inl (fun _ => 0)))] := hD
  refine W.widen (k := 6) (n := 128) (Nat.le_of_ble_eq_true rfl) (Nat.le_of_ble_eq_true rfl) ?_
  refine va_putF (D := (dC, dI)) (ci := 4) (v := .ref q9) (ty := .array .int) (C := RX5) (T := TX5) (N := 6) hx hb hts inlX5 tyX5 tyX5_ok nmX5 hown hK hP hD hS 0 rfl rfl 3 (by decide) (hts (.fieldLink RX5 26 "ClosedUntil$TextReader" "nameNumbers" "[I") qw_159) (fun _ h9 => h9) rfl hin rfl (by decide +kernel) rfl rfl (Nat.le_of_ble_eq_true rfl) dX5_init_36 (fun H locs hP hD hS => ?_)
  have hP : va_P (dC, dI) vwCl [(h0, .inr (4, [.ref q1, .ref q5, .ref q7, .ref q9, .int 0, .int 0])), (q1, .inr (6, [.ref (f7_4 0), .ref (f7_4 1), .int 0, .int 0, .int 0, .int 0, .long 0, .int 0])), (q5, .inl (cA6, 36, .inr (.inl (fun _ => 0)))), (q7, .inl (cA8, 36, .inl (fun _ => 0))), (q9, .inl (cA10, 36, .inl (fun _ => 0)))] H := hP
  have hD : va_D A [(h0, .inr (4, [.ref q1, .ref q5, .ref q7, .ref q9, .int 0, .int 0])), (q1, .inr (6, [.ref (f7_4 0), .ref (f7_4 1), .int 0, .int 0, .int 0, .int 0, .long 0, .int 0])), (q5, .inl (cA6, 36, .inr (.inl (fun _ => 0)))), (q7, .inl (cA8, 36, .inl (fun _ => 0))), (q9, .inl (cA10, 36, .inl (fun _ => 0)))] := hD
  refine W.widen (k := 6) (n := 128) (Nat.le_of_ble_eq_true rfl) (Nat.le_of_ble_eq_true rfl) ?_
  have hP9 := hP.sub (ws' := [(h0, .inr (4, [.ref ((fun k => match k with | 0 => q1 | 1 => q5 | 2 => q7 | 3 => q9 | _ => 0) 0), .ref ((fun k => match k with | 0 => q1 | 1 => q5 | 2 => q7 | 3 => q9 | _ => 0) 1), .ref ((fun k => match k with | 0 => q1 | 1 => q5 | 2 => q7 | 3 => q9 | _ => 0) 2), .ref ((fun k => match k with | 0 => q1 | 1 => q5 | 2 => q7 | 3 => q9 | _ => 0) 3), .int 0, .int 0])), (((fun k => match k with | 0 => q1 | 1 => q5 | 2 => q7 | 3 => q9 | _ => 0) 0), .inr (6, [.ref ((fun k => match k with | 0 => (f7_4 0) | 1 => (f7_4 1) | _ => 0) 0), .ref ((fun k => match k with | 0 => (f7_4 0) | 1 => (f7_4 1) | _ => 0) 1), .int 0, .int 0, .int 0, .int 0, .long 0, .int 0]))]) [0, 1] rfl
  have hD9 := hD.sub (ws' := [(h0, .inr (4, [.ref ((fun k => match k with | 0 => q1 | 1 => q5 | 2 => q7 | 3 => q9 | _ => 0) 0), .ref ((fun k => match k with | 0 => q1 | 1 => q5 | 2 => q7 | 3 => q9 | _ => 0) 1), .ref ((fun k => match k with | 0 => q1 | 1 => q5 | 2 => q7 | 3 => q9 | _ => 0) 2), .ref ((fun k => match k with | 0 => q1 | 1 => q5 | 2 => q7 | 3 => q9 | _ => 0) 3), .int 0, .int 0])), (((fun k => match k with | 0 => q1 | 1 => q5 | 2 => q7 | 3 => q9 | _ => 0) 0), .inr (6, [.ref ((fun k => match k with | 0 => (f7_4 0) | 1 => (f7_4 1) | _ => 0) 0), .ref ((fun k => match k with | 0 => (f7_4 0) | 1 => (f7_4 1) | _ => 0) 1), .int 0, .int 0, .int 0, .int 0, .long 0, .int 0]))]) [0, 1] (by decide) rfl
  have hK9 := hK.sub (tys' := []) [] rfl
  exact W.vret hx hb hr (fun t ht hW => ⟨⟨((fun k => match k with | 0 => q1 | 1 => q5 | 2 => q7 | 3 => q9 | _ => 0), (fun k => match k with | 0 => (f7_4 0) | 1 => (f7_4 1) | _ => 0)), rfl, (trivial), by rw [ht]; exact hP9, va_K.moved hW.alike hK9, hD9⟩, hS.F ht⟩) hS.2.2 dX5_init_39
set_option maxHeartbeats 4000000 in
set_option maxRecDepth 100000 in
theorem c_X3i (l : Launch) (dC : Nat → ClassId) (dI : Nat → Nat → Nat) (g : Gv) (sz : Nat) (h0 : Nat)  : Met l yX3_init (.code yX3_init cX3_init 1 none :: TBL) ({ frames := 2, cells := 30, slots := 200, locals := 120 }) (va_Pc [.ref h0] (fun U => U.heap.size = sz ∧ va_P (dC, dI) vwCl [(h0, .inr (2, [.null, .null, .null, .null, .null, .null]))] U.heap ∧ va_K (dC, dI) vwCl [] U ∧ va_D (fun _ => True) [(h0, .inr (2, [.null, .null, .null, .null, .null, .null]))] ∧ Ev g (va_A [(h0, .inr (2, [.null, .null, .null, .null, .null, .null]))] sz) U)) (va_Qv (fun (u : (Nat → Nat) × (Nat → ClassId) × (Nat → Int32) × (Nat → Int32) × (Nat → Int32) × (Nat → Int32) × (Nat → Option Nat) × (Nat → Option Nat) × (va_W)) => (∀ j, j < 12 → u.2.2.2.2.1 j = -1) ∧ (∀ j, j < 12 → u.2.2.2.2.2.1 j = 0) ∧ rowsOk g.2.2.2.2 5 u.2.2.2.2.2.2.2.2 ∧ gridOk 12 u.2.2.2.2.2.2.1 u.2.2.2.2.2.2.2.2 ∧ gridOk 12 u.2.2.2.2.2.2.2.1 u.2.2.2.2.2.2.2.2) (fun (u : (Nat → Nat) × (Nat → ClassId) × (Nat → Int32) × (Nat → Int32) × (Nat → Int32) × (Nat → Int32) × (Nat → Option Nat) × (Nat → Option Nat) × (va_W)) (t : State) => va_P (dC, dI) vwCl ([(h0, .inr (2, [.ref (u.1 0), .ref (u.1 1), .ref (u.1 2), .ref (u.1 3), .ref (u.1 4), .ref (u.1 5)])), ((u.1 0), .inl ((u.2.1 0), 24, .inl u.2.2.1)), ((u.1 1), .inl ((u.2.1 1), 8, .inl u.2.2.2.1)), ((u.1 2), .inl ((u.2.1 2), 12, .inl u.2.2.2.2.1)), ((u.1 3), .inl ((u.2.1 3), 12, .inl u.2.2.2.2.2.1)), ((u.1 4), .inl ((u.2.1 4), 12, .inr (.inr (.inr (.inr u.2.2.2.2.2.2.1))))), ((u.1 5), .inl ((u.2.1 5), 12, .inr (.inr (.inr (.inr u.2.2.2.2.2.2.2.1)))))] ++ u.2.2.2.2.2.2.2.2) t.heap ∧ va_K (dC, dI) vwCl [((u.2.1 0), .int), ((u.2.1 1), .int), ((u.2.1 2), .int), ((u.2.1 3), .int), ((u.2.1 4), .array .int), ((u.2.1 5), .array .int)] t ∧ va_D (va_A [(h0, .inr (2, [.null, .null, .null, .null, .null, .null]))] sz) ([(h0, .inr (2, [.ref (u.1 0), .ref (u.1 1), .ref (u.1 2), .ref (u.1 3), .ref (u.1 4), .ref (u.1 5)])), ((u.1 0), .inl ((u.2.1 0), 24, .inl u.2.2.1)), ((u.1 1), .inl ((u.2.1 1), 8, .inl u.2.2.2.1)), ((u.1 2), .inl ((u.2.1 2), 12, .inl u.2.2.2.2.1)), ((u.1 3), .inl ((u.2.1 3), 12, .inl u.2.2.2.2.2.1)), ((u.1 4), .inl ((u.2.1 4), 12, .inr (.inr (.inr (.inr u.2.2.2.2.2.2.1))))), ((u.1 5), .inl ((u.2.1 5), 12, .inr (.inr (.inr (.inr u.2.2.2.2.2.2.2.1)))))] ++ u.2.2.2.2.2.2.2.2)) (va_A [(h0, .inr (2, [.null, .null, .null, .null, .null, .null]))] sz)) 30 200 (va_A [(h0, .inr (2, [.null, .null, .null, .null, .null, .null]))] sz) := by
  refine Met.ofW (cc := cX3_init) (maxL := 1) (ret := none) (by decide) rfl ?_
  intro p e s m args below meth c s₁ B hml hv
  obtain ⟨rfl, hsz, hP, hK, hD0, hE⟩ := hv
  have hx := B.exec
  have hb := B.bytes
  have hr := B.returns
  have hts0 := atoms_spec (ws := (.code yX3_init cX3_init 1 none :: TBL)) B.pre
  have hts := fun (w : Cond) (h : w ∈ TBL) => hts0 w (List.mem_cons_of_mem _ h)
  have hown : s.vm.findClass RX3 = some m.cls := findClass_of_methodNamed B.named
  have hlocks := B.notSynchronized
  have hN := hE.1
  have hin : meth.name = "<init>" := (name_of_methodNamed B.named B.method).1
  subst hsz
  have hD := hD0.self (sz := s.heap.size)
  generalize hAe : va_A [(h0, .inr (2, [.null, .null, .null, .null, .null, .null]))] s.heap.size = A at hD hE ⊢
  have hA : ∀ q : Nat, s.heap.size ≤ q → A q := fun q h => by rw [← hAe]; exact Or.inr h
  have hS : va_S A s.heap s.heap [] := va_S.rf
  have hP : va_P (dC, dI) vwCl [(h0, .inr (2, [.null, .null, .null, .null, .null, .null]))] s.heap := hP
  have hl := lv_entry ([.ref h0]) (n := 1) (Nat.le_of_ble_eq_true rfl)
  rw [lg_entry_eq]
  generalize (lg_sl ([.ref h0]) ++ List.replicate (1 - (lg_sl ([.ref h0])).length) Slot.unset).toArray = ls at hl ⊢
  have hl : lv_has ls 1 [(0, .ref h0)] := hl
  refine lv_aload_n hx hb dX3_init_0 rfl (lv_at hl 0 rfl) ?_
  refine W.objInit hx hb hown (hts (.methodLink RX3 3 objectInit) qw_160) (hts (.instanceMethod objectInit) qw_101) (hts (.code objectInit ⟨#[0xb1]⟩ 1 none) qw_102) rfl (by rw [hml]; exact hl.1) rfl dX3_init_1 (Nat.le_of_ble_eq_true rfl) (Nat.le_of_ble_eq_true rfl) ?_
  refine W.eq (g2 := F0 m 4 ls []) rfl ?_
  refine lv_aload_n hx hb dX3_init_4 rfl (lv_at hl 0 rfl) ?_
  refine lv_bipush (v := 24) hx hb dX3_init_5 (by decide) ?_
  refine va_newa (atype := .int) (ty := .int) (a0 := (24, .inl (fun _ => 0))) (N' := 24) hx hb (hts (.arrayClass .int) qw_106) rfl hK hP hD hS hA (fun _ => rfl) (by decide) (by decide) (Nat.le_of_ble_eq_true rfl) (Nat.le_of_ble_eq_true rfl) (Nat.le_of_ble_eq_true rfl) dX3_init_7 (fun q1 cA2 H hK hP hD hS => ?_)
  have hK : va_K (dC, dI) vwCl [(cA2, .int)] s := hK
  have hP : va_P (dC, dI) vwCl [(h0, .inr (2, [.null, .null, .null, .null, .null, .null])), (q1, .inl (cA2, 24, .inl (fun _ => 0)))] H := hP
  have hD : va_D A [(h0, .inr (2, [.null, .null, .null, .null, .null, .null])), (q1, .inl (cA2, 24, .inl (fun _ => 0)))] := hD
  refine W.widen (k := 1) (n := 24) (Nat.le_of_ble_eq_true rfl) (Nat.le_of_ble_eq_true rfl) ?_
  refine va_putF (D := (dC, dI)) (ci := 2) (v := .ref q1) (ty := .array .int) (C := RX3) (T := TX3) (N := 6) hx hb hts inlX3 tyX3 tyX3_ok nmX3 hown hK hP hD hS 0 rfl rfl 0 (by decide) (hts (.fieldLink RX3 9 "ClosedUntil$State" "parent" "[I") qw_134) (fun _ h9 => h9) rfl hin rfl (by decide +kernel) rfl rfl (Nat.le_of_ble_eq_true rfl) dX3_init_9 (fun H locs hP hD hS => ?_)
  have hP : va_P (dC, dI) vwCl [(h0, .inr (2, [.ref q1, .null, .null, .null, .null, .null])), (q1, .inl (cA2, 24, .inl (fun _ => 0)))] H := hP
  have hD : va_D A [(h0, .inr (2, [.ref q1, .null, .null, .null, .null, .null])), (q1, .inl (cA2, 24, .inl (fun _ => 0)))] := hD
  refine lv_aload_n hx hb dX3_init_12 rfl (lv_at hl 0 rfl) ?_
  refine lv_bipush (v := 8) hx hb dX3_init_13 (by decide) ?_
  refine va_newa (atype := .int) (ty := .int) (a0 := (8, .inl (fun _ => 0))) (N' := 8) hx hb (hts (.arrayClass .int) qw_106) rfl hK hP hD hS hA (fun _ => rfl) (by decide) (by decide) (Nat.le_of_ble_eq_true rfl) (Nat.le_of_ble_eq_true rfl) (Nat.le_of_ble_eq_true rfl) dX3_init_15 (fun q3 cA4 H hK hP hD hS => ?_)
  have hK : va_K (dC, dI) vwCl [(cA2, .int), (cA4, .int)] s := hK
  have hP : va_P (dC, dI) vwCl [(h0, .inr (2, [.ref q1, .null, .null, .null, .null, .null])), (q1, .inl (cA2, 24, .inl (fun _ => 0))), (q3, .inl (cA4, 8, .inl (fun _ => 0)))] H := hP
  have hD : va_D A [(h0, .inr (2, [.ref q1, .null, .null, .null, .null, .null])), (q1, .inl (cA2, 24, .inl (fun _ => 0))), (q3, .inl (cA4, 8, .inl (fun _ => 0)))] := hD
  refine W.widen (k := 2) (n := 32) (Nat.le_of_ble_eq_true rfl) (Nat.le_of_ble_eq_true rfl) ?_
  refine va_putF (D := (dC, dI)) (ci := 2) (v := .ref q3) (ty := .array .int) (C := RX3) (T := TX3) (N := 6) hx hb hts inlX3 tyX3 tyX3_ok nmX3 hown hK hP hD hS 0 rfl rfl 1 (by decide) (hts (.fieldLink RX3 15 "ClosedUntil$State" "death" "[I") qw_133) (fun _ h9 => h9) rfl hin rfl (by decide +kernel) rfl rfl (Nat.le_of_ble_eq_true rfl) dX3_init_17 (fun H locs hP hD hS => ?_)
  have hP : va_P (dC, dI) vwCl [(h0, .inr (2, [.ref q1, .ref q3, .null, .null, .null, .null])), (q1, .inl (cA2, 24, .inl (fun _ => 0))), (q3, .inl (cA4, 8, .inl (fun _ => 0)))] H := hP
  have hD : va_D A [(h0, .inr (2, [.ref q1, .ref q3, .null, .null, .null, .null])), (q1, .inl (cA2, 24, .inl (fun _ => 0))), (q3, .inl (cA4, 8, .inl (fun _ => 0)))] := hD
  refine lv_aload_n hx hb dX3_init_20 rfl (lv_at hl 0 rfl) ?_
  refine lv_bipush (v := 12) hx hb dX3_init_21 (by decide) ?_
  refine va_newa (atype := .int) (ty := .int) (a0 := (12, .inl (fun _ => 0))) (N' := 12) hx hb (hts (.arrayClass .int) qw_106) rfl hK hP hD hS hA (fun _ => rfl) (by decide) (by decide) (Nat.le_of_ble_eq_true rfl) (Nat.le_of_ble_eq_true rfl) (Nat.le_of_ble_eq_true rfl) dX3_init_23 (fun q5 cA6 H hK hP hD hS => ?_)
  have hK : va_K (dC, dI) vwCl [(cA2, .int), (cA4, .int), (cA6, .int)] s := hK
  have hP : va_P (dC, dI) vwCl [(h0, .inr (2, [.ref q1, .ref q3, .null, .null, .null, .null])), (q1, .inl (cA2, 24, .inl (fun _ => 0))), (q3, .inl (cA4, 8, .inl (fun _ => 0))), (q5, .inl (cA6, 12, .inl (fun _ => 0)))] H := hP
  have hD : va_D A [(h0, .inr (2, [.ref q1, .ref q3, .null, .null, .null, .null])), (q1, .inl (cA2, 24, .inl (fun _ => 0))), (q3, .inl (cA4, 8, .inl (fun _ => 0))), (q5, .inl (cA6, 12, .inl (fun _ => 0)))] := hD
  refine W.widen (k := 3) (n := 44) (Nat.le_of_ble_eq_true rfl) (Nat.le_of_ble_eq_true rfl) ?_
  refine va_putF (D := (dC, dI)) (ci := 2) (v := .ref q5) (ty := .array .int) (C := RX3) (T := TX3) (N := 6) hx hb hts inlX3 tyX3 tyX3_ok nmX3 hown hK hP hD hS 0 rfl rfl 2 (by decide) (hts (.fieldLink RX3 18 "ClosedUntil$State" "lifted" "[I") qw_131) (fun _ h9 => h9) rfl hin rfl (by decide +kernel) rfl rfl (Nat.le_of_ble_eq_true rfl) dX3_init_25 (fun H locs hP hD hS => ?_)
  have hP : va_P (dC, dI) vwCl [(h0, .inr (2, [.ref q1, .ref q3, .ref q5, .null, .null, .null])), (q1, .inl (cA2, 24, .inl (fun _ => 0))), (q3, .inl (cA4, 8, .inl (fun _ => 0))), (q5, .inl (cA6, 12, .inl (fun _ => 0)))] H := hP
  have hD : va_D A [(h0, .inr (2, [.ref q1, .ref q3, .ref q5, .null, .null, .null])), (q1, .inl (cA2, 24, .inl (fun _ => 0))), (q3, .inl (cA4, 8, .inl (fun _ => 0))), (q5, .inl (cA6, 12, .inl (fun _ => 0)))] := hD
  refine lv_aload_n hx hb dX3_init_28 rfl (lv_at hl 0 rfl) ?_
  refine lv_bipush (v := 12) hx hb dX3_init_29 (by decide) ?_
  refine va_newa (atype := .int) (ty := .int) (a0 := (12, .inl (fun _ => 0))) (N' := 12) hx hb (hts (.arrayClass .int) qw_106) rfl hK hP hD hS hA (fun _ => rfl) (by decide) (by decide) (Nat.le_of_ble_eq_true rfl) (Nat.le_of_ble_eq_true rfl) (Nat.le_of_ble_eq_true rfl) dX3_init_31 (fun q7 cA8 H hK hP hD hS => ?_)
  have hK : va_K (dC, dI) vwCl [(cA2, .int), (cA4, .int), (cA6, .int), (cA8, .int)] s := hK
  have hP : va_P (dC, dI) vwCl [(h0, .inr (2, [.ref q1, .ref q3, .ref q5, .null, .null, .null])), (q1, .inl (cA2, 24, .inl (fun _ => 0))), (q3, .inl (cA4, 8, .inl (fun _ => 0))), (q5, .inl (cA6, 12, .inl (fun _ => 0))), (q7, .inl (cA8, 12, .inl (fun _ => 0)))] H := hP
  have hD : va_D A [(h0, .inr (2, [.ref q1, .ref q3, .ref q5, .null, .null, .null])), (q1, .inl (cA2, 24, .inl (fun _ => 0))), (q3, .inl (cA4, 8, .inl (fun _ => 0))), (q5, .inl (cA6, 12, .inl (fun _ => 0))), (q7, .inl (cA8, 12, .inl (fun _ => 0)))] := hD
  refine W.widen (k := 4) (n := 56) (Nat.le_of_ble_eq_true rfl) (Nat.le_of_ble_eq_true rfl) ?_
  refine va_putF (D := (dC, dI)) (ci := 2) (v := .ref q7) (ty := .array .int) (C := RX3) (T := TX3) (N := 6) hx hb hts inlX3 tyX3 tyX3_ok nmX3 hown hK hP hD hS 0 rfl rfl 3 (by decide) (hts (.fieldLink RX3 21 "ClosedUntil$State" "reviews" "[I") qw_132) (fun _ h9 => h9) rfl hin rfl (by decide +kernel) rfl rfl (Nat.le_of_ble_eq_true rfl) dX3_init_33 (fun H locs hP hD hS => ?_)
  have hP : va_P (dC, dI) vwCl [(h0, .inr (2, [.ref q1, .ref q3, .ref q5, .ref q7, .null, .null])), (q1, .inl (cA2, 24, .inl (fun _ => 0))), (q3, .inl (cA4, 8, .inl (fun _ => 0))), (q5, .inl (cA6, 12, .inl (fun _ => 0))), (q7, .inl (cA8, 12, .inl (fun _ => 0)))] H := hP
  have hD : va_D A [(h0, .inr (2, [.ref q1, .ref q3, .ref q5, .ref q7, .null, .null])), (q1, .inl (cA2, 24, .inl (fun _ => 0))), (q3, .inl (cA4, 8, .inl (fun _ => 0))), (q5, .inl (cA6, 12, .inl (fun _ => 0))), (q7, .inl (cA8, 12, .inl (fun _ => 0)))] := hD
  refine lv_aload_n hx hb dX3_init_36 rfl (lv_at hl 0 rfl) ?_
  refine lv_bipush (v := 12) hx hb dX3_init_37 (by decide) ?_
  refine lv_iconst (v := 5) hx hb dX3_init_39 (by decide) ?_
  refine mna (cy := g.2.2.2.2) (N' := 12) (K' := 5) hx hb hown (hts (.classLink RX3 24 "[[I") qw_161) hE.2.2.2.2.2.2.2.2.2.2.1 (hts (.arrayClass .int) qw_106) hE.2.2.2.2.2.2.2.2.2.2.2.2 hK hP hD hS hA (by decide) (by decide) (by decide) (by decide) (Nat.le_of_ble_eq_true rfl) (Nat.le_of_ble_eq_true rfl) (Nat.le_of_ble_eq_true rfl) (Nat.le_of_ble_eq_true rfl) dX3_init_40 (fun q9 gf10 rw11 cA12 H hro13 hgr14 hK hP hD hS => ?_)
  have hK : va_K (dC, dI) vwCl [(cA2, .int), (cA4, .int), (cA6, .int), (cA8, .int), (cA12, .array .int)] s := hK
  have hP : va_P (dC, dI) vwCl ([(h0, .inr (2, [.ref q1, .ref q3, .ref q5, .ref q7, .null, .null])), (q1, .inl (cA2, 24, .inl (fun _ => 0))), (q3, .inl (cA4, 8, .inl (fun _ => 0))), (q5, .inl (cA6, 12, .inl (fun _ => 0))), (q7, .inl (cA8, 12, .inl (fun _ => 0))), (q9, .inl (cA12, 12, .inr (.inr (.inr (.inr gf10)))))] ++ rw11) H := hP
  have hD : va_D A ([(h0, .inr (2, [.ref q1, .ref q3, .ref q5, .ref q7, .null, .null])), (q1, .inl (cA2, 24, .inl (fun _ => 0))), (q3, .inl (cA4, 8, .inl (fun _ => 0))), (q5, .inl (cA6, 12, .inl (fun _ => 0))), (q7, .inl (cA8, 12, .inl (fun _ => 0))), (q9, .inl (cA12, 12, .inr (.inr (.inr (.inr gf10)))))] ++ rw11) := hD
  refine W.widen (k := 17) (n := 128) (Nat.le_of_ble_eq_true rfl) (Nat.le_of_ble_eq_true rfl) ?_
  refine va_putF (D := (dC, dI)) (ci := 2) (v := .ref q9) (ty := .array (.array .int)) (C := RX3) (T := TX3) (N := 6) hx hb hts inlX3 tyX3 tyX3_ok nmX3 hown hK hP hD hS 0 rfl rfl 4 (by decide) (hts (.fieldLink RX3 26 "ClosedUntil$State" "reviewDay" "[[I") qw_162) (fun _ h9 => h9) rfl hin rfl (by decide +kernel) rfl rfl (Nat.le_of_ble_eq_true rfl) dX3_init_44 (fun H locs hP hD hS => ?_)
  have hP : va_P (dC, dI) vwCl ([(h0, .inr (2, [.ref q1, .ref q3, .ref q5, .ref q7, .ref q9, .null])), (q1, .inl (cA2, 24, .inl (fun _ => 0))), (q3, .inl (cA4, 8, .inl (fun _ => 0))), (q5, .inl (cA6, 12, .inl (fun _ => 0))), (q7, .inl (cA8, 12, .inl (fun _ => 0))), (q9, .inl (cA12, 12, .inr (.inr (.inr (.inr gf10)))))] ++ rw11) H := hP
  have hD : va_D A ([(h0, .inr (2, [.ref q1, .ref q3, .ref q5, .ref q7, .ref q9, .null])), (q1, .inl (cA2, 24, .inl (fun _ => 0))), (q3, .inl (cA4, 8, .inl (fun _ => 0))), (q5, .inl (cA6, 12, .inl (fun _ => 0))), (q7, .inl (cA8, 12, .inl (fun _ => 0))), (q9, .inl (cA12, 12, .inr (.inr (.inr (.inr gf10)))))] ++ rw11) := hD
  refine lv_aload_n hx hb dX3_init_47 rfl (lv_at hl 0 rfl) ?_
  refine lv_bipush (v := 12) hx hb dX3_init_48 (by decide) ?_
  refine lv_iconst (v := 5) hx hb dX3_init_50 (by decide) ?_
  refine mna (cy := g.2.2.2.2) (N' := 12) (K' := 5) hx hb hown (hts (.classLink RX3 24 "[[I") qw_161) hE.2.2.2.2.2.2.2.2.2.2.1 (hts (.arrayClass .int) qw_106) hE.2.2.2.2.2.2.2.2.2.2.2.2 hK hP hD hS hA (by decide) (by decide) (by decide) (by decide) (Nat.le_of_ble_eq_true rfl) (Nat.le_of_ble_eq_true rfl) (Nat.le_of_ble_eq_true rfl) (Nat.le_of_ble_eq_true rfl) dX3_init_51 (fun q15 gf16 rw17 cA18 H hro19 hgr20 hK hP hD hS => ?_)
  have hP := vr2P hP
  have hD := vr2D hD
  have hK : va_K (dC, dI) vwCl [(cA2, .int), (cA4, .int), (cA6, .int), (cA8, .int), (cA12, .array .int), (cA18, .array .int)] s := hK
  have hP : va_P (dC, dI) vwCl ([(h0, .inr (2, [.ref q1, .ref q3, .ref q5, .ref q7, .ref q9, .null])), (q1, .inl (cA2, 24, .inl (fun _ => 0))), (q3, .inl (cA4, 8, .inl (fun _ => 0))), (q5, .inl (cA6, 12, .inl (fun _ => 0))), (q7, .inl (cA8, 12, .inl (fun _ => 0))), (q9, .inl (cA12, 12, .inr (.inr (.inr (.inr gf10))))), (q15, .inl (cA18, 12, .inr (.inr (.inr (.inr gf16)))))] ++ (rw11 ++ rw17)) H := hP
  have hD : va_D A ([(h0, .inr (2, [.ref q1, .ref q3, .ref q5, .ref q7, .ref q9, .null])), (q1, .inl (cA2, 24, .inl (fun _ => 0))), (q3, .inl (cA4, 8, .inl (fun _ => 0))), (q5, .inl (cA6, 12, .inl (fun _ => 0))), (q7, .inl (cA8, 12, .inl (fun _ => 0))), (q9, .inl (cA12, 12, .inr (.inr (.inr (.inr gf10))))), (q15, .inl (cA18, 12, .inr (.inr (.inr (.inr gf16)))))] ++ (rw11 ++ rw17)) := hD
  refine W.widen (k := 30) (n := 200) (Nat.le_of_ble_eq_true rfl) (Nat.le_of_ble_eq_true rfl) ?_
  refine va_putF (D := (dC, dI)) (ci := 2) (v := .ref q15) (ty := .array (.array .int)) (C := RX3) (T := TX3) (N := 6) hx hb hts inlX3 tyX3 tyX3_ok nmX3 hown hK hP hD hS 0 rfl rfl 5 (by decide) (hts (.fieldLink RX3 29 "ClosedUntil$State" "reviewYears" "[[I") qw_163) (fun _ h9 => h9) rfl hin rfl (by decide +kernel) rfl rfl (Nat.le_of_ble_eq_true rfl) dX3_init_55 (fun H locs hP hD hS => ?_)
  have hP : va_P (dC, dI) vwCl ([(h0, .inr (2, [.ref q1, .ref q3, .ref q5, .ref q7, .ref q9, .ref q15])), (q1, .inl (cA2, 24, .inl (fun _ => 0))), (q3, .inl (cA4, 8, .inl (fun _ => 0))), (q5, .inl (cA6, 12, .inl (fun _ => 0))), (q7, .inl (cA8, 12, .inl (fun _ => 0))), (q9, .inl (cA12, 12, .inr (.inr (.inr (.inr gf10))))), (q15, .inl (cA18, 12, .inr (.inr (.inr (.inr gf16)))))] ++ (rw11 ++ rw17)) H := hP
  have hD : va_D A ([(h0, .inr (2, [.ref q1, .ref q3, .ref q5, .ref q7, .ref q9, .ref q15])), (q1, .inl (cA2, 24, .inl (fun _ => 0))), (q3, .inl (cA4, 8, .inl (fun _ => 0))), (q5, .inl (cA6, 12, .inl (fun _ => 0))), (q7, .inl (cA8, 12, .inl (fun _ => 0))), (q9, .inl (cA12, 12, .inr (.inr (.inr (.inr gf10))))), (q15, .inl (cA18, 12, .inr (.inr (.inr (.inr gf16)))))] ++ (rw11 ++ rw17)) := hD
  refine lv_aload_n hx hb dX3_init_58 rfl (lv_at hl 0 rfl) ?_
  obtain ⟨f9, hf9⟩ : ∃ f9 : Nat → Nat, f9 = (fun k => match k with | 0 => q1 | 1 => q3 | 2 => q5 | 3 => q7 | 4 => q9 | 5 => q15 | _ => 0) := ⟨_, rfl⟩
  obtain ⟨c9, hc9⟩ : ∃ c9 : Nat → ClassId, c9 = (fun k => match k with | 0 => cA2 | 1 => cA4 | 2 => cA6 | 3 => cA8 | 4 => cA12 | 5 => cA18 | _ => 0) := ⟨_, rfl⟩
  have ea0 : q1 = f9 0 := congrFun hf9.symm 0
  have ea1 : q3 = f9 1 := congrFun hf9.symm 1
  have ea2 : q5 = f9 2 := congrFun hf9.symm 2
  have ea3 : q7 = f9 3 := congrFun hf9.symm 3
  have ea4 : q9 = f9 4 := congrFun hf9.symm 4
  have ea5 : q15 = f9 5 := congrFun hf9.symm 5
  have ec0 : cA2 = c9 0 := congrFun hc9.symm 0
  have ec1 : cA4 = c9 1 := congrFun hc9.symm 1
  have ec2 : cA6 = c9 2 := congrFun hc9.symm 2
  have ec3 : cA8 = c9 3 := congrFun hc9.symm 3
  have ec4 : cA12 = c9 4 := congrFun hc9.symm 4
  have ec5 : cA18 = c9 5 := congrFun hc9.symm 5
  clear hf9 hc9
  subst ea0
  subst ec0
  subst ea1
  subst ec1
  subst ea2
  subst ec2
  subst ea3
  subst ec3
  subst ea4
  subst ec4
  subst ea5
  subst ec5
  have hP : va_P (dC, dI) vwCl ([(h0, .inr (2, [.ref (f9 0), .ref (f9 1), .ref (f9 2), .ref (f9 3), .ref (f9 4), .ref (f9 5)])), ((f9 0), .inl ((c9 0), 24, .inl (fun _ => 0))), ((f9 1), .inl ((c9 1), 8, .inl (fun _ => 0))), ((f9 2), .inl ((c9 2), 12, .inl (fun _ => 0))), ((f9 3), .inl ((c9 3), 12, .inl (fun _ => 0))), ((f9 4), .inl ((c9 4), 12, .inr (.inr (.inr (.inr gf10))))), ((f9 5), .inl ((c9 5), 12, .inr (.inr (.inr (.inr gf16)))))] ++ (rw11 ++ rw17)) H := hP
  have hD : va_D A ([(h0, .inr (2, [.ref (f9 0), .ref (f9 1), .ref (f9 2), .ref (f9 3), .ref (f9 4), .ref (f9 5)])), ((f9 0), .inl ((c9 0), 24, .inl (fun _ => 0))), ((f9 1), .inl ((c9 1), 8, .inl (fun _ => 0))), ((f9 2), .inl ((c9 2), 12, .inl (fun _ => 0))), ((f9 3), .inl ((c9 3), 12, .inl (fun _ => 0))), ((f9 4), .inl ((c9 4), 12, .inr (.inr (.inr (.inr gf10))))), ((f9 5), .inl ((c9 5), 12, .inr (.inr (.inr (.inr gf16)))))] ++ (rw11 ++ rw17)) := hD
  have hK : va_K (dC, dI) vwCl [((c9 0), .int), ((c9 1), .int), ((c9 2), .int), ((c9 3), .int), ((c9 4), .array .int), ((c9 5), .array .int)] s := hK
  have hPc := hP.sub (ws' := [(h0, .inr (2, [.ref (f9 0), .ref (f9 1), .ref (f9 2), .ref (f9 3), .ref (f9 4), .ref (f9 5)])), ((f9 0), .inl ((c9 0), 24, .inl (fun _ => 0))), ((f9 1), .inl ((c9 1), 8, .inl (fun _ => 0))), ((f9 2), .inl ((c9 2), 12, .inl (fun _ => 0))), ((f9 3), .inl ((c9 3), 12, .inl (fun _ => 0)))]) [0, 1, 2, 3, 4] rfl
  have hKc := hK.sub (tys' := [((c9 0), .int), ((c9 1), .int), ((c9 2), .int), ((c9 3), .int)]) [0, 1, 2, 3] rfl
  have hDc := hD.sub (ws' := [(h0, .inr (2, [.ref (f9 0), .ref (f9 1), .ref (f9 2), .ref (f9 3), .ref (f9 4), .ref (f9 5)])), ((f9 0), .inl ((c9 0), 24, .inl (fun _ => 0))), ((f9 1), .inl ((c9 1), 8, .inl (fun _ => 0))), ((f9 2), .inl ((c9 2), 12, .inl (fun _ => 0))), ((f9 3), .inl ((c9 3), 12, .inl (fun _ => 0)))]) [0, 1, 2, 3, 4] (by decide) rfl
  have hFc := va_free (wc := [(h0, .inr (2, [.ref (f9 0), .ref (f9 1), .ref (f9 2), .ref (f9 3), .ref (f9 4), .ref (f9 5)])), ((f9 0), .inl ((c9 0), 24, .inl (fun _ => 0))), ((f9 1), .inl ((c9 1), 8, .inl (fun _ => 0))), ((f9 2), .inl ((c9 2), 12, .inl (fun _ => 0))), ((f9 3), .inl ((c9 3), 12, .inl (fun _ => 0)))]) hD hS hA [0, 1, 2, 3, 4] rfl
  refine va_callv (va_runV (As := []) (rest := []) ⟨hx, hb, hml, hown, hts⟩ (c_clr l dC dI g H.size (h0) (f9) (c9) ((fun _ => 0)) ((fun _ => 0)) ((fun _ => 0)) ((fun _ => 0)) ) (cwV 0 hts (gwV qw_166 qw_167 qw_168 qw_165 qw_164) rfl rfl rfl (by decide +kernel) ⟨Nat.le_of_ble_eq_true rfl, Nat.le_of_ble_eq_true rfl⟩) ⟨fun a U g9 mk q => ⟨q.1, q.2.1, q.2.2.1, va_K.moved (u := U) (U := U.calling g9 mk a) (Vm.Alike.refl U.vm) q.2.2.2.1, q.2.2.2.2.1, Ev.bl q.2.2.2.2.2⟩, va_recv hK hP (ci := 2) (q0 := 0) rfl rfl, fun U hU hW => ⟨rfl, by rw [hU], by rw [hU]; exact hPc, va_K.moved hW.alike hKc, hDc.weaken (fun _ _ _ _ => trivial), hE.go hS hFc hU hW⟩⟩ rfl rfl hl.1 rfl (lv_room (Nat.le_of_ble_eq_true rfl)) dX3_init_59 ⟨Nat.le_of_ble_eq_true rfl, Nat.le_of_ble_eq_true rfl⟩) hS (fun q _ h => hFc q h) hFc (fun u21 t H1 locs ht hvm h_u21 hB hz1 hk1 hS => ?_)
  obtain ⟨pf1_23, df1_24, lf1_25, rf1_26⟩ := u21
  obtain ⟨hP1, hK1, hD1⟩ := hB
  rw [ht] at hP1
  have hK1 := va_K.moved hvm.symm hK1
  obtain ⟨hP, hD⟩ := va_joinQ (wr := [((f9 4), .inl ((c9 4), 12, .inr (.inr (.inr (.inr gf10))))), ((f9 5), .inl ((c9 5), 12, .inr (.inr (.inr (.inr gf16)))))]) (w1 := [(h0, .inr (2, [.ref (f9 0), .ref (f9 1), .ref (f9 2), .ref (f9 3), .ref (f9 4), .ref (f9 5)])), ((f9 0), .inl ((c9 0), 24, .inl pf1_23)), ((f9 1), .inl ((c9 1), 8, .inl df1_24)), ((f9 2), .inl ((c9 2), 12, .inl lf1_25)), ((f9 3), .inl ((c9 3), 12, .inl rf1_26))]) hP hD [0, 1, 2, 3, 4] [5, 6] rfl rfl (by decide) (by decide) hk1 hFc hP1 hD1
  have hK := hK.app hK1
  have hK : va_K (dC, dI) vwCl [((c9 0), .int), ((c9 1), .int), ((c9 2), .int), ((c9 3), .int), ((c9 4), .array .int), ((c9 5), .array .int)] s := hK
  generalize H1 = H at hP hS ⊢
  have hP : va_P (dC, dI) vwCl ([((f9 4), .inl ((c9 4), 12, .inr (.inr (.inr (.inr gf10))))), ((f9 5), .inl ((c9 5), 12, .inr (.inr (.inr (.inr gf16))))), (h0, .inr (2, [.ref (f9 0), .ref (f9 1), .ref (f9 2), .ref (f9 3), .ref (f9 4), .ref (f9 5)])), ((f9 0), .inl ((c9 0), 24, .inl pf1_23)), ((f9 1), .inl ((c9 1), 8, .inl df1_24)), ((f9 2), .inl ((c9 2), 12, .inl lf1_25)), ((f9 3), .inl ((c9 3), 12, .inl rf1_26))] ++ (rw11 ++ rw17)) H := hP
  have hD : va_D A ([((f9 4), .inl ((c9 4), 12, .inr (.inr (.inr (.inr gf10))))), ((f9 5), .inl ((c9 5), 12, .inr (.inr (.inr (.inr gf16))))), (h0, .inr (2, [.ref (f9 0), .ref (f9 1), .ref (f9 2), .ref (f9 3), .ref (f9 4), .ref (f9 5)])), ((f9 0), .inl ((c9 0), 24, .inl pf1_23)), ((f9 1), .inl ((c9 1), 8, .inl df1_24)), ((f9 2), .inl ((c9 2), 12, .inl lf1_25)), ((f9 3), .inl ((c9 3), 12, .inl rf1_26))] ++ (rw11 ++ rw17)) := hD
  refine W.widen (k := 30) (n := 200) (Nat.le_of_ble_eq_true rfl) (Nat.le_of_ble_eq_true rfl) ?_
  obtain ⟨hlf9, hrf9⟩ := h_u21
  refine W.widen (k := 30) (n := 200) (Nat.le_of_ble_eq_true rfl) (Nat.le_of_ble_eq_true rfl) ?_
  have hP9 := hP.part (cx := [(h0, .inr (2, [.ref (f9 0), .ref (f9 1), .ref (f9 2), .ref (f9 3), .ref (f9 4), .ref (f9 5)])), ((f9 0), .inl ((c9 0), 24, .inl pf1_23)), ((f9 1), .inl ((c9 1), 8, .inl df1_24)), ((f9 2), .inl ((c9 2), 12, .inl lf1_25)), ((f9 3), .inl ((c9 3), 12, .inl rf1_26)), ((f9 4), .inl ((c9 4), 12, .inr (.inr (.inr (.inr gf10))))), ((f9 5), .inl ((c9 5), 12, .inr (.inr (.inr (.inr gf16)))))]) [2, 3, 4, 5, 6, 0, 1] rfl
  have hD9 := hD.part (cx := [(h0, .inr (2, [.ref (f9 0), .ref (f9 1), .ref (f9 2), .ref (f9 3), .ref (f9 4), .ref (f9 5)])), ((f9 0), .inl ((c9 0), 24, .inl pf1_23)), ((f9 1), .inl ((c9 1), 8, .inl df1_24)), ((f9 2), .inl ((c9 2), 12, .inl lf1_25)), ((f9 3), .inl ((c9 3), 12, .inl rf1_26)), ((f9 4), .inl ((c9 4), 12, .inr (.inr (.inr (.inr gf10))))), ((f9 5), .inl ((c9 5), 12, .inr (.inr (.inr (.inr gf16)))))]) [2, 3, 4, 5, 6, 0, 1] (by decide) rfl
  have hK9 := hK.sub (tys' := [((c9 0), .int), ((c9 1), .int), ((c9 2), .int), ((c9 3), .int), ((c9 4), .array .int), ((c9 5), .array .int)]) [0, 1, 2, 3, 4, 5] rfl
  exact W.vret hx hb hr (fun t ht hW => ⟨⟨(f9, c9, pf1_23, df1_24, lf1_25, rf1_26, gf10, gf16, (rw11 ++ rw17)), rfl, (⟨hlf9, hrf9, hro13.app hro19, hgr14.left _, hgr20.right _⟩), by rw [ht]; exact hP9, va_K.moved hW.alike hK9, hD9⟩, hS.F ht⟩) hS.2.2 dX3_init_62
