theorem gwCW {big : List Cond} {y : MethodName} {cc : ByteArray} {n : Nat} {r : Option FieldType} {hh : List (Nat × Nat × Nat × Nat)} (hm : (Cond.codeWith y cc n r hh) ∈ TBL) (hb : ∀ w ∈ TBL, w ∈ big := by exact fun _ h => h) : GoodIn big (.codeWith y cc n r hh :: TBL) := by
  intro w hw
  have h : w ∈ TBL := (List.mem_cons.mp hw).elim (fun e => e ▸ hm) (fun h => h)
  exact ⟨hb w h, good_of_word (List.all_eq_true.mp TBg w h)⟩
theorem gwSW {big : List Cond} {own : String} {idx : Nat} {y : MethodName} {cc : ByteArray} {n : Nat} {r : Option FieldType} {hh : List (Nat × Nat × Nat × Nat)} (h1 : (Cond.methodLink own idx y) ∈ TBL) (h2 : (Cond.static y) ∈ TBL) (h3 : (Cond.initialized y.cls) ∈ TBL) (hm : (Cond.codeWith y cc n r hh) ∈ TBL) (hb : ∀ w ∈ TBL, w ∈ big := by exact fun _ h => h) : GoodIn big (va_wsS own idx y (.codeWith y cc n r hh :: TBL)) :=
  gwX (gwCW hm hb) (fun w q => by
    rcases List.mem_cons.mp q with rfl | q
    · exact h1
    rcases List.mem_cons.mp q with rfl | q
    · exact h2
    rcases List.mem_cons.mp q with rfl | q
    · exact h3
    · exact absurd q List.not_mem_nil) hb
theorem ex_cast : Cond.castable nseN nseN ∈ exL := by decide +kernel
theorem dX8_sooner_0 : decode cX8_sooner 0 = .ok (.aload_n 0, 1) := by decide +kernel
theorem dX8_sooner_1 : decode cX8_sooner 1 = .ok (.getfield 51, 3) := by decide +kernel
theorem dX8_sooner_4 : decode cX8_sooner 4 = .ok (.iload_n 1, 1) := by decide +kernel
theorem dX8_sooner_5 : decode cX8_sooner 5 = .ok (.invokevirtual 163, 3) := by decide +kernel
theorem dX8_sooner_8 : decode cX8_sooner 8 = .ok (.ifCond .eq 21, 3) := by decide +kernel
theorem dX8_sooner_11 : decode cX8_sooner 11 = .ok (.aload_n 0, 1) := by decide +kernel
theorem dX8_sooner_12 : decode cX8_sooner 12 = .ok (.getfield 51, 3) := by decide +kernel
theorem dX8_sooner_15 : decode cX8_sooner 15 = .ok (.iload_n 2, 1) := by decide +kernel
theorem dX8_sooner_16 : decode cX8_sooner 16 = .ok (.invokevirtual 125, 3) := by decide +kernel
theorem dX8_sooner_19 : decode cX8_sooner 19 = .ok (.ifCond .eq 10, 3) := by decide +kernel
theorem dX8_sooner_22 : decode cX8_sooner 22 = .ok (.iload_n 3, 1) := by decide +kernel
theorem dX8_sooner_23 : decode cX8_sooner 23 = .ok (.invokestatic 194, 3) := by decide +kernel
theorem dX8_sooner_26 : decode cX8_sooner 26 = .ok (.ifCond .ne 13, 3) := by decide +kernel
theorem dX8_sooner_29 : decode cX8_sooner 29 = .ok (.new 221, 3) := by decide +kernel
theorem dX8_sooner_32 : decode cX8_sooner 32 = .ok (.dup, 1) := by decide +kernel
theorem dX8_sooner_33 : decode cX8_sooner 33 = .ok (.ldc 223, 2) := by decide +kernel
theorem dX8_sooner_35 : decode cX8_sooner 35 = .ok (.invokespecial 225, 3) := by decide +kernel
theorem dX8_sooner_38 : decode cX8_sooner 38 = .ok (.athrow, 1) := by decide +kernel
theorem dX8_sooner_39 : decode cX8_sooner 39 = .ok (.aload_n 0, 1) := by decide +kernel
theorem dX8_sooner_40 : decode cX8_sooner 40 = .ok (.invokevirtual 141, 3) := by decide +kernel
theorem dX8_sooner_43 : decode cX8_sooner 43 = .ok (.astore 4, 2) := by decide +kernel
theorem dX8_sooner_45 : decode cX8_sooner 45 = .ok (.aload_n 0, 1) := by decide +kernel
theorem dX8_sooner_46 : decode cX8_sooner 46 = .ok (.getfield 51, 3) := by decide +kernel
theorem dX8_sooner_49 : decode cX8_sooner 49 = .ok (.iload_n 3, 1) := by decide +kernel
theorem dX8_sooner_50 : decode cX8_sooner 50 = .ok (.invokevirtual 197, 3) := by decide +kernel
theorem dX8_sooner_53 : decode cX8_sooner 53 = .ok (.istore 5, 2) := by decide +kernel
theorem dX8_sooner_55 : decode cX8_sooner 55 = .ok (.iload 5, 2) := by decide +kernel
theorem dX8_sooner_57 : decode cX8_sooner 57 = .ok (.iconst 1, 1) := by decide +kernel
theorem dX8_sooner_58 : decode cX8_sooner 58 = .ok (.iload_n 1, 1) := by decide +kernel
theorem dX8_sooner_59 : decode cX8_sooner 59 = .ok (.ishl, 1) := by decide +kernel
theorem dX8_sooner_60 : decode cX8_sooner 60 = .ok (.iconst (-1), 1) := by decide +kernel
theorem dX8_sooner_61 : decode cX8_sooner 61 = .ok (.ixor, 1) := by decide +kernel
theorem dX8_sooner_62 : decode cX8_sooner 62 = .ok (.iand, 1) := by decide +kernel
theorem dX8_sooner_63 : decode cX8_sooner 63 = .ok (.istore 6, 2) := by decide +kernel
theorem dX8_sooner_65 : decode cX8_sooner 65 = .ok (.aload 4, 2) := by decide +kernel
theorem dX8_sooner_67 : decode cX8_sooner 67 = .ok (.iload_n 2, 1) := by decide +kernel
theorem dX8_sooner_68 : decode cX8_sooner 68 = .ok (.iload 5, 2) := by decide +kernel
theorem dX8_sooner_70 : decode cX8_sooner 70 = .ok (.invokevirtual 200, 3) := by decide +kernel
theorem dX8_sooner_73 : decode cX8_sooner 73 = .ok (.aload 4, 2) := by decide +kernel
theorem dX8_sooner_75 : decode cX8_sooner 75 = .ok (.iload_n 2, 1) := by decide +kernel
theorem dX8_sooner_76 : decode cX8_sooner 76 = .ok (.iload 6, 2) := by decide +kernel
theorem dX8_sooner_78 : decode cX8_sooner 78 = .ok (.invokevirtual 200, 3) := by decide +kernel
theorem dX8_sooner_81 : decode cX8_sooner 81 = .ok (.isub, 1) := by decide +kernel
theorem dX8_sooner_82 : decode cX8_sooner 82 = .ok (.ireturn, 1) := by decide +kernel
theorem dX9_thrown_0 : decode cX9_thrown 0 = .ok (.aload_n 0, 1) := by decide +kernel
theorem dX9_thrown_1 : decode cX9_thrown 1 = .ok (.getfield 85, 3) := by decide +kernel
theorem dX9_thrown_4 : decode cX9_thrown 4 = .ok (.ireturn, 1) := by decide +kernel
theorem dX9_sooner_0 : decode cX9_sooner 0 = .ok (.aload_n 0, 1) := by decide +kernel
theorem dX9_sooner_1 : decode cX9_sooner 1 = .ok (.aload_n 0, 1) := by decide +kernel
theorem dX9_sooner_2 : decode cX9_sooner 2 = .ok (.iload_n 1, 1) := by decide +kernel
theorem dX9_sooner_3 : decode cX9_sooner 3 = .ok (.invokevirtual 337, 3) := by decide +kernel
theorem dX9_sooner_6 : decode cX9_sooner 6 = .ok (.ifCond .eq 22, 3) := by decide +kernel
theorem dX9_sooner_9 : decode cX9_sooner 9 = .ok (.aload_n 0, 1) := by decide +kernel
theorem dX9_sooner_10 : decode cX9_sooner 10 = .ok (.iload_n 2, 1) := by decide +kernel
theorem dX9_sooner_11 : decode cX9_sooner 11 = .ok (.invokevirtual 322, 3) := by decide +kernel
theorem dX9_sooner_14 : decode cX9_sooner 14 = .ok (.ifCond .eq 14, 3) := by decide +kernel
theorem dX9_sooner_17 : decode cX9_sooner 17 = .ok (.iload_n 3, 1) := by decide +kernel
theorem dX9_sooner_18 : decode cX9_sooner 18 = .ok (.invokestatic 364, 3) := by decide +kernel
theorem dX9_sooner_21 : decode cX9_sooner 21 = .ok (.ifCond .eq 7, 3) := by decide +kernel
theorem dX9_sooner_24 : decode cX9_sooner 24 = .ok (.iconst 0, 1) := by decide +kernel
theorem dX9_sooner_25 : decode cX9_sooner 25 = .ok (.goto 4, 3) := by decide +kernel
theorem dX9_sooner_28 : decode cX9_sooner 28 = .ok (.iconst 1, 1) := by decide +kernel
theorem dX9_sooner_29 : decode cX9_sooner 29 = .ok (.putfield 85, 3) := by decide +kernel
theorem dX9_sooner_32 : decode cX9_sooner 32 = .ok (.aload_n 0, 1) := by decide +kernel
theorem dX9_sooner_33 : decode cX9_sooner 33 = .ok (.invokevirtual 361, 3) := by decide +kernel
theorem dX9_sooner_36 : decode cX9_sooner 36 = .ok (.aload_n 0, 1) := by decide +kernel
theorem dX9_sooner_37 : decode cX9_sooner 37 = .ok (.getfield 85, 3) := by decide +kernel
theorem dX9_sooner_40 : decode cX9_sooner 40 = .ok (.iconst 1, 1) := by decide +kernel
theorem dX9_sooner_41 : decode cX9_sooner 41 = .ok (.if_icmp .ne 7, 3) := by decide +kernel
theorem dX9_sooner_44 : decode cX9_sooner 44 = .ok (.iconst 0, 1) := by decide +kernel
theorem dX9_sooner_45 : decode cX9_sooner 45 = .ok (.goto 20, 3) := by decide +kernel
theorem dX9_sooner_48 : decode cX9_sooner 48 = .ok (.aload_n 0, 1) := by decide +kernel
theorem dX9_sooner_49 : decode cX9_sooner 49 = .ok (.iload_n 2, 1) := by decide +kernel
theorem dX9_sooner_50 : decode cX9_sooner 50 = .ok (.iload_n 3, 1) := by decide +kernel
theorem dX9_sooner_51 : decode cX9_sooner 51 = .ok (.iconst 0, 1) := by decide +kernel
theorem dX9_sooner_52 : decode cX9_sooner 52 = .ok (.invokevirtual 367, 3) := by decide +kernel
theorem dX9_sooner_55 : decode cX9_sooner 55 = .ok (.aload_n 0, 1) := by decide +kernel
theorem dX9_sooner_56 : decode cX9_sooner 56 = .ok (.iload_n 2, 1) := by decide +kernel
theorem dX9_sooner_57 : decode cX9_sooner 57 = .ok (.iload_n 3, 1) := by decide +kernel
theorem dX9_sooner_58 : decode cX9_sooner 58 = .ok (.iconst 1, 1) := by decide +kernel
theorem dX9_sooner_59 : decode cX9_sooner 59 = .ok (.iload_n 1, 1) := by decide +kernel
theorem dX9_sooner_60 : decode cX9_sooner 60 = .ok (.ishl, 1) := by decide +kernel
theorem dX9_sooner_61 : decode cX9_sooner 61 = .ok (.invokevirtual 367, 3) := by decide +kernel
theorem dX9_sooner_64 : decode cX9_sooner 64 = .ok (.isub, 1) := by decide +kernel
theorem dX9_sooner_65 : decode cX9_sooner 65 = .ok (.ireturn, 1) := by decide +kernel
theorem dL_sooner_0 : decode cL_sooner 0 = .ok (.aload 4, 2) := by decide +kernel
theorem dL_sooner_2 : decode cL_sooner 2 = .ok (.iconst 0, 1) := by decide +kernel
theorem dL_sooner_3 : decode cL_sooner 3 = .ok (.aload_n 0, 1) := by decide +kernel
theorem dL_sooner_4 : decode cL_sooner 4 = .ok (.iload_n 1, 1) := by decide +kernel
theorem dL_sooner_5 : decode cL_sooner 5 = .ok (.iload_n 2, 1) := by decide +kernel
theorem dL_sooner_6 : decode cL_sooner 6 = .ok (.iload_n 3, 1) := by decide +kernel
theorem dL_sooner_7 : decode cL_sooner 7 = .ok (.invokevirtual 7, 3) := by decide +kernel
theorem dL_sooner_10 : decode cL_sooner 10 = .ok (.i2l, 1) := by decide +kernel
theorem dL_sooner_11 : decode cL_sooner 11 = .ok (.lastore, 1) := by decide +kernel
theorem dL_sooner_12 : decode cL_sooner 12 = .ok (.goto 7, 3) := by decide +kernel
theorem dL_sooner_15 : decode cL_sooner 15 = .ok (.astore 5, 2) := by decide +kernel
theorem dL_sooner_17 : decode cL_sooner 17 = .ok (.iconst 1, 1) := by decide +kernel
theorem dL_sooner_18 : decode cL_sooner 18 = .ok (.ireturn, 1) := by decide +kernel
theorem dL_sooner_19 : decode cL_sooner 19 = .ok (.iconst 0, 1) := by decide +kernel
theorem dL_sooner_20 : decode cL_sooner 20 = .ok (.ireturn, 1) := by decide +kernel
theorem qw_613 : (Cond.code yX8_sooner cX8_sooner 7 (some .int) : Cond) ∈ TBL := List.mem_of_getElem? (i := 768) (by decide +kernel)
theorem qw_614 : (Cond.methodLink RL 7 yX8_sooner : Cond) ∈ TBL := List.mem_of_getElem? (i := 765) (by decide +kernel)
theorem qw_615 : (Cond.instanceMethod yX8_sooner : Cond) ∈ TBL := List.mem_of_getElem? (i := 766) (by decide +kernel)
theorem qw_616 : (Cond.selects RX8 yX8_sooner yX8_sooner : Cond) ∈ TBL := List.mem_of_getElem? (i := 767) (by decide +kernel)
theorem qw_617 : (Cond.classLink RL 13 "java/util/NoSuchElementException" : Cond) ∈ TBL := List.mem_of_getElem? (i := 764) (by decide +kernel)
set_option maxHeartbeats 4000000 in
set_option maxRecDepth 100000 in
theorem c_8sooner (l : Launch) (dC : Nat → ClassId) (dI : Nat → Nat → Nat) (g : Gv) (sz : Nat) (x0 : Nat) (b : Nat → Nat) (f4 : Nat → Nat) (c4 : ClassId) (f5 : Nat → Nat) (f7 : Nat → Nat) (f6 : Nat → Nat) (f2 : Nat → Nat) (cK : ClassId) (kf : Nat → Option Nat) (cZ : ClassId) (fT : Nat → Nat) (fU : Nat → Nat) (sa : Nat → Nat) (sf : Nat → Nat → Nat) (sc : Nat → Nat → ClassId) (spf : Nat → Nat → Int32) (sdf : Nat → Nat → Int32) (slf : Nat → Nat → Int32) (srf : Nat → Nat → Int32) (sga : Nat → Nat → Option Nat) (sgb : Nat → Nat → Option Nat) (rows : va_W) (pa : Int32) (pb : Int32) (pc0 : Int32) (tx : Nat) (hst : l.stackTraces = false) : vx_Met l yX8_sooner (.code yX8_sooner cX8_sooner 7 (some .int) :: TBL) ({ frames := 12, cells := 1, slots := 6, locals := 300 }) (va_Pc [.ref x0, .int pa, .int pb, .int pc0] (fun U => U.heap.size = sz ∧ va_P (dC, dI) vwCl [(x0, .inr (7, [.ref (b 0), .ref (b 1), .ref (b 2), .ref (b 3), .ref (b 4), .ref (b 5), .ref (b 6), .ref (b 7), .ref (b 8), .ref (b 9), .int 1])), ((b 6), .inr (0, [.int 0, .ref (fT 1), .int 0, .ref (fT 3), .int 0, .ref (fT 5), .ref (fT 6), .ref (fT 7), .int 0, .ref (fT 9), .ref (fT 10), .ref (fT 11), .ref (fT 12), .ref (fT 13)]))] U.heap ∧ va_K (dC, dI) vwCl [] U ∧ va_D (fun _ => True) [(x0, .inr (7, [.ref (b 0), .ref (b 1), .ref (b 2), .ref (b 3), .ref (b 4), .ref (b 5), .ref (b 6), .ref (b 7), .ref (b 8), .ref (b 9), .int 1])), ((b 6), .inr (0, [.int 0, .ref (fT 1), .int 0, .ref (fT 3), .int 0, .ref (fT 5), .ref (fT 6), .ref (fT 7), .int 0, .ref (fT 9), .ref (fT 10), .ref (fT 11), .ref (fT 12), .ref (fT 13)]))] ∧ Ev g (va_A [(x0, .inr (7, [.ref (b 0), .ref (b 1), .ref (b 2), .ref (b 3), .ref (b 4), .ref (b 5), .ref (b 6), .ref (b 7), .ref (b 8), .ref (b 9), .int 1])), ((b 6), .inr (0, [.int 0, .ref (fT 1), .int 0, .ref (fT 3), .int 0, .ref (fT 5), .ref (fT 6), .ref (fT 7), .int 0, .ref (fT 9), .ref (fT 10), .ref (fT 11), .ref (fT 12), .ref (fT 13)]))] sz) U ∧ exE tx (va_A [(x0, .inr (7, [.ref (b 0), .ref (b 1), .ref (b 2), .ref (b 3), .ref (b 4), .ref (b 5), .ref (b 6), .ref (b 7), .ref (b 8), .ref (b 9), .int 1])), ((b 6), .inr (0, [.int 0, .ref (fT 1), .int 0, .ref (fT 3), .int 0, .ref (fT 5), .ref (fT 6), .ref (fT 7), .int 0, .ref (fT 9), .ref (fT 10), .ref (fT 11), .ref (fT 12), .ref (fT 13)]))] sz) U)) (va_Qi (fun (r : Int32) (u : Unit) => False) (fun (_ : Unit) (_ : State) => True) (va_A [(x0, .inr (7, [.ref (b 0), .ref (b 1), .ref (b 2), .ref (b 3), .ref (b 4), .ref (b 5), .ref (b 6), .ref (b 7), .ref (b 8), .ref (b 9), .int 1])), ((b 6), .inr (0, [.int 0, .ref (fT 1), .int 0, .ref (fT 3), .int 0, .ref (fT 5), .ref (fT 6), .ref (fT 7), .int 0, .ref (fT 9), .ref (fT 10), .ref (fT 11), .ref (fT 12), .ref (fT 13)]))] sz)) (vx_X (fun (_ : Unit) => True) (fun (E : String) (_ : Unit) (_ : State) => E = nseN) (va_A [(x0, .inr (7, [.ref (b 0), .ref (b 1), .ref (b 2), .ref (b 3), .ref (b 4), .ref (b 5), .ref (b 6), .ref (b 7), .ref (b 8), .ref (b 9), .int 1])), ((b 6), .inr (0, [.int 0, .ref (fT 1), .int 0, .ref (fT 3), .int 0, .ref (fT 5), .ref (fT 6), .ref (fT 7), .int 0, .ref (fT 9), .ref (fT 10), .ref (fT 11), .ref (fT 12), .ref (fT 13)]))] sz)) 1 6 (va_A [(x0, .inr (7, [.ref (b 0), .ref (b 1), .ref (b 2), .ref (b 3), .ref (b 4), .ref (b 5), .ref (b 6), .ref (b 7), .ref (b 8), .ref (b 9), .int 1])), ((b 6), .inr (0, [.int 0, .ref (fT 1), .int 0, .ref (fT 3), .int 0, .ref (fT 5), .ref (fT 6), .ref (fT 7), .int 0, .ref (fT 9), .ref (fT 10), .ref (fT 11), .ref (fT 12), .ref (fT 13)]))] sz) := by
  refine vx_ofW (cc := cX8_sooner) (maxL := 7) (ret := (some .int)) (by decide) rfl ?_
  intro p e s m args below meth c s₁ B hml hex9 hv
  obtain ⟨rfl, hsz, hP, hK, hD0, hE, hEx⟩ := hv
  have hx := B.exec
  have hb := B.bytes
  have hr := B.returns
  have hts0 := atoms_spec (ws := (.code yX8_sooner cX8_sooner 7 (some .int) :: TBL)) B.pre
  have hts := fun (w : Cond) (h : w ∈ TBL) => hts0 w (List.mem_cons_of_mem _ h)
  have hown : s.vm.findClass RX8 = some m.cls := findClass_of_methodNamed B.named
  have hlocks := B.notSynchronized
  have hN := hE.1
  subst hsz
  have hD := hD0.self (sz := s.heap.size)
  generalize hAe : va_A [(x0, .inr (7, [.ref (b 0), .ref (b 1), .ref (b 2), .ref (b 3), .ref (b 4), .ref (b 5), .ref (b 6), .ref (b 7), .ref (b 8), .ref (b 9), .int 1])), ((b 6), .inr (0, [.int 0, .ref (fT 1), .int 0, .ref (fT 3), .int 0, .ref (fT 5), .ref (fT 6), .ref (fT 7), .int 0, .ref (fT 9), .ref (fT 10), .ref (fT 11), .ref (fT 12), .ref (fT 13)]))] s.heap.size = A at hD hE hEx ⊢
  have hA : ∀ q : Nat, s.heap.size ≤ q → A q := fun q h => by rw [← hAe]; exact Or.inr h
  have hS : va_S A s.heap s.heap [] := va_S.rf
  have hP : va_P (dC, dI) vwCl [(x0, .inr (7, [.ref (b 0), .ref (b 1), .ref (b 2), .ref (b 3), .ref (b 4), .ref (b 5), .ref (b 6), .ref (b 7), .ref (b 8), .ref (b 9), .int 1])), ((b 6), .inr (0, [.int 0, .ref (fT 1), .int 0, .ref (fT 3), .int 0, .ref (fT 5), .ref (fT 6), .ref (fT 7), .int 0, .ref (fT 9), .ref (fT 10), .ref (fT 11), .ref (fT 12), .ref (fT 13)]))] s.heap := hP
  have hl := lv_entry ([.ref x0, .int pa, .int pb, .int pc0]) (n := 7) (Nat.le_of_ble_eq_true rfl)
  rw [lg_entry_eq]
  generalize (lg_sl ([.ref x0, .int pa, .int pb, .int pc0]) ++ List.replicate (7 - (lg_sl ([.ref x0, .int pa, .int pb, .int pc0])).length) Slot.unset).toArray = ls at hl ⊢
  have hl : lv_has ls 7 [(0, .ref x0), (1, .int pa), (2, .int pb), (3, .int pc0)] := hl
  refine lv_aload_n hx hb dX8_sooner_0 rfl (lv_at hl 0 rfl) ?_
  refine va_get (D := (dC, dI)) (ci := 7) (v := .ref (b 6)) (C := RX8) (T := TX8) (N := 11) hx hb hts inlX8 hown hK hP 0 rfl rfl 6 (by decide) (hts (.fieldLink RX8 51 "ClosedUntil" "told" "LClosedUntil$Holdings;") qw_205) (fun _ h9 => h9) rfl dX8_sooner_1 ?_
  refine lv_iload_n hx hb dX8_sooner_4 rfl (lv_at hl 1 rfl) ?_
  have hPc := hP.sub (ws' := [((b 6), .inr (0, [.int 0, .ref (fT 1), .int 0, .ref (fT 3), .int 0, .ref (fT 5), .ref (fT 6), .ref (fT 7), .int 0, .ref (fT 9), .ref (fT 10), .ref (fT 11), .ref (fT 12), .ref (fT 13)]))]) [1] rfl
  have hKc := hK.sub (tys' := []) [] rfl
  refine vp_callSi ((va_runVN (As := [.int pa]) (rest := []) ⟨hx, hb, hml, hown, hts⟩ (c_hCl l dC dI g ((b 6)) (fT) (pa) ) ⟨va_cnB 1 hts (gwC qw_257) rfl rfl rfl (nm_33 hN) (hts (.initialized RX1) qw_202) (by decide +kernel) ⟨Nat.le_of_ble_eq_true rfl, Nat.le_of_ble_eq_true rfl⟩, (hts (.instanceMethod yX1_hasClosure) qw_258), (hts (.selects RX1 yX1_hasClosure yX1_hasClosure) qw_259)⟩ ⟨fun a U g9 mk q => ⟨q.1, q.2.1, va_K.moved (u := U) (U := U.calling g9 mk a) (Vm.Alike.refl U.vm) q.2.2.1, Ev.bl q.2.2.2⟩, va_recv hK hP (ci := 0) (q0 := 1) rfl rfl, fun U hU hW => ⟨rfl, by rw [hU]; exact hPc, va_K.moved hW.alike hKc, hE.go hS (fun _ h => h.elim) hU hW⟩⟩ rfl rfl hl.1 rfl (lv_room (Nat.le_of_ble_eq_true rfl)) dX8_sooner_5 ⟨Nat.le_of_ble_eq_true rfl, Nat.le_of_ble_eq_true rfl⟩)).run (fun r1 h_r1 => ?_)
  have h_r1 : r1 = 0 := h_r1
  subst h_r1
  refine lv_if_eq (tgt := 29) hx hb dX8_sooner_8 (by decide) (fun c8_2 => ?_) (fun c8_2 => by exfalso; exact absurd c8_2 (by decide))
  exact nse_throw hx hb hst hown hEx hS (hl.1.trans hml.symm) dX8_sooner_29 dX8_sooner_32 dX8_sooner_33 dX8_sooner_35 dX8_sooner_38 (fun x h => (hex9 x h).elim) (Nat.le_of_ble_eq_true rfl) (Nat.le_of_ble_eq_true rfl) (Nat.le_of_ble_eq_true rfl) (Nat.le_of_ble_eq_true rfl) hlocks (fun t _ h1 h2 => ⟨(), trivial, rfl, h1, fun q hq _ => h2 q hq⟩) (fun z hz => nomatch hz) (Nat.le_refl _) (Nat.le_refl _)
set_option maxHeartbeats 4000000 in
set_option maxRecDepth 100000 in
theorem c_Lsooner (l : Launch) (dC : Nat → ClassId) (dI : Nat → Nat → Nat) (g : Gv) (sz : Nat) (x0 : Nat) (b : Nat → Nat) (f4 : Nat → Nat) (c4 : ClassId) (f5 : Nat → Nat) (f7 : Nat → Nat) (f6 : Nat → Nat) (f2 : Nat → Nat) (cK : ClassId) (kf : Nat → Option Nat) (cZ : ClassId) (fT : Nat → Nat) (fU : Nat → Nat) (sa : Nat → Nat) (sf : Nat → Nat → Nat) (sc : Nat → Nat → ClassId) (spf : Nat → Nat → Int32) (sdf : Nat → Nat → Int32) (slf : Nat → Nat → Int32) (srf : Nat → Nat → Int32) (sga : Nat → Nat → Option Nat) (sgb : Nat → Nat → Option Nat) (rows : va_W) (pa : Int32) (pb : Int32) (pc0 : Int32) (o9 : Nat) (tx : Nat) (hst : l.stackTraces = false) : Met l yL_sooner (.codeWith yL_sooner cL_sooner 6 (some .int) [(0, 12, 15, 13)] :: TBL) ({ frames := 14, cells := 1, slots := 6, locals := 400 }) (va_Pc [.ref x0, .int pa, .int pb, .int pc0, .ref o9] (fun U => U.heap.size = sz ∧ va_P (dC, dI) vwCl [(x0, .inr (7, [.ref (b 0), .ref (b 1), .ref (b 2), .ref (b 3), .ref (b 4), .ref (b 5), .ref (b 6), .ref (b 7), .ref (b 8), .ref (b 9), .int 1])), ((b 6), .inr (0, [.int 0, .ref (fT 1), .int 0, .ref (fT 3), .int 0, .ref (fT 5), .ref (fT 6), .ref (fT 7), .int 0, .ref (fT 9), .ref (fT 10), .ref (fT 11), .ref (fT 12), .ref (fT 13)]))] U.heap ∧ va_K (dC, dI) vwCl [] U ∧ va_D (fun _ => True) [(x0, .inr (7, [.ref (b 0), .ref (b 1), .ref (b 2), .ref (b 3), .ref (b 4), .ref (b 5), .ref (b 6), .ref (b 7), .ref (b 8), .ref (b 9), .int 1])), ((b 6), .inr (0, [.int 0, .ref (fT 1), .int 0, .ref (fT 3), .int 0, .ref (fT 5), .ref (fT 6), .ref (fT 7), .int 0, .ref (fT 9), .ref (fT 10), .ref (fT 11), .ref (fT 12), .ref (fT 13)]))] ∧ Ev g (va_A [(x0, .inr (7, [.ref (b 0), .ref (b 1), .ref (b 2), .ref (b 3), .ref (b 4), .ref (b 5), .ref (b 6), .ref (b 7), .ref (b 8), .ref (b 9), .int 1])), ((b 6), .inr (0, [.int 0, .ref (fT 1), .int 0, .ref (fT 3), .int 0, .ref (fT 5), .ref (fT 6), .ref (fT 7), .int 0, .ref (fT 9), .ref (fT 10), .ref (fT 11), .ref (fT 12), .ref (fT 13)]))] sz) U ∧ exE tx (va_A [(x0, .inr (7, [.ref (b 0), .ref (b 1), .ref (b 2), .ref (b 3), .ref (b 4), .ref (b 5), .ref (b 6), .ref (b 7), .ref (b 8), .ref (b 9), .int 1])), ((b 6), .inr (0, [.int 0, .ref (fT 1), .int 0, .ref (fT 3), .int 0, .ref (fT 5), .ref (fT 6), .ref (fT 7), .int 0, .ref (fT 9), .ref (fT 10), .ref (fT 11), .ref (fT 12), .ref (fT 13)]))] sz) U)) (va_Qi (fun (r : Int32) (u : Unit) => r = 1) (fun (_ : Unit) (_ : State) => True) (va_A [(x0, .inr (7, [.ref (b 0), .ref (b 1), .ref (b 2), .ref (b 3), .ref (b 4), .ref (b 5), .ref (b 6), .ref (b 7), .ref (b 8), .ref (b 9), .int 1])), ((b 6), .inr (0, [.int 0, .ref (fT 1), .int 0, .ref (fT 3), .int 0, .ref (fT 5), .ref (fT 6), .ref (fT 7), .int 0, .ref (fT 9), .ref (fT 10), .ref (fT 11), .ref (fT 12), .ref (fT 13)]))] sz)) 1 6 (va_A [(x0, .inr (7, [.ref (b 0), .ref (b 1), .ref (b 2), .ref (b 3), .ref (b 4), .ref (b 5), .ref (b 6), .ref (b 7), .ref (b 8), .ref (b 9), .int 1])), ((b 6), .inr (0, [.int 0, .ref (fT 1), .int 0, .ref (fT 3), .int 0, .ref (fT 5), .ref (fT 6), .ref (fT 7), .int 0, .ref (fT 9), .ref (fT 10), .ref (fT 11), .ref (fT 12), .ref (fT 13)]))] sz) := by
  refine va_MetW (hh := [(0, 12, 15, 13)]) (cc := cL_sooner) (maxL := 6) (ret := (some .int)) (by decide) rfl ?_
  intro p e s m args below meth c s₁ B hml hv
  obtain ⟨rfl, hsz, hP, hK, hD0, hE, hEx⟩ := hv
  have hx := B.exec
  have hb := B.bytes
  have hr := B.returns
  have hts0 := atoms_spec (ws := (.codeWith yL_sooner cL_sooner 6 (some .int) [(0, 12, 15, 13)] :: TBL)) B.pre
  have hts := fun (w : Cond) (h : w ∈ TBL) => hts0 w (List.mem_cons_of_mem _ h)
  have hown : s.vm.findClass RL = some m.cls := findClass_of_methodNamed B.named
  have hlocks := B.notSynchronized
  have hN := hE.1
  subst hsz
  have hD := hD0.self (sz := s.heap.size)
  generalize hAe : va_A [(x0, .inr (7, [.ref (b 0), .ref (b 1), .ref (b 2), .ref (b 3), .ref (b 4), .ref (b 5), .ref (b 6), .ref (b 7), .ref (b 8), .ref (b 9), .int 1])), ((b 6), .inr (0, [.int 0, .ref (fT 1), .int 0, .ref (fT 3), .int 0, .ref (fT 5), .ref (fT 6), .ref (fT 7), .int 0, .ref (fT 9), .ref (fT 10), .ref (fT 11), .ref (fT 12), .ref (fT 13)]))] s.heap.size = A at hD hE hEx ⊢
  have hA : ∀ q : Nat, s.heap.size ≤ q → A q := fun q h => by rw [← hAe]; exact Or.inr h
  have hS : va_S A s.heap s.heap [] := va_S.rf
  have hP : va_P (dC, dI) vwCl [(x0, .inr (7, [.ref (b 0), .ref (b 1), .ref (b 2), .ref (b 3), .ref (b 4), .ref (b 5), .ref (b 6), .ref (b 7), .ref (b 8), .ref (b 9), .int 1])), ((b 6), .inr (0, [.int 0, .ref (fT 1), .int 0, .ref (fT 3), .int 0, .ref (fT 5), .ref (fT 6), .ref (fT 7), .int 0, .ref (fT 9), .ref (fT 10), .ref (fT 11), .ref (fT 12), .ref (fT 13)]))] s.heap := hP
  have hl := lv_entry ([.ref x0, .int pa, .int pb, .int pc0, .ref o9]) (n := 6) (Nat.le_of_ble_eq_true rfl)
  rw [lg_entry_eq]
  generalize (lg_sl ([.ref x0, .int pa, .int pb, .int pc0, .ref o9]) ++ List.replicate (6 - (lg_sl ([.ref x0, .int pa, .int pb, .int pc0, .ref o9])).length) Slot.unset).toArray = ls at hl ⊢
  have hl : lv_has ls 6 [(0, .ref x0), (1, .int pa), (2, .int pb), (3, .int pc0), (4, .ref o9)] := hl
  have hT : c.exceptionTable.toList = [] ++ (⟨0, 12, 15, 13⟩ : ExceptionTableEntry) :: [] := vx_table (x := yL_sooner) B (hts0 _ List.mem_cons_self)
  refine lv_aload hx hb dL_sooner_0 (lv_at hl 4 rfl) ?_
  refine lv_iconst (v := 0) hx hb dL_sooner_2 (by decide) ?_
  refine lv_aload_n hx hb dL_sooner_3 rfl (lv_at hl 0 rfl) ?_
  refine lv_iload_n hx hb dL_sooner_4 rfl (lv_at hl 1 rfl) ?_
  refine lv_iload_n hx hb dL_sooner_5 rfl (lv_at hl 2 rfl) ?_
  refine lv_iload_n hx hb dL_sooner_6 rfl (lv_at hl 3 rfl) ?_
  have hPc := hP.sub (ws' := [(x0, .inr (7, [.ref (b 0), .ref (b 1), .ref (b 2), .ref (b 3), .ref (b 4), .ref (b 5), .ref (b 6), .ref (b 7), .ref (b 8), .ref (b 9), .int 1])), ((b 6), .inr (0, [.int 0, .ref (fT 1), .int 0, .ref (fT 3), .int 0, .ref (fT 5), .ref (fT 6), .ref (fT 7), .int 0, .ref (fT 9), .ref (fT 10), .ref (fT 11), .ref (fT 12), .ref (fT 13)]))]) [0, 1] rfl
  have hKc := hK.sub (tys' := []) [] rfl
  have hDc := hD.sub (ws' := [(x0, .inr (7, [.ref (b 0), .ref (b 1), .ref (b 2), .ref (b 3), .ref (b 4), .ref (b 5), .ref (b 6), .ref (b 7), .ref (b 8), .ref (b 9), .int 1])), ((b 6), .inr (0, [.int 0, .ref (fT 1), .int 0, .ref (fT 3), .int 0, .ref (fT 5), .ref (fT 6), .ref (fT 7), .int 0, .ref (fT 9), .ref (fT 10), .ref (fT 11), .ref (fT 12), .ref (fT 13)]))]) [0, 1] (by decide) rfl
  have hFc := va_free (wc := [(x0, .inr (7, [.ref (b 0), .ref (b 1), .ref (b 2), .ref (b 3), .ref (b 4), .ref (b 5), .ref (b 6), .ref (b 7), .ref (b 8), .ref (b 9), .int 1])), ((b 6), .inr (0, [.int 0, .ref (fT 1), .int 0, .ref (fT 3), .int 0, .ref (fT 5), .ref (fT 6), .ref (fT 7), .int 0, .ref (fT 9), .ref (fT 10), .ref (fT 11), .ref (fT 12), .ref (fT 13)]))]) hD hS hA [0, 1] rfl
  refine vx_calli (vx_runV (As := [.int pa, .int pb, .int pc0]) (rest := [.int 0, .ref o9]) ⟨hx, hb, hml, hown, hts⟩ (c_8sooner l dC dI g s.heap.size (x0) (b) (f4) (c4) (f5) (f7) (f6) (f2) (cK) (kf) (cZ) (fT) (fU) (sa) (sf) (sc) (spf) (sdf) (slf) (srf) (sga) (sgb) (rows) (pa) (pb) (pc0) (tx) hst) (cwV 3 hts (gwV qw_614 qw_615 qw_616 qw_69 qw_613) rfl rfl rfl (by decide +kernel) ⟨Nat.le_of_ble_eq_true rfl, Nat.le_of_ble_eq_true rfl⟩) ⟨fun a U g9 mk q => ⟨q.1, q.2.1, q.2.2.1, va_K.moved (u := U) (U := U.calling g9 mk a) (Vm.Alike.refl U.vm) q.2.2.2.1, q.2.2.2.2.1, Ev.bl q.2.2.2.2.2.1, exE.bl q.2.2.2.2.2.2⟩, va_recv hK hP (ci := 7) (q0 := 0) rfl rfl, fun U hU hW => ⟨rfl, by rw [hU], by rw [hU]; exact hPc, va_K.moved hW.alike hKc, hDc.weaken (fun _ _ _ _ => trivial), hE.go hS hFc hU hW, hEx.go hS hFc hU hW⟩⟩ rfl rfl hl.1 rfl (lv_room (Nat.le_of_ble_eq_true rfl)) dL_sooner_7 ⟨Nat.le_of_ble_eq_true rfl, Nat.le_of_ble_eq_true rfl⟩) hS (fun q _ h => hFc q h) hFc (fun q _ h => hFc q h) (fun E ce q9 u t H1 locs ht hvm _ hE9 hz1 hk1 hS hce hcv hcl => ?_) (fun r u t H1 locs ht hvm h9 => h9.elim)
  subst hE9
  refine vx_catch (own := RL) (name := nseN) (E := nseN) (ce := ce) hown [] ⟨0, 12, 15, 13⟩ [] hT (fun z hz => nomatch hz) (by decide) (by decide) (hts (.classLink RL 13 "java/util/NoSuchElementException") qw_617) (va_tabs (exL_ot ex_cast).1 rfl (hEx.1 _ ex_cast)) hce hcv hcl ?_
  show W _ _ _ _ _ _ _ _ _ _ _ _ _ _ _ (F0 m 15 ls [.ref q9])
  generalize H1 = H at hS ⊢
  refine lv_astore (lv' := [(5, .ref q9), (0, .ref x0), (1, .int pa), (2, .int pb), (3, .int pc0), (4, .ref o9)]) hx hb dL_sooner_15 hl (by decide) rfl (fun ls hl => ?_)
  refine lv_iconst (v := 1) hx hb dL_sooner_17 (by decide) ?_
  refine W.widen (k := 1) (n := 6) (Nat.le_of_ble_eq_true rfl) (Nat.le_of_ble_eq_true rfl) ?_
  exact W.iret (v := 1) hx hb hr (fun t ht hW => ⟨⟨1, (), rfl, (rfl), trivial⟩, hS.F ht⟩) hS.2.2 dL_sooner_18
set_option maxHeartbeats 4000000 in
set_option maxRecDepth 100000 in
theorem c_9sooner (l : Launch) (dC : Nat → ClassId) (dI : Nat → Nat → Nat) (g : Gv) (sz : Nat) (m0 : Nat) (a : Nat → Nat) (ca : Nat → ClassId) (pa : Int32) (pb : Int32) (pc0 : Int32)  : Met l yX9_sooner (.code yX9_sooner cX9_sooner 4 (some .int) :: TBL) ({ frames := 3, cells := 0, slots := 0, locals := 180 }) (va_Pc [.ref m0, .int pa, .int pb, .int pc0] (fun U => U.heap.size = sz ∧ va_P (dC, dI) vwCl [(m0, .inr (8, [.int 0, .int 0, .int 0, .int 0, .ref (a 4), .int 0, .int 0, .int 0, .int 0, .int 0, .int 0, .long 0, .int 0, .int 0, .int 0, .int 0, .int 0, .int 0, .ref (a 18), .ref (a 19), .ref (a 20), .ref (a 21), .ref (a 22), .ref (a 23), .ref (a 24), .ref (a 25), .ref (a 26), .ref (a 27), .ref (a 28), .ref (a 29), .ref (a 30), .ref (a 31), .ref (a 32), .ref (a 33), .ref (a 34), .ref (a 35), .long 0, .int 0, .ref (a 38), .ref (a 39), .int 0, .ref (a 41), .ref (a 42), .ref (a 43)])), ((a 21), .inl ((ca 21), 2, .inl (fun _ => 0)))] U.heap ∧ va_K (dC, dI) vwCl [((ca 21), .int)] U ∧ va_D (fun _ => True) [(m0, .inr (8, [.int 0, .int 0, .int 0, .int 0, .ref (a 4), .int 0, .int 0, .int 0, .int 0, .int 0, .int 0, .long 0, .int 0, .int 0, .int 0, .int 0, .int 0, .int 0, .ref (a 18), .ref (a 19), .ref (a 20), .ref (a 21), .ref (a 22), .ref (a 23), .ref (a 24), .ref (a 25), .ref (a 26), .ref (a 27), .ref (a 28), .ref (a 29), .ref (a 30), .ref (a 31), .ref (a 32), .ref (a 33), .ref (a 34), .ref (a 35), .long 0, .int 0, .ref (a 38), .ref (a 39), .int 0, .ref (a 41), .ref (a 42), .ref (a 43)])), ((a 21), .inl ((ca 21), 2, .inl (fun _ => 0)))] ∧ Ev g (va_A [(m0, .inr (8, [.int 0, .int 0, .int 0, .int 0, .ref (a 4), .int 0, .int 0, .int 0, .int 0, .int 0, .int 0, .long 0, .int 0, .int 0, .int 0, .int 0, .int 0, .int 0, .ref (a 18), .ref (a 19), .ref (a 20), .ref (a 21), .ref (a 22), .ref (a 23), .ref (a 24), .ref (a 25), .ref (a 26), .ref (a 27), .ref (a 28), .ref (a 29), .ref (a 30), .ref (a 31), .ref (a 32), .ref (a 33), .ref (a 34), .ref (a 35), .long 0, .int 0, .ref (a 38), .ref (a 39), .int 0, .ref (a 41), .ref (a 42), .ref (a 43)])), ((a 21), .inl ((ca 21), 2, .inl (fun _ => 0)))] sz) U)) (va_Qi (fun (r : Int32) (u : Unit) => r = 0) (fun (u : Unit) (t : State) => va_P (dC, dI) vwCl [(m0, .inr (8, [.int 1, .int 0, .int 0, .int 0, .ref (a 4), .int 0, .int 0, .int 0, .int 0, .int 0, .int 0, .long 0, .int 0, .int 0, .int 0, .int 0, .int 0, .int 0, .ref (a 18), .ref (a 19), .ref (a 20), .ref (a 21), .ref (a 22), .ref (a 23), .ref (a 24), .ref (a 25), .ref (a 26), .ref (a 27), .ref (a 28), .ref (a 29), .ref (a 30), .ref (a 31), .ref (a 32), .ref (a 33), .ref (a 34), .ref (a 35), .long 0, .int 0, .ref (a 38), .ref (a 39), .int 0, .ref (a 41), .ref (a 42), .ref (a 43)]))] t.heap ∧ va_K (dC, dI) vwCl [] t ∧ va_D (va_A [(m0, .inr (8, [.int 0, .int 0, .int 0, .int 0, .ref (a 4), .int 0, .int 0, .int 0, .int 0, .int 0, .int 0, .long 0, .int 0, .int 0, .int 0, .int 0, .int 0, .int 0, .ref (a 18), .ref (a 19), .ref (a 20), .ref (a 21), .ref (a 22), .ref (a 23), .ref (a 24), .ref (a 25), .ref (a 26), .ref (a 27), .ref (a 28), .ref (a 29), .ref (a 30), .ref (a 31), .ref (a 32), .ref (a 33), .ref (a 34), .ref (a 35), .long 0, .int 0, .ref (a 38), .ref (a 39), .int 0, .ref (a 41), .ref (a 42), .ref (a 43)])), ((a 21), .inl ((ca 21), 2, .inl (fun _ => 0)))] sz) [(m0, .inr (8, [.int 1, .int 0, .int 0, .int 0, .ref (a 4), .int 0, .int 0, .int 0, .int 0, .int 0, .int 0, .long 0, .int 0, .int 0, .int 0, .int 0, .int 0, .int 0, .ref (a 18), .ref (a 19), .ref (a 20), .ref (a 21), .ref (a 22), .ref (a 23), .ref (a 24), .ref (a 25), .ref (a 26), .ref (a 27), .ref (a 28), .ref (a 29), .ref (a 30), .ref (a 31), .ref (a 32), .ref (a 33), .ref (a 34), .ref (a 35), .long 0, .int 0, .ref (a 38), .ref (a 39), .int 0, .ref (a 41), .ref (a 42), .ref (a 43)]))]) (va_A [(m0, .inr (8, [.int 0, .int 0, .int 0, .int 0, .ref (a 4), .int 0, .int 0, .int 0, .int 0, .int 0, .int 0, .long 0, .int 0, .int 0, .int 0, .int 0, .int 0, .int 0, .ref (a 18), .ref (a 19), .ref (a 20), .ref (a 21), .ref (a 22), .ref (a 23), .ref (a 24), .ref (a 25), .ref (a 26), .ref (a 27), .ref (a 28), .ref (a 29), .ref (a 30), .ref (a 31), .ref (a 32), .ref (a 33), .ref (a 34), .ref (a 35), .long 0, .int 0, .ref (a 38), .ref (a 39), .int 0, .ref (a 41), .ref (a 42), .ref (a 43)])), ((a 21), .inl ((ca 21), 2, .inl (fun _ => 0)))] sz)) 0 0 (va_A [(m0, .inr (8, [.int 0, .int 0, .int 0, .int 0, .ref (a 4), .int 0, .int 0, .int 0, .int 0, .int 0, .int 0, .long 0, .int 0, .int 0, .int 0, .int 0, .int 0, .int 0, .ref (a 18), .ref (a 19), .ref (a 20), .ref (a 21), .ref (a 22), .ref (a 23), .ref (a 24), .ref (a 25), .ref (a 26), .ref (a 27), .ref (a 28), .ref (a 29), .ref (a 30), .ref (a 31), .ref (a 32), .ref (a 33), .ref (a 34), .ref (a 35), .long 0, .int 0, .ref (a 38), .ref (a 39), .int 0, .ref (a 41), .ref (a 42), .ref (a 43)])), ((a 21), .inl ((ca 21), 2, .inl (fun _ => 0)))] sz) := by
  refine Met.ofW (cc := cX9_sooner) (maxL := 4) (ret := (some .int)) (by decide) rfl ?_
  intro p e s m args below meth c s₁ B hml hv
  obtain ⟨rfl, hsz, hP, hK, hD0, hE⟩ := hv
  have hx := B.exec
  have hb := B.bytes
  have hr := B.returns
  have hts0 := atoms_spec (ws := (.code yX9_sooner cX9_sooner 4 (some .int) :: TBL)) B.pre
  have hts := fun (w : Cond) (h : w ∈ TBL) => hts0 w (List.mem_cons_of_mem _ h)
  have hown : s.vm.findClass RX9 = some m.cls := findClass_of_methodNamed B.named
  have hlocks := B.notSynchronized
  have hN := hE.1
  subst hsz
  have hD := hD0.self (sz := s.heap.size)
  generalize hAe : va_A [(m0, .inr (8, [.int 0, .int 0, .int 0, .int 0, .ref (a 4), .int 0, .int 0, .int 0, .int 0, .int 0, .int 0, .long 0, .int 0, .int 0, .int 0, .int 0, .int 0, .int 0, .ref (a 18), .ref (a 19), .ref (a 20), .ref (a 21), .ref (a 22), .ref (a 23), .ref (a 24), .ref (a 25), .ref (a 26), .ref (a 27), .ref (a 28), .ref (a 29), .ref (a 30), .ref (a 31), .ref (a 32), .ref (a 33), .ref (a 34), .ref (a 35), .long 0, .int 0, .ref (a 38), .ref (a 39), .int 0, .ref (a 41), .ref (a 42), .ref (a 43)])), ((a 21), .inl ((ca 21), 2, .inl (fun _ => 0)))] s.heap.size = A at hD hE ⊢
  have hA : ∀ q : Nat, s.heap.size ≤ q → A q := fun q h => by rw [← hAe]; exact Or.inr h
  have hS : va_S A s.heap s.heap [] := va_S.rf
  have hP : va_P (dC, dI) vwCl [(m0, .inr (8, [.int 0, .int 0, .int 0, .int 0, .ref (a 4), .int 0, .int 0, .int 0, .int 0, .int 0, .int 0, .long 0, .int 0, .int 0, .int 0, .int 0, .int 0, .int 0, .ref (a 18), .ref (a 19), .ref (a 20), .ref (a 21), .ref (a 22), .ref (a 23), .ref (a 24), .ref (a 25), .ref (a 26), .ref (a 27), .ref (a 28), .ref (a 29), .ref (a 30), .ref (a 31), .ref (a 32), .ref (a 33), .ref (a 34), .ref (a 35), .long 0, .int 0, .ref (a 38), .ref (a 39), .int 0, .ref (a 41), .ref (a 42), .ref (a 43)])), ((a 21), .inl ((ca 21), 2, .inl (fun _ => 0)))] s.heap := hP
  have hl := lv_entry ([.ref m0, .int pa, .int pb, .int pc0]) (n := 4) (Nat.le_of_ble_eq_true rfl)
  rw [lg_entry_eq]
  generalize (lg_sl ([.ref m0, .int pa, .int pb, .int pc0]) ++ List.replicate (4 - (lg_sl ([.ref m0, .int pa, .int pb, .int pc0])).length) Slot.unset).toArray = ls at hl ⊢
  have hl : lv_has ls 4 [(0, .ref m0), (1, .int pa), (2, .int pb), (3, .int pc0)] := hl
  refine lv_aload_n hx hb dX9_sooner_0 rfl (lv_at hl 0 rfl) ?_
  refine lv_aload_n hx hb dX9_sooner_1 rfl (lv_at hl 0 rfl) ?_
  refine lv_iload_n hx hb dX9_sooner_2 rfl (lv_at hl 1 rfl) ?_
  have hPc := hP.sub (ws' := [(m0, .inr (8, [.int 0, .int 0, .int 0, .int 0, .ref (a 4), .int 0, .int 0, .int 0, .int 0, .int 0, .int 0, .long 0, .int 0, .int 0, .int 0, .int 0, .int 0, .int 0, .ref (a 18), .ref (a 19), .ref (a 20), .ref (a 21), .ref (a 22), .ref (a 23), .ref (a 24), .ref (a 25), .ref (a 26), .ref (a 27), .ref (a 28), .ref (a 29), .ref (a 30), .ref (a 31), .ref (a 32), .ref (a 33), .ref (a 34), .ref (a 35), .long 0, .int 0, .ref (a 38), .ref (a 39), .int 0, .ref (a 41), .ref (a 42), .ref (a 43)])), ((a 21), .inl ((ca 21), 2, .inl (fun _ => 0)))]) [0, 1] rfl
  have hKc := hK.sub (tys' := [((ca 21), .int)]) [0] rfl
  refine vp_callSi ((va_runV (As := [.int pa]) (rest := [.ref m0]) ⟨hx, hb, hml, hown, hts⟩ (c_9isClosure l dC dI g (m0) (a) (ca) (pa) ) (cwV 1 hts (gwV qw_334 qw_335 qw_336 qw_23 qw_333) rfl rfl rfl (by decide +kernel) ⟨Nat.le_of_ble_eq_true rfl, Nat.le_of_ble_eq_true rfl⟩) ⟨fun a U g9 mk q => ⟨q.1, q.2.1, va_K.moved (u := U) (U := U.calling g9 mk a) (Vm.Alike.refl U.vm) q.2.2.1, Ev.bl q.2.2.2⟩, va_recv hK hP (ci := 8) (q0 := 0) rfl rfl, fun U hU hW => ⟨rfl, by rw [hU]; exact hPc, va_K.moved hW.alike hKc, hE.go hS (fun _ h => h.elim) hU hW⟩⟩ rfl rfl hl.1 rfl (lv_room (Nat.le_of_ble_eq_true rfl)) dX9_sooner_3 ⟨Nat.le_of_ble_eq_true rfl, Nat.le_of_ble_eq_true rfl⟩)).run (fun r1 h_r1 => ?_)
  have h_r1 : r1 = 0 := h_r1
  subst h_r1
  refine lv_if_eq (tgt := 28) hx hb dX9_sooner_6 (by decide) (fun c6_2 => ?_) (fun c6_2 => by exfalso; exact absurd c6_2 (by decide))
  refine lv_iconst (v := 1) hx hb dX9_sooner_28 (by decide) ?_
  refine va_put (D := (dC, dI)) (ci := 8) (v := .int 1) (ty := .int) (C := RX9) (T := TX9) (N := 44) hx hb hts inlX9 tyX9 tyX9_ok nmX9 hown hK hP hD hS 0 rfl rfl 0 (by decide) (hts (.fieldLink RX9 85 "ClosedUntilModel" "thrown" "I") qw_43) (fun _ h9 => h9) rfl (by decide +kernel) rfl rfl (Nat.le_of_ble_eq_true rfl) dX9_sooner_29 (fun H locs hP hD hS => ?_)
  have hP : va_P (dC, dI) vwCl [(m0, .inr (8, [.int 1, .int 0, .int 0, .int 0, .ref (a 4), .int 0, .int 0, .int 0, .int 0, .int 0, .int 0, .long 0, .int 0, .int 0, .int 0, .int 0, .int 0, .int 0, .ref (a 18), .ref (a 19), .ref (a 20), .ref (a 21), .ref (a 22), .ref (a 23), .ref (a 24), .ref (a 25), .ref (a 26), .ref (a 27), .ref (a 28), .ref (a 29), .ref (a 30), .ref (a 31), .ref (a 32), .ref (a 33), .ref (a 34), .ref (a 35), .long 0, .int 0, .ref (a 38), .ref (a 39), .int 0, .ref (a 41), .ref (a 42), .ref (a 43)])), ((a 21), .inl ((ca 21), 2, .inl (fun _ => 0)))] H := hP
  have hD : va_D A [(m0, .inr (8, [.int 1, .int 0, .int 0, .int 0, .ref (a 4), .int 0, .int 0, .int 0, .int 0, .int 0, .int 0, .long 0, .int 0, .int 0, .int 0, .int 0, .int 0, .int 0, .ref (a 18), .ref (a 19), .ref (a 20), .ref (a 21), .ref (a 22), .ref (a 23), .ref (a 24), .ref (a 25), .ref (a 26), .ref (a 27), .ref (a 28), .ref (a 29), .ref (a 30), .ref (a 31), .ref (a 32), .ref (a 33), .ref (a 34), .ref (a 35), .long 0, .int 0, .ref (a 38), .ref (a 39), .int 0, .ref (a 41), .ref (a 42), .ref (a 43)])), ((a 21), .inl ((ca 21), 2, .inl (fun _ => 0)))] := hD
  refine lv_aload_n hx hb dX9_sooner_32 rfl (lv_at hl 0 rfl) ?_
  have hPc := hP.sub (ws' := [(m0, .inr (8, [.int 1, .int 0, .int 0, .int 0, .ref (a 4), .int 0, .int 0, .int 0, .int 0, .int 0, .int 0, .long 0, .int 0, .int 0, .int 0, .int 0, .int 0, .int 0, .ref (a 18), .ref (a 19), .ref (a 20), .ref (a 21), .ref (a 22), .ref (a 23), .ref (a 24), .ref (a 25), .ref (a 26), .ref (a 27), .ref (a 28), .ref (a 29), .ref (a 30), .ref (a 31), .ref (a 32), .ref (a 33), .ref (a 34), .ref (a 35), .long 0, .int 0, .ref (a 38), .ref (a 39), .int 0, .ref (a 41), .ref (a 42), .ref (a 43)])), ((a 21), .inl ((ca 21), 2, .inl (fun _ => 0)))]) [0, 1] rfl
  have hKc := hK.sub (tys' := [((ca 21), .int)]) [0] rfl
  refine va_csv ((va_runV (As := []) (rest := []) ⟨hx, hb, hml, hown, hts⟩ (c_9lays1 l dC dI g (m0) (a) (ca) ) (cwV 0 hts (gwV qw_338 qw_339 qw_340 qw_23 qw_337) rfl rfl rfl (by decide +kernel) ⟨Nat.le_of_ble_eq_true rfl, Nat.le_of_ble_eq_true rfl⟩) ⟨fun a U g9 mk q => ⟨q.1, q.2.1, va_K.moved (u := U) (U := U.calling g9 mk a) (Vm.Alike.refl U.vm) q.2.2.1, Ev.bl q.2.2.2⟩, va_recv hK hP (ci := 8) (q0 := 0) rfl rfl, fun U hU hW => ⟨rfl, by rw [hU]; exact hPc, va_K.moved hW.alike hKc, hE.go hS (fun _ h => h.elim) hU hW⟩⟩ rfl rfl hl.1 rfl (lv_room (Nat.le_of_ble_eq_true rfl)) dX9_sooner_33 ⟨Nat.le_of_ble_eq_true rfl, Nat.le_of_ble_eq_true rfl⟩)).run (fun _ => ?_)
  refine lv_aload_n hx hb dX9_sooner_36 rfl (lv_at hl 0 rfl) ?_
  refine va_get (D := (dC, dI)) (ci := 8) (v := .int 1) (C := RX9) (T := TX9) (N := 44) hx hb hts inlX9 hown hK hP 0 rfl rfl 0 (by decide) (hts (.fieldLink RX9 85 "ClosedUntilModel" "thrown" "I") qw_43) (fun _ h9 => h9) rfl dX9_sooner_37 ?_
  refine lv_iconst (v := 1) hx hb dX9_sooner_40 (by decide) ?_
  refine lv_icmp_ne (tgt := 48) hx hb dX9_sooner_41 (by decide) (fun c41_3 => by exfalso; exact absurd c41_3 (by decide)) (fun c41_3 => ?_)
  refine lv_iconst (v := 0) hx hb dX9_sooner_44 (by decide) ?_
  refine lv_goto (tgt := 65) hx hb dX9_sooner_45 (by decide) ?_
  refine W.widen (k := 0) (n := 0) (Nat.le_of_ble_eq_true rfl) (Nat.le_of_ble_eq_true rfl) ?_
  have hP9 := hP.sub (ws' := [(m0, .inr (8, [.int 1, .int 0, .int 0, .int 0, .ref (a 4), .int 0, .int 0, .int 0, .int 0, .int 0, .int 0, .long 0, .int 0, .int 0, .int 0, .int 0, .int 0, .int 0, .ref (a 18), .ref (a 19), .ref (a 20), .ref (a 21), .ref (a 22), .ref (a 23), .ref (a 24), .ref (a 25), .ref (a 26), .ref (a 27), .ref (a 28), .ref (a 29), .ref (a 30), .ref (a 31), .ref (a 32), .ref (a 33), .ref (a 34), .ref (a 35), .long 0, .int 0, .ref (a 38), .ref (a 39), .int 0, .ref (a 41), .ref (a 42), .ref (a 43)]))]) [0] rfl
  have hD9 := hD.sub (ws' := [(m0, .inr (8, [.int 1, .int 0, .int 0, .int 0, .ref (a 4), .int 0, .int 0, .int 0, .int 0, .int 0, .int 0, .long 0, .int 0, .int 0, .int 0, .int 0, .int 0, .int 0, .ref (a 18), .ref (a 19), .ref (a 20), .ref (a 21), .ref (a 22), .ref (a 23), .ref (a 24), .ref (a 25), .ref (a 26), .ref (a 27), .ref (a 28), .ref (a 29), .ref (a 30), .ref (a 31), .ref (a 32), .ref (a 33), .ref (a 34), .ref (a 35), .long 0, .int 0, .ref (a 38), .ref (a 39), .int 0, .ref (a 41), .ref (a 42), .ref (a 43)]))]) [0] (by decide) rfl
  have hK9 := hK.sub (tys' := []) [] rfl
  exact W.iret (v := 0) hx hb hr (fun t ht hW => ⟨⟨0, (), rfl, (rfl), by rw [ht]; exact hP9, va_K.moved hW.alike hK9, hD9⟩, hS.F ht⟩) hS.2.2 dX9_sooner_65
set_option maxHeartbeats 4000000 in
set_option maxRecDepth 100000 in
theorem c_9thrown (l : Launch) (dC : Nat → ClassId) (dI : Nat → Nat → Nat) (g : Gv) (m0 : Nat) (a : Nat → Nat) (ca : Nat → ClassId)  : Met l yX9_thrown (.code yX9_thrown cX9_thrown 1 (some .int) :: TBL) ({ frames := 1, cells := 0, slots := 0, locals := 40 }) (va_Pc [.ref m0] (fun U => va_P (dC, dI) vwCl [(m0, .inr (8, [.int 1, .int 0, .int 0, .int 0, .ref (a 4), .int 0, .int 0, .int 0, .int 0, .int 0, .int 0, .long 0, .int 0, .int 0, .int 0, .int 0, .int 0, .int 0, .ref (a 18), .ref (a 19), .ref (a 20), .ref (a 21), .ref (a 22), .ref (a 23), .ref (a 24), .ref (a 25), .ref (a 26), .ref (a 27), .ref (a 28), .ref (a 29), .ref (a 30), .ref (a 31), .ref (a 32), .ref (a 33), .ref (a 34), .ref (a 35), .long 0, .int 0, .ref (a 38), .ref (a 39), .int 0, .ref (a 41), .ref (a 42), .ref (a 43)]))] U.heap ∧ va_K (dC, dI) vwCl [] U ∧ Ev g (fun _ => False) U)) (vp_Si (fun r => r = 1)) 0 0 (fun _ => False) := by
  refine Met.ofW (cc := cX9_thrown) (maxL := 1) (ret := (some .int)) (by decide) rfl ?_
  intro p e s m args below meth c s₁ B hml hv
  obtain ⟨rfl, hP, hK, hE⟩ := hv
  have hx := B.exec
  have hb := B.bytes
  have hr := B.returns
  have hts0 := atoms_spec (ws := (.code yX9_thrown cX9_thrown 1 (some .int) :: TBL)) B.pre
  have hts := fun (w : Cond) (h : w ∈ TBL) => hts0 w (List.mem_cons_of_mem _ h)
  have hown : s.vm.findClass RX9 = some m.cls := findClass_of_methodNamed B.named
  have hlocks := B.notSynchronized
  have hN := hE.1
  have hS : va_S (fun _ => False) s.heap s.heap [] := va_S.rf
  have hP : va_P (dC, dI) vwCl [(m0, .inr (8, [.int 1, .int 0, .int 0, .int 0, .ref (a 4), .int 0, .int 0, .int 0, .int 0, .int 0, .int 0, .long 0, .int 0, .int 0, .int 0, .int 0, .int 0, .int 0, .ref (a 18), .ref (a 19), .ref (a 20), .ref (a 21), .ref (a 22), .ref (a 23), .ref (a 24), .ref (a 25), .ref (a 26), .ref (a 27), .ref (a 28), .ref (a 29), .ref (a 30), .ref (a 31), .ref (a 32), .ref (a 33), .ref (a 34), .ref (a 35), .long 0, .int 0, .ref (a 38), .ref (a 39), .int 0, .ref (a 41), .ref (a 42), .ref (a 43)]))] s.heap := hP
  have hl := lv_entry ([.ref m0]) (n := 1) (Nat.le_of_ble_eq_true rfl)
  rw [lg_entry_eq]
  generalize (lg_sl ([.ref m0]) ++ List.replicate (1 - (lg_sl ([.ref m0])).length) Slot.unset).toArray = ls at hl ⊢
  have hl : lv_has ls 1 [(0, .ref m0)] := hl
  refine lv_aload_n hx hb dX9_thrown_0 rfl (lv_at hl 0 rfl) ?_
  refine va_get (D := (dC, dI)) (ci := 8) (v := .int 1) (C := RX9) (T := TX9) (N := 44) hx hb hts inlX9 hown hK hP 0 rfl rfl 0 (by decide) (hts (.fieldLink RX9 85 "ClosedUntilModel" "thrown" "I") qw_43) (fun _ h9 => h9) rfl dX9_thrown_1 ?_
  exact W.iret (v := 1) hx hb hr (fun t ht hW => ⟨1, rfl, (rfl), ht⟩) (fun _ h => absurd h List.not_mem_nil) dX9_thrown_4
