theorem dX5_init_0 : decode cX5_init 0 = .ok (.aload_n 0, 1) := by decide +kernel
theorem dX5_init_1 : decode cX5_init 1 = .ok (.invokespecial 3, 3) := by decide +kernel
theorem dX5_init_4 : decode cX5_init 4 = .ok (.aload_n 0, 1) := by decide +kernel
theorem dX5_init_5 : decode cX5_init 5 = .ok (.new 9, 3) := by decide +kernel
theorem dX5_init_8 : decode cX5_init 8 = .ok (.dup, 1) := by decide +kernel
theorem dX5_init_9 : decode cX5_init 9 = .ok (.invokespecial 11, 3) := by decide +kernel
theorem dX5_init_12 : decode cX5_init 12 = .ok (.putfield 12, 3) := by decide +kernel
theorem dX5_init_15 : decode cX5_init 15 = .ok (.aload_n 0, 1) := by decide +kernel
theorem dX5_init_16 : decode cX5_init 16 = .ok (.bipush 36, 2) := by decide +kernel
theorem dX5_init_18 : decode cX5_init 18 = .ok (.newarray .long, 2) := by decide +kernel
theorem dX5_init_20 : decode cX5_init 20 = .ok (.putfield 18, 3) := by decide +kernel
theorem dX5_init_23 : decode cX5_init 23 = .ok (.aload_n 0, 1) := by decide +kernel
theorem dX5_init_24 : decode cX5_init 24 = .ok (.bipush 36, 2) := by decide +kernel
theorem dX5_init_26 : decode cX5_init 26 = .ok (.newarray .int, 2) := by decide +kernel
theorem dX5_init_28 : decode cX5_init 28 = .ok (.putfield 22, 3) := by decide +kernel
theorem dX5_init_31 : decode cX5_init 31 = .ok (.aload_n 0, 1) := by decide +kernel
theorem dX5_init_32 : decode cX5_init 32 = .ok (.bipush 36, 2) := by decide +kernel
theorem dX5_init_34 : decode cX5_init 34 = .ok (.newarray .int, 2) := by decide +kernel
theorem dX5_init_36 : decode cX5_init 36 = .ok (.putfield 26, 3) := by decide +kernel
theorem dX5_init_39 : decode cX5_init 39 = .ok (.return_, 1) := by decide +kernel
theorem dX7_init_0 : decode cX7_init 0 = .ok (.aload_n 0, 1) := by decide +kernel
theorem dX7_init_1 : decode cX7_init 1 = .ok (.invokespecial 1, 3) := by decide +kernel
theorem dX7_init_4 : decode cX7_init 4 = .ok (.aload_n 0, 1) := by decide +kernel
theorem dX7_init_5 : decode cX7_init 5 = .ok (.bipush 12, 2) := by decide +kernel
theorem dX7_init_7 : decode cX7_init 7 = .ok (.newarray .long, 2) := by decide +kernel
theorem dX7_init_9 : decode cX7_init 9 = .ok (.putfield 9, 3) := by decide +kernel
theorem dX7_init_12 : decode cX7_init 12 = .ok (.aload_n 0, 1) := by decide +kernel
theorem dX7_init_13 : decode cX7_init 13 = .ok (.iconst 0, 1) := by decide +kernel
theorem dX7_init_14 : decode cX7_init 14 = .ok (.newarray .byte, 2) := by decide +kernel
theorem dX7_init_16 : decode cX7_init 16 = .ok (.putfield 13, 3) := by decide +kernel
theorem dX7_init_19 : decode cX7_init 19 = .ok (.iconst 0, 1) := by decide +kernel
theorem dX7_init_20 : decode cX7_init 20 = .ok (.istore_n 1, 1) := by decide +kernel
theorem dX7_init_21 : decode cX7_init 21 = .ok (.iconst 0, 1) := by decide +kernel
theorem dX7_init_22 : decode cX7_init 22 = .ok (.istore_n 2, 1) := by decide +kernel
theorem dX7_init_23 : decode cX7_init 23 = .ok (.iload_n 2, 1) := by decide +kernel
theorem dX7_init_24 : decode cX7_init 24 = .ok (.ldc 17, 2) := by decide +kernel
theorem dX7_init_26 : decode cX7_init 26 = .ok (.invokevirtual 19, 3) := by decide +kernel
theorem dX7_init_29 : decode cX7_init 29 = .ok (.if_icmp .ge 53, 3) := by decide +kernel
theorem dX7_init_32 : decode cX7_init 32 = .ok (.iload_n 1, 1) := by decide +kernel
theorem dX7_init_33 : decode cX7_init 33 = .ok (.bipush 12, 2) := by decide +kernel
theorem dX7_init_35 : decode cX7_init 35 = .ok (.if_icmp .ge 47, 3) := by decide +kernel
theorem dX7_init_38 : decode cX7_init 38 = .ok (.ldc 17, 2) := by decide +kernel
theorem dX7_init_40 : decode cX7_init 40 = .ok (.iload_n 2, 1) := by decide +kernel
theorem dX7_init_41 : decode cX7_init 41 = .ok (.invokevirtual 25, 3) := by decide +kernel
theorem dX7_init_44 : decode cX7_init 44 = .ok (.bipush 32, 2) := by decide +kernel
theorem dX7_init_46 : decode cX7_init 46 = .ok (.if_icmp .ne 9, 3) := by decide +kernel
theorem dX7_init_49 : decode cX7_init 49 = .ok (.iinc 1 1, 3) := by decide +kernel
theorem dX7_init_52 : decode cX7_init 52 = .ok (.goto 24, 3) := by decide +kernel
theorem dX7_init_55 : decode cX7_init 55 = .ok (.aload_n 0, 1) := by decide +kernel
theorem dX7_init_56 : decode cX7_init 56 = .ok (.getfield 9, 3) := by decide +kernel
theorem dX7_init_59 : decode cX7_init 59 = .ok (.iload_n 1, 1) := by decide +kernel
theorem dX7_init_60 : decode cX7_init 60 = .ok (.aload_n 0, 1) := by decide +kernel
theorem dX7_init_61 : decode cX7_init 61 = .ok (.getfield 9, 3) := by decide +kernel
theorem dX7_init_64 : decode cX7_init 64 = .ok (.iload_n 1, 1) := by decide +kernel
theorem dX7_init_65 : decode cX7_init 65 = .ok (.laload, 1) := by decide +kernel
theorem dX7_init_66 : decode cX7_init 66 = .ok (.ldc 17, 2) := by decide +kernel
theorem dX7_init_68 : decode cX7_init 68 = .ok (.iload_n 2, 1) := by decide +kernel
theorem dX7_init_69 : decode cX7_init 69 = .ok (.invokevirtual 25, 3) := by decide +kernel
theorem dX7_init_72 : decode cX7_init 72 = .ok (.invokestatic 29, 3) := by decide +kernel
theorem dX7_init_75 : decode cX7_init 75 = .ok (.lastore, 1) := by decide +kernel
theorem dX7_init_76 : decode cX7_init 76 = .ok (.iinc 2 1, 3) := by decide +kernel
theorem dX7_init_79 : decode cX7_init 79 = .ok (.goto (-56), 3) := by decide +kernel
theorem dX7_init_82 : decode cX7_init 82 = .ok (.return_, 1) := by decide +kernel
theorem qw_687 : (Cond.methodLink RX7 1 objectInit : Cond) ∈ TBL := List.mem_of_getElem? (i := 61) (by decide +kernel)
theorem qw_688 : (Cond.arrayClass .long : Cond) ∈ TBL := List.mem_of_getElem? (i := 6) (by decide +kernel)
theorem qw_689 : (Cond.methodLink RX7 19 yJ0_length_8abf5 : Cond) ∈ TBL := List.mem_of_getElem? (i := 64) (by decide +kernel)
theorem qw_690 : (Cond.methodLink RX7 25 yJ0_charAt_5068e : Cond) ∈ TBL := List.mem_of_getElem? (i := 76) (by decide +kernel)
theorem qw_691 : (Cond.methodLink RX5 3 objectInit : Cond) ∈ TBL := List.mem_of_getElem? (i := 50) (by decide +kernel)
theorem qw_692 : (Cond.classLink RX5 9 RX7 : Cond) ∈ TBL := List.mem_of_getElem? (i := 51) (by decide +kernel)
theorem qw_693 : (Cond.instantiable RX7 8 : Cond) ∈ TBL := List.mem_of_getElem? (i := 52) (by decide +kernel)
theorem qw_694 : (Cond.code yX7_init cX7_init 3 none : Cond) ∈ TBL := List.mem_of_getElem? (i := 60) (by decide +kernel)
theorem qw_695 : (Cond.instanceMethod yX7_init : Cond) ∈ TBL := List.mem_of_getElem? (i := 59) (by decide +kernel)
theorem rgD3_83d8d61 {A : Nat → Prop} {c0 c1 c2 : Nat × va_E} (h : va_D A ([c0, c1, c2])) : va_D A ([c0, c1]) := h.sub (ws' := [c0, c1]) [0, 1] (by decide +kernel) rfl
theorem rgS3_2531338 {A : Nat → Prop} {D : va_G} {cl : List vw_C} {H : Heap} {c0 c1 c2 : Nat × va_E} {d e : Nat × va_E} (hP : va_P D cl (([c0, c1, c2]).set 1 d) H) (hD : va_D A (([c0, c1, c2]).set 1 d)) (h : d = e) : va_P D cl ([c0, e, c2]) H ∧ va_D A ([c0, e, c2]) := by subst h; exact ⟨hP, hD⟩
theorem rgP2_72487bf {D : va_G} {cl : List vw_C} {H : Heap} {c0 c1 : Nat × va_E} (h : va_P D cl ([c0, c1]) H) : va_P D cl ([c1]) H := h.sub (ws' := [c1]) [1] rfl
theorem rgD2_ac84cc5 {A : Nat → Prop} {c0 c1 : Nat × va_E} (h : va_D A ([c0, c1])) : va_D A ([c1]) := h.sub (ws' := [c1]) [1] (by decide +kernel) rfl
theorem rgJ2_842ecba {A0 : Nat → Prop} {D : va_G} {cl : List vw_C} {H H1 : Heap} {c0 c1 : Nat × va_E} {d0 d1 : Nat × va_E} (hP : va_P D cl ([c0, c1]) H) (hD : va_D A0 ([c0, c1])) (hk : ∀ q : Nat, q < H.size → ¬ va_A ([c1]) H.size q → H1[q]? = H[q]?) (hF : ∀ q, va_A ([c1]) H.size q → A0 q) (hP1 : va_P D cl ([d0, d1]) H1) (hD1 : va_D (va_A ([c1]) H.size) ([d0, d1])) : va_P D cl ([c0, d0, d1]) H1 ∧ va_D A0 ([c0, d0, d1]) := by
  obtain ⟨h1, h2⟩ := va_join (ws := [c0, c1]) (wc := [c1]) (wr := [c0]) (w1 := [d0, d1]) hP hD [1] [0] rfl rfl (by decide +kernel) (by decide +kernel) hk hF hP1 hD1
  exact ⟨va_P.sub (ws := [c0, d0, d1]) (ws' := [c0, d0, d1]) h1 [0, 1, 2] rfl, va_D.sub (ws := [c0, d0, d1]) (ws' := [c0, d0, d1]) h2 [0, 1, 2] (by decide +kernel) rfl⟩
theorem rgA0_488387b {D : va_G} {cl : List vw_C} {U : State} {u0 : ClassId × FieldType} (h : va_K D cl [] U) (h1 : va_K D cl [u0] U) : va_K D cl [u0] U := h.app h1
set_option maxHeartbeats 4000000 in
set_option maxRecDepth 100000 in
theorem k_kwch (l : Launch) (dC : Nat → ClassId) (dI : Nat → Nat → Nat) (g : Gv) (a1 : Int32) (hi : 0 ≤ a1.toInt ∧ a1.toInt < 68) : Met l yJ0_charAt_5068e (.code yJ0_charAt_5068e cJ0_charAt_5068e 2 (some .char) :: TBL) ({ frames := 3, cells := 0, slots := 0, locals := 120 }) (va_Pc [.ref g.2.1, .int a1] (fun U => va_P (dC, dI) vwCl [] U.heap ∧ va_K (dC, dI) vwCl [] U ∧ Ev g (fun _ => False) U)) (vp_Si (fun (r : Int32) => narrow .char (.int r) = .int r)) 0 0 (fun _ => False) := by
  obtain ⟨n, hn, e⟩ : ∃ n : Nat, n < 68 ∧ a1 = nI n := ⟨a1.toInt.toNat, by omega, Int32.toInt_inj.mp (by rw [nI_toInt (by omega)]; omega)⟩
  subst e
  exact c_ch l dC dI g n hn
set_option maxHeartbeats 4000000 in
set_option maxRecDepth 100000 in
theorem k_X7_init (l : Launch) (dC : Nat → ClassId) (dI : Nat → Nat → Nat) (g : Gv) (sz : Nat) (a0 : Nat)  : Met l yX7_init (.code yX7_init cX7_init 3 none :: TBL) ({ frames := 4, cells := 2, slots := 12, locals := 141 }) (va_Pc [.ref a0] (fun U => U.heap.size = sz ∧ va_P (dC, dI) vwCl [(a0, .inr (6, [.null, .null, .int 0, .int 0, .int 0, .int 0, .long 0, .int 0]))] U.heap ∧ va_K (dC, dI) vwCl [] U ∧ va_D (fun _ => True) [(a0, .inr (6, [.null, .null, .int 0, .int 0, .int 0, .int 0, .long 0, .int 0]))] ∧ Ev g (va_A [(a0, .inr (6, [.null, .null, .int 0, .int 0, .int 0, .int 0, .long 0, .int 0]))] sz) U)) (va_Qv (fun (_ : Unit) => True) (fun (_ : Unit) (t : State) => ∃ (za0_0 : Nat) (za0_1 : Nat) (za0_0_c : ClassId) (za0_0_f : Nat → Int64), va_P (dC, dI) vwCl [(a0, .inr (6, [.ref za0_0, .ref za0_1, .int 0, .int 0, .int 0, .int 0, .long 0, .int 0])), (za0_0, .inl (za0_0_c, 12, .inr (.inl za0_0_f)))] t.heap ∧ va_K (dC, dI) vwCl [(za0_0_c, .long)] t ∧ va_D (va_A [(a0, .inr (6, [.null, .null, .int 0, .int 0, .int 0, .int 0, .long 0, .int 0]))] sz) [(a0, .inr (6, [.ref za0_0, .ref za0_1, .int 0, .int 0, .int 0, .int 0, .long 0, .int 0])), (za0_0, .inl (za0_0_c, 12, .inr (.inl za0_0_f)))]) (va_A [(a0, .inr (6, [.null, .null, .int 0, .int 0, .int 0, .int 0, .long 0, .int 0]))] sz)) 2 12 (va_A [(a0, .inr (6, [.null, .null, .int 0, .int 0, .int 0, .int 0, .long 0, .int 0]))] sz) := by
  refine Met.ofW (cc := cX7_init) (maxL := 3) (ret := none) (by decide) rfl ?_
  intro p e s m args below meth c s₁ B hml hv
  obtain ⟨rfl, hsz, hP, hK, hD0, hE⟩ := hv
  have hx := B.exec
  have hb := B.bytes
  have hr := B.returns
  have hts0 := atoms_spec (ws := (.code yX7_init cX7_init 3 none :: TBL)) B.pre
  have hts := fun (w : Cond) (h : w ∈ TBL) => hts0 w (List.mem_cons_of_mem _ h)
  have hown : s.vm.findClass RX7 = some m.cls := findClass_of_methodNamed B.named
  have hlocks := B.notSynchronized
  have hN := hE.1
  have hin : meth.name = "<init>" := (name_of_methodNamed B.named B.method).1
  subst hsz
  have hD := hD0.self (sz := s.heap.size)
  generalize hAe : va_A [(a0, .inr (6, [.null, .null, .int 0, .int 0, .int 0, .int 0, .long 0, .int 0]))] s.heap.size = A at hD hE ⊢
  have hA : ∀ q : Nat, s.heap.size ≤ q → A q := fun q h => by rw [← hAe]; exact Or.inr h
  have hS : va_S A s.heap s.heap [] := va_S.rf
  replace hP : va_P (dC, dI) vwCl [(a0, .inr (6, [.null, .null, .int 0, .int 0, .int 0, .int 0, .long 0, .int 0]))] s.heap := hP
  have hl := lv_entry ([.ref a0]) (n := 3) (Nat.le_of_ble_eq_true rfl)
  rw [lg_entry_eq]
  generalize (lg_sl ([.ref a0]) ++ List.replicate (3 - (lg_sl ([.ref a0])).length) Slot.unset).toArray = ls at hl ⊢
  have hl : lv_has ls 3 [(0, .ref a0)] := hl
  refine lv_aload_n hx hb dX7_init_0 rfl (lv_at hl 0 rfl) ?_
  refine W.objInit hx hb hown (hts (.methodLink RX7 1 objectInit) qw_687) (hts (.instanceMethod objectInit) qw_669) (hts (.code objectInit ⟨#[0xb1]⟩ 1 none) qw_670) rfl (by rw [hml]; exact hl.1) rfl dX7_init_1 (Nat.le_of_ble_eq_true rfl) (Nat.le_of_ble_eq_true rfl) ?_
  refine W.eq (g2 := F0 m 4 ls []) rfl ?_
  refine lv_aload_n hx hb dX7_init_4 rfl (lv_at hl 0 rfl) ?_
  refine lv_bipush (v := 12) hx hb dX7_init_5 (by decide) ?_
  refine va_newa (atype := .long) (ty := .long) (a0 := (12, .inr (.inl (fun _ => 0)))) (N' := 12) hx hb (hts (.arrayClass .long) qw_688) rfl hK hP hD hS hA (fun _ => rfl) (by decide) (by decide) (Nat.le_of_ble_eq_true rfl) (Nat.le_of_ble_eq_true rfl) (Nat.le_of_ble_eq_true rfl) dX7_init_7 (fun q1 cA2 H hK hP hD hS => ?_)
  replace hK : va_K (dC, dI) vwCl [(cA2, .long)] s := hK
  have hJ9 := rgG1_69c5b20 hP hD
  clear hP hD; obtain ⟨hP, hD⟩ := hJ9
  refine W.widen (k := 1) (n := 12) (Nat.le_of_ble_eq_true rfl) (Nat.le_of_ble_eq_true rfl) ?_
  refine va_putF (D := (dC, dI)) (ci := 6) (v := .ref q1) (ty := .array .long) (C := RX7) (T := TX7) (N := 8) hx hb hts inlX7 tyX7 tyX7_ok nmX7 hown hK hP hD hS 0 rgL2_5ac5f51 rfl 0 (by decide) (hts (.fieldLink RX7 9 "ClosedUntil$Tokens" "keywords" "[J") qw_62) (fun _ h9 => h9) rfl hin rfl (by decide +kernel) rfl rfl (Nat.le_of_ble_eq_true rfl) dX7_init_9 (fun H locs hP9 hD9 hS9 => ?_)
  clear hP hD hS
  obtain ⟨hP, hD⟩ := rgS2_40109d0 (e := (a0, .inr (6, [.ref q1, .null, .int 0, .int 0, .int 0, .int 0, .long 0, .int 0]))) hP9 hD9 rfl
  have hS := hS9; clear hP9 hD9 hS9
  refine lv_aload_n hx hb dX7_init_12 rfl (lv_at hl 0 rfl) ?_
  refine lv_iconst (v := 0) hx hb dX7_init_13 (by decide) ?_
  refine va_newa (atype := .byte) (ty := .byte) (a0 := (0, .inl (fun _ => 0))) (N' := 0) hx hb (hts (.arrayClass .byte) qw_671) rfl hK hP hD hS hA (fun _ => rfl) (by decide) (by decide) (Nat.le_of_ble_eq_true rfl) (Nat.le_of_ble_eq_true rfl) (Nat.le_of_ble_eq_true rfl) dX7_init_14 (fun q3 cA4 H hK hP hD hS => ?_)
  replace hK : va_K (dC, dI) vwCl [(cA2, .long), (cA4, .byte)] s := hK
  have hJ9 := rgG2_ba1d474 hP hD
  clear hP hD; obtain ⟨hP, hD⟩ := hJ9
  refine W.widen (k := 2) (n := 12) (Nat.le_of_ble_eq_true rfl) (Nat.le_of_ble_eq_true rfl) ?_
  refine va_put (D := (dC, dI)) (ci := 6) (v := .ref q3) (ty := .array .byte) (C := RX7) (T := TX7) (N := 8) hx hb hts inlX7 tyX7 tyX7_ok nmX7 hown hK hP hD hS 0 rgL3_619f1f5 rfl 1 (by decide) (hts (.fieldLink RX7 13 "ClosedUntil$Tokens" "bytes" "[B") qw_68) (fun _ h9 => h9) rfl (by decide +kernel) rfl rfl (Nat.le_of_ble_eq_true rfl) dX7_init_16 (fun H locs hP9 hD9 hS9 => ?_)
  clear hP hD hS
  obtain ⟨hP, hD⟩ := rgS3_dd231b9 (e := (a0, .inr (6, [.ref q1, .ref q3, .int 0, .int 0, .int 0, .int 0, .long 0, .int 0]))) hP9 hD9 rfl
  have hS := hS9; clear hP9 hD9 hS9
  refine lv_iconst (v := 0) hx hb dX7_init_19 (by decide) ?_
  refine lv_istore_n (lv' := [(1, .int 0), (0, .ref a0)]) hx hb dX7_init_20 rfl hl (by decide) rfl (fun ls hl => ?_)
  refine lv_iconst (v := 0) hx hb dX7_init_21 (by decide) ?_
  refine lv_istore_n (lv' := [(2, .int 0), (1, .int 0), (0, .ref a0)]) hx hb dX7_init_22 rfl hl (by decide) rfl (fun ls hl => ?_)
  have qc0 : (0 : Int32).toInt = 0 := by decide
  refine wloop (fun n H locs ls => ∃ (l23_2 : Int32) (l23_1 : Int32) (w23_1 : Nat → Int64), n = (2147483647 - l23_2.toInt).toNat ∧ (0 ≤ l23_2.toInt) ∧ (0 ≤ l23_1.toInt ∧ l23_1.toInt ≤ 12) ∧ lv_has ls 3 [(2, .int l23_2), (1, .int l23_1), (0, .ref a0)] ∧ va_P (dC, dI) vwCl [(a0, .inr (6, [.ref q1, .ref q3, .int 0, .int 0, .int 0, .int 0, .long 0, .int 0])), (q1, .inl (cA2, 12, .inr (.inl w23_1))), (q3, .inl (cA4, 0, .inl (fun _ => 0)))] H ∧ va_D A [(a0, .inr (6, [.ref q1, .ref q3, .int 0, .int 0, .int 0, .int 0, .long 0, .int 0])), (q1, .inl (cA2, 12, .inr (.inl w23_1))), (q3, .inl (cA4, 0, .inl (fun _ => 0)))] ∧ va_S A s.heap H locs) ?_ ((2147483647 - (0 : Int32).toInt).toNat) _ _ _ ⟨0, 0, (fun _ => 0), rfl, (by omega), (by omega), lv_sub hl [0, 1, 2] rfl, hP, hD, hS⟩
  intro n23 H locs ls hI ih23
  obtain ⟨l23_2, l23_1, w23_1, hn23, g_l23_2, gx23_0, hl, hP, hD, hS⟩ := hI
  have b_l23_2 := i32b l23_2
  have b_l23_1 := i32b l23_1
  refine lv_iload_n hx hb dX7_init_23 rfl (lv_at hl 0 rfl) ?_
  refine va_ldcS hx hb hown hE.2.2.2.1 dX7_init_24 ?_
  have hPc := (rgP3_953bfe7 hP)
  have hKc := (rgK2_b4df2fa hK)
  refine vp_callSi ((va_runV (As := []) (rest := [.int l23_2]) ⟨hx, hb, hml, hown, hts⟩ (c_len l dC dI g  ) (cwV 0 hts (gwV qw_689 qw_378 qw_379 qw_356 qw_376) rfl rfl rfl (by decide +kernel) ⟨Nat.le_of_ble_eq_true rfl, Nat.le_of_ble_eq_true rfl⟩) ⟨fun a U g9 mk q => ⟨q.1, q.2.1, va_K.moved (u := U) (U := U.calling g9 mk a) (Vm.Alike.refl U.vm) q.2.2.1, Ev.bl q.2.2.2⟩, hE.recv hS, fun U hU hW => ⟨rfl, atB hU hPc, va_K.moved hW.alike hKc, hE.go hS (fun _ h => h.elim) hU hW⟩⟩ rfl rfl hl.1 rfl (lv_room (Nat.le_of_ble_eq_true rfl)) dX7_init_26 ⟨Nat.le_of_ble_eq_true rfl, Nat.le_of_ble_eq_true rfl⟩)).run (fun r5 h_r5 => ?_)
  have h_r5 : r5 = 68 := h_r5
  subst h_r5
  refine lv_icmp_ge (tgt := 82) hx hb dX7_init_29 (by decide) (fun c29_6 => ?_) (fun c29_6 => ?_)
  · have c29_6 : 68 ≤ l23_2.toInt := (cv_le (by decide) rfl).mp c29_6
    have hP9 := (rgP3_dd6138b hP)
    have hD9 := (rgD3_83d8d61 hD)
    have hK9 := (rgK2_58023b0 hK)
    refine W.widen (k := 2) (n := 12) (Nat.le_of_ble_eq_true rfl) (Nat.le_of_ble_eq_true rfl) ?_
    exact W.vret hx hb hr (fun t ht hW => ⟨⟨(), rfl, trivial, q1, q3, cA2, w23_1, atB ht hP9, va_K.moved hW.alike hK9, hD9⟩, hS.F ht⟩) hS.2.2 dX7_init_82
  · have c29_6 : ¬ (68 ≤ l23_2.toInt) := mt (cv_le (by decide) rfl).mpr c29_6
    refine lv_iload_n hx hb dX7_init_32 rfl (lv_at hl 1 rfl) ?_
    refine lv_bipush (v := 12) hx hb dX7_init_33 (by decide) ?_
    refine lv_icmp_ge (tgt := 82) hx hb dX7_init_35 (by decide) (fun c35_7 => ?_) (fun c35_7 => ?_)
    · have c35_7 : 12 ≤ l23_1.toInt := (cv_le (by decide) rfl).mp c35_7
      have hP9 := (rgP3_dd6138b hP)
      have hD9 := (rgD3_83d8d61 hD)
      have hK9 := (rgK2_58023b0 hK)
      refine W.widen (k := 2) (n := 12) (Nat.le_of_ble_eq_true rfl) (Nat.le_of_ble_eq_true rfl) ?_
      exact W.vret hx hb hr (fun t ht hW => ⟨⟨(), rfl, trivial, q1, q3, cA2, w23_1, atB ht hP9, va_K.moved hW.alike hK9, hD9⟩, hS.F ht⟩) hS.2.2 dX7_init_82
    · have c35_7 : ¬ (12 ≤ l23_1.toInt) := mt (cv_le (by decide) rfl).mpr c35_7
      refine va_ldcS hx hb hown hE.2.2.2.1 dX7_init_38 ?_
      refine lv_iload_n hx hb dX7_init_40 rfl (lv_at hl 0 rfl) ?_
      have hPc := (rgP3_953bfe7 hP)
      have hKc := (rgK2_b4df2fa hK)
      refine vp_callSi ((va_runV (As := [.int l23_2]) (rest := []) ⟨hx, hb, hml, hown, hts⟩ (k_kwch l dC dI g (l23_2) (by omega)) (cwV 1 hts (gwV qw_690 qw_382 qw_383 qw_356 qw_380) rfl rfl rfl (by decide +kernel) ⟨Nat.le_of_ble_eq_true rfl, Nat.le_of_ble_eq_true rfl⟩) ⟨fun a U g9 mk q => ⟨q.1, q.2.1, va_K.moved (u := U) (U := U.calling g9 mk a) (Vm.Alike.refl U.vm) q.2.2.1, Ev.bl q.2.2.2⟩, hE.recv hS, fun U hU hW => ⟨rfl, atB hU hPc, va_K.moved hW.alike hKc, hE.go hS (fun _ h => h.elim) hU hW⟩⟩ rfl rfl hl.1 rfl (lv_room (Nat.le_of_ble_eq_true rfl)) dX7_init_41 ⟨Nat.le_of_ble_eq_true rfl, Nat.le_of_ble_eq_true rfl⟩)).run (fun r8 h_r8 => ?_)
      have h_r8 : narrow .char (.int r8) = .int r8 := h_r8
      have b_r8 := i32b r8
      refine lv_bipush (v := 32) hx hb dX7_init_44 (by decide) ?_
      refine lv_icmp_ne (tgt := 55) hx hb dX7_init_46 (by decide) (fun c46_9 => ?_) (fun c46_9 => ?_)
      · have c46_9 : ¬ (r8.toInt = 32) := mt (cv_eq rfl (by decide)).mpr c46_9
        refine lv_aload_n hx hb dX7_init_55 rfl (lv_at hl 2 rfl) ?_
        refine va_get (D := (dC, dI)) (ci := 6) (v := .ref q1) (C := RX7) (T := TX7) (N := 8) hx hb hts inlX7 hown hK hP 0 rgL3_619f1f5 rfl 0 (by decide) (hts (.fieldLink RX7 9 "ClosedUntil$Tokens" "keywords" "[J") qw_62) (fun _ h9 => h9) rfl dX7_init_56 ?_
        refine lv_iload_n hx hb dX7_init_59 rfl (lv_at hl 1 rfl) ?_
        refine lv_aload_n hx hb dX7_init_60 rfl (lv_at hl 2 rfl) ?_
        refine va_get (D := (dC, dI)) (ci := 6) (v := .ref q1) (C := RX7) (T := TX7) (N := 8) hx hb hts inlX7 hown hK hP 0 rgL3_619f1f5 rfl 0 (by decide) (hts (.fieldLink RX7 9 "ClosedUntil$Tokens" "keywords" "[J") qw_62) (fun _ h9 => h9) rfl dX7_init_61 ?_
        refine lv_iload_n hx hb dX7_init_64 rfl (lv_at hl 1 rfl) ?_
        refine va_lald hx hb hK hP 1 0 rgL3_6f2f016 rgT2_453da77 (vinI (by omega) (by omega)) dX7_init_65 ?_
        refine lv_topl (fun x10 e_x10 => ?_)
        refine va_ldcS hx hb hown hE.2.2.2.1 dX7_init_66 ?_
        refine lv_iload_n hx hb dX7_init_68 rfl (lv_at hl 0 rfl) ?_
        have hPc := (rgP3_953bfe7 hP)
        have hKc := (rgK2_b4df2fa hK)
        refine vp_callSi ((va_runV (As := [.int l23_2]) (rest := [.long x10, .int l23_1, .ref q1]) ⟨hx, hb, hml, hown, hts⟩ (k_kwch l dC dI g (l23_2) (by omega)) (cwV 1 hts (gwV qw_690 qw_382 qw_383 qw_356 qw_380) rfl rfl rfl (by decide +kernel) ⟨Nat.le_of_ble_eq_true rfl, Nat.le_of_ble_eq_true rfl⟩) ⟨fun a U g9 mk q => ⟨q.1, q.2.1, va_K.moved (u := U) (U := U.calling g9 mk a) (Vm.Alike.refl U.vm) q.2.2.1, Ev.bl q.2.2.2⟩, hE.recv hS, fun U hU hW => ⟨rfl, atB hU hPc, va_K.moved hW.alike hKc, hE.go hS (fun _ h => h.elim) hU hW⟩⟩ rfl rfl hl.1 rfl (lv_room (Nat.le_of_ble_eq_true rfl)) dX7_init_69 ⟨Nat.le_of_ble_eq_true rfl, Nat.le_of_ble_eq_true rfl⟩)).run (fun r11 h_r11 => ?_)
        have h_r11 : narrow .char (.int r11) = .int r11 := h_r11
        have b_r11 := i32b r11
        have hPc := (rgP3_953bfe7 hP)
        have hKc := (rgK2_b4df2fa hK)
        refine vp_callSl ((va_runS (As := [.long x10, .int r11]) (rest := [.int l23_1, .ref q1]) ⟨hx, hb, hml, hown, hts⟩ (k_X7_withLetter l dC dI g (x10) (r11) ) (va_cwS 2 hts (gwS qw_82 qw_83 qw_70 qw_81) rfl rfl rfl (by decide +kernel) ⟨Nat.le_of_ble_eq_true rfl, Nat.le_of_ble_eq_true rfl⟩) ⟨fun a U g9 mk q => ⟨q.1, q.2.1, va_K.moved (u := U) (U := U.calling g9 mk a) (Vm.Alike.refl U.vm) q.2.2.1, Ev.bl q.2.2.2⟩, fun U hU hW => ⟨rfl, atB hU hPc, va_K.moved hW.alike hKc, hE.go hS (fun _ h => h.elim) hU hW⟩⟩ rfl rfl hl.1 rfl (lv_room (Nat.le_of_ble_eq_true rfl)) dX7_init_72 ⟨Nat.le_of_ble_eq_true rfl, Nat.le_of_ble_eq_true rfl⟩)).run (fun r12 h_r12 => ?_)
        refine va_last hx hb hK hP hD hS 1 0 rgL3_6f2f016 rgT2_453da77 (vinI (by omega) (by omega)) dX7_init_75 (fun H locs hP9 hD9 hS9 => ?_)
        obtain ⟨y13, e_y13⟩ : ∃ y, (vp_updL w23_1 l23_1.toNatClampNeg r12) = y := ⟨_, rfl⟩
        clear hP hD hS
        obtain ⟨hP, hD⟩ := rgS3_2531338 (e := (q1, .inl (cA2, 12, .inr (.inl y13)))) hP9 hD9 (congrArg (fun z9 => (((q1, .inl (cA2, 12, .inr (.inl z9))) : Nat × va_E))) e_y13)
        have hS := hS9; clear hP9 hD9 hS9
        obtain ⟨x14, e_x14⟩ : ∃ y : Int32, y = l23_2 + 1 := ⟨_, rfl⟩
        refine lv_iinc (v := x14) (lv' := [(2, .int x14), (1, .int l23_1), (0, .ref a0)]) hx hb dX7_init_76 hl (k := 0) rfl (by rw [e_x14]; rfl) (by decide) rfl (fun ls hl => ?_)
        try have e_x14 := ti_add e_x14 rfl (show (1 : Int32).toInt = 1 by decide) (by omega)
        refine lv_goto (tgt := 23) hx hb dX7_init_79 (by decide) ?_
        exact ih23 ((2147483647 - x14.toInt).toNat) _ _ _ (by omega) ⟨x14, l23_1, y13, rfl, (by omega), (by omega), lv_sub hl [0, 1, 2] rfl, hP, hD, hS⟩
      · have c46_9 : r8.toInt = 32 := (cv_eq rfl (by decide)).mp c46_9
        obtain ⟨x15, e_x15⟩ : ∃ y : Int32, y = l23_1 + 1 := ⟨_, rfl⟩
        refine lv_iinc (v := x15) (lv' := [(1, .int x15), (2, .int l23_2), (0, .ref a0)]) hx hb dX7_init_49 hl (k := 1) rfl (by rw [e_x15]; rfl) (by decide) rfl (fun ls hl => ?_)
        try have e_x15 := ti_add e_x15 rfl (show (1 : Int32).toInt = 1 by decide) (by omega)
        refine lv_goto (tgt := 76) hx hb dX7_init_52 (by decide) ?_
        obtain ⟨x16, e_x16⟩ : ∃ y : Int32, y = l23_2 + 1 := ⟨_, rfl⟩
        refine lv_iinc (v := x16) (lv' := [(2, .int x16), (1, .int x15), (0, .ref a0)]) hx hb dX7_init_76 hl (k := 1) rfl (by rw [e_x16]; rfl) (by decide) rfl (fun ls hl => ?_)
        try have e_x16 := ti_add e_x16 rfl (show (1 : Int32).toInt = 1 by decide) (by omega)
        refine lv_goto (tgt := 23) hx hb dX7_init_79 (by decide) ?_
        exact ih23 ((2147483647 - x16.toInt).toNat) _ _ _ (by omega) ⟨x16, x15, w23_1, rfl, (by omega), (by omega), lv_sub hl [0, 1, 2] rfl, hP, hD, hS⟩
set_option maxHeartbeats 4000000 in
set_option maxRecDepth 100000 in
theorem k_X5_init (l : Launch) (dC : Nat → ClassId) (dI : Nat → Nat → Nat) (g : Gv) (sz : Nat) (a0 : Nat)  : Met l yX5_init (.code yX5_init cX5_init 1 none :: TBL) ({ frames := 5, cells := 6, slots := 128, locals := 163 }) (va_Pc [.ref a0] (fun U => U.heap.size = sz ∧ va_P (dC, dI) vwCl [(a0, .inr (4, [.null, .null, .null, .null, .int 0, .int 0]))] U.heap ∧ va_K (dC, dI) vwCl [] U ∧ va_D (fun _ => True) [(a0, .inr (4, [.null, .null, .null, .null, .int 0, .int 0]))] ∧ Ev g (va_A [(a0, .inr (4, [.null, .null, .null, .null, .int 0, .int 0]))] sz) U)) (va_Qv (fun (_ : Unit) => True) (fun (_ : Unit) (t : State) => ∃ (za0_0 : Nat) (za0_1 : Nat) (za0_2 : Nat) (za0_3 : Nat) (za0_0_0 : Nat) (za0_0_1 : Nat) (za0_0_0_c : ClassId) (za0_0_0_f : Nat → Int64) (za0_1_c : ClassId) (za0_2_c : ClassId) (za0_3_c : ClassId), va_P (dC, dI) vwCl [(a0, .inr (4, [.ref za0_0, .ref za0_1, .ref za0_2, .ref za0_3, .int 0, .int 0])), (za0_0, .inr (6, [.ref za0_0_0, .ref za0_0_1, .int 0, .int 0, .int 0, .int 0, .long 0, .int 0])), (za0_0_0, .inl (za0_0_0_c, 12, .inr (.inl za0_0_0_f))), (za0_1, .inl (za0_1_c, 36, .inr (.inl (fun _ => 0)))), (za0_2, .inl (za0_2_c, 36, .inl (fun _ => 0))), (za0_3, .inl (za0_3_c, 36, .inl (fun _ => 0)))] t.heap ∧ va_K (dC, dI) vwCl [(za0_0_0_c, .long), (za0_1_c, .long), (za0_2_c, .int), (za0_3_c, .int)] t ∧ va_D (va_A [(a0, .inr (4, [.null, .null, .null, .null, .int 0, .int 0]))] sz) [(a0, .inr (4, [.ref za0_0, .ref za0_1, .ref za0_2, .ref za0_3, .int 0, .int 0])), (za0_0, .inr (6, [.ref za0_0_0, .ref za0_0_1, .int 0, .int 0, .int 0, .int 0, .long 0, .int 0])), (za0_0_0, .inl (za0_0_0_c, 12, .inr (.inl za0_0_0_f))), (za0_1, .inl (za0_1_c, 36, .inr (.inl (fun _ => 0)))), (za0_2, .inl (za0_2_c, 36, .inl (fun _ => 0))), (za0_3, .inl (za0_3_c, 36, .inl (fun _ => 0)))]) (va_A [(a0, .inr (4, [.null, .null, .null, .null, .int 0, .int 0]))] sz)) 6 128 (va_A [(a0, .inr (4, [.null, .null, .null, .null, .int 0, .int 0]))] sz) := by
  refine Met.ofW (cc := cX5_init) (maxL := 1) (ret := none) (by decide) rfl ?_
  intro p e s m args below meth c s₁ B hml hv
  obtain ⟨rfl, hsz, hP, hK, hD0, hE⟩ := hv
  have hx := B.exec
  have hb := B.bytes
  have hr := B.returns
  have hts0 := atoms_spec (ws := (.code yX5_init cX5_init 1 none :: TBL)) B.pre
  have hts := fun (w : Cond) (h : w ∈ TBL) => hts0 w (List.mem_cons_of_mem _ h)
  have hown : s.vm.findClass RX5 = some m.cls := findClass_of_methodNamed B.named
  have hlocks := B.notSynchronized
  have hN := hE.1
  have hin : meth.name = "<init>" := (name_of_methodNamed B.named B.method).1
  subst hsz
  have hD := hD0.self (sz := s.heap.size)
  generalize hAe : va_A [(a0, .inr (4, [.null, .null, .null, .null, .int 0, .int 0]))] s.heap.size = A at hD hE ⊢
  have hA : ∀ q : Nat, s.heap.size ≤ q → A q := fun q h => by rw [← hAe]; exact Or.inr h
  have hS : va_S A s.heap s.heap [] := va_S.rf
  replace hP : va_P (dC, dI) vwCl [(a0, .inr (4, [.null, .null, .null, .null, .int 0, .int 0]))] s.heap := hP
  have hl := lv_entry ([.ref a0]) (n := 1) (Nat.le_of_ble_eq_true rfl)
  rw [lg_entry_eq]
  generalize (lg_sl ([.ref a0]) ++ List.replicate (1 - (lg_sl ([.ref a0])).length) Slot.unset).toArray = ls at hl ⊢
  have hl : lv_has ls 1 [(0, .ref a0)] := hl
  refine lv_aload_n hx hb dX5_init_0 rfl (lv_at hl 0 rfl) ?_
  refine W.objInit hx hb hown (hts (.methodLink RX5 3 objectInit) qw_691) (hts (.instanceMethod objectInit) qw_669) (hts (.code objectInit ⟨#[0xb1]⟩ 1 none) qw_670) rfl (by rw [hml]; exact hl.1) rfl dX5_init_1 (Nat.le_of_ble_eq_true rfl) (Nat.le_of_ble_eq_true rfl) ?_
  refine W.eq (g2 := F0 m 4 ls []) rfl ?_
  refine lv_aload_n hx hb dX5_init_4 rfl (lv_at hl 0 rfl) ?_
  refine va_new (ci := 6) (fs := [.null, .null, .int 0, .int 0, .int 0, .int 0, .long 0, .int 0]) (C := RX7) (T := TX7) (N := 8) hx hb hts inlX7 tyX7 tyX7_ok hown (hts (.classLink RX5 9 RX7) qw_692) (hts (.instantiable RX7 8) qw_693) (hts (.initialized RX7) qw_70) hK hP hD hS hA rfl dv_X7 (Nat.le_of_ble_eq_true rfl) (Nat.le_of_ble_eq_true rfl) dX5_init_5 (fun q1 H hP hD hS => ?_)
  have hJ9 := rgG1_69c5b20 hP hD
  clear hP hD; obtain ⟨hP, hD⟩ := hJ9
  refine W.widen (k := 1) (n := 8) (Nat.le_of_ble_eq_true rfl) (Nat.le_of_ble_eq_true rfl) ?_
  refine lv_dup hx hb dX5_init_8 rfl ?_
  have hPc := (rgP2_72487bf hP)
  have hKc := hK
  have hDc := (rgD2_ac84cc5 hD)
  have hFc := freeW hDc hS hA
  refine va_callv (va_runIN (As := []) (rest := [.ref q1, .ref a0]) ⟨hx, hb, hml, hown, hts⟩ (k_X7_init l dC dI g H.size (q1) ) ⟨va_cnB 0 hts (gwC qw_694) rfl rfl rfl (nm_2 hN) (hts (.initialized RX7) qw_70) (by decide +kernel) ⟨Nat.le_of_ble_eq_true rfl, Nat.le_of_ble_eq_true rfl⟩, rfl, (hts (.instanceMethod yX7_init) qw_695)⟩ ⟨fun a U g9 mk q => ⟨q.1, q.2.1, q.2.2.1, va_K.moved (u := U) (U := U.calling g9 mk a) (Vm.Alike.refl U.vm) q.2.2.2.1, q.2.2.2.2.1, Ev.bl q.2.2.2.2.2⟩, fun U hU hW => ⟨rfl, by rw [hU], atB hU hPc, va_K.moved hW.alike hKc, hDc.weaken (fun _ _ _ _ => trivial), hE.go hS hFc hU hW⟩⟩ rfl rfl hl.1 rfl (lv_room (Nat.le_of_ble_eq_true rfl)) dX5_init_9 ⟨Nat.le_of_ble_eq_true rfl, Nat.le_of_ble_eq_true rfl⟩) hS (fun q _ h => hFc q h) hFc (fun u2 t H1 locs ht hvm h_u2 hB hz1 hk1 hS => ?_)
  obtain ⟨za0_0_4, za0_1_5, za0_0_c_6, za0_0_f_7, hP1, hK1, hD1⟩ := hB
  have hK1 := va_K.moved hvm.symm hK1
  have hJ9 := rgJ2_842ecba hP hD hk1 hFc (atH ht hP1) hD1
  clear hP hD hPc hKc hDc hFc hP1 hD1 hk1 hz1
  obtain ⟨hP, hD⟩ := hJ9
  replace hK := rgA0_488387b hK hK1
  clear hK1
  generalize H1 = H at hP hS ⊢
  refine W.widen (k := 3) (n := 20) (Nat.le_of_ble_eq_true rfl) (Nat.le_of_ble_eq_true rfl) ?_
  refine va_putF (D := (dC, dI)) (ci := 4) (v := .ref q1) (ty := .object "ClosedUntil$Tokens") (C := RX5) (T := TX5) (N := 6) hx hb hts inlX5 tyX5 tyX5_ok nmX5 hown hK hP hD hS 0 rgL3_619f1f5 rfl 0 (by decide) (hts (.fieldLink RX5 12 "ClosedUntil$TextReader" "tokens" "LClosedUntil$Tokens;") qw_98) (fun _ h9 => h9) rfl hin rfl (by decide +kernel) rfl rfl (Nat.le_of_ble_eq_true rfl) dX5_init_12 (fun H locs hP9 hD9 hS9 => ?_)
  clear hP hD hS
  obtain ⟨hP, hD⟩ := rgS3_dd231b9 (e := (a0, .inr (4, [.ref q1, .null, .null, .null, .int 0, .int 0]))) hP9 hD9 rfl
  have hS := hS9; clear hP9 hD9 hS9
  refine lv_aload_n hx hb dX5_init_15 rfl (lv_at hl 0 rfl) ?_
  refine lv_bipush (v := 36) hx hb dX5_init_16 (by decide) ?_
  refine va_newa (atype := .long) (ty := .long) (a0 := (36, .inr (.inl (fun _ => 0)))) (N' := 36) hx hb (hts (.arrayClass .long) qw_688) rfl hK hP hD hS hA (fun _ => rfl) (by decide) (by decide) (Nat.le_of_ble_eq_true rfl) (Nat.le_of_ble_eq_true rfl) (Nat.le_of_ble_eq_true rfl) dX5_init_18 (fun q8 cA9 H hK hP hD hS => ?_)
  replace hK : va_K (dC, dI) vwCl [(za0_0_c_6, .long), (cA9, .long)] s := hK
  have hJ9 := rgG3_99a7846 hP hD
  clear hP hD; obtain ⟨hP, hD⟩ := hJ9
  refine W.widen (k := 4) (n := 56) (Nat.le_of_ble_eq_true rfl) (Nat.le_of_ble_eq_true rfl) ?_
  refine va_putF (D := (dC, dI)) (ci := 4) (v := .ref q8) (ty := .array .long) (C := RX5) (T := TX5) (N := 6) hx hb hts inlX5 tyX5 tyX5_ok nmX5 hown hK hP hD hS 0 rgL4_25bb07f rfl 1 (by decide) (hts (.fieldLink RX5 18 "ClosedUntil$TextReader" "names" "[J") qw_109) (fun _ h9 => h9) rfl hin rfl (by decide +kernel) rfl rfl (Nat.le_of_ble_eq_true rfl) dX5_init_20 (fun H locs hP9 hD9 hS9 => ?_)
  clear hP hD hS
  obtain ⟨hP, hD⟩ := rgS4_3ebc7b6 (e := (a0, .inr (4, [.ref q1, .ref q8, .null, .null, .int 0, .int 0]))) hP9 hD9 rfl
  have hS := hS9; clear hP9 hD9 hS9
  refine lv_aload_n hx hb dX5_init_23 rfl (lv_at hl 0 rfl) ?_
  refine lv_bipush (v := 36) hx hb dX5_init_24 (by decide) ?_
  refine va_newa (atype := .int) (ty := .int) (a0 := (36, .inl (fun _ => 0))) (N' := 36) hx hb (hts (.arrayClass .int) qw_54) rfl hK hP hD hS hA (fun _ => rfl) (by decide) (by decide) (Nat.le_of_ble_eq_true rfl) (Nat.le_of_ble_eq_true rfl) (Nat.le_of_ble_eq_true rfl) dX5_init_26 (fun q10 cA11 H hK hP hD hS => ?_)
  replace hK : va_K (dC, dI) vwCl [(za0_0_c_6, .long), (cA9, .long), (cA11, .int)] s := hK
  have hJ9 := rgG4_09643f2 hP hD
  clear hP hD; obtain ⟨hP, hD⟩ := hJ9
  refine W.widen (k := 5) (n := 92) (Nat.le_of_ble_eq_true rfl) (Nat.le_of_ble_eq_true rfl) ?_
  refine va_putF (D := (dC, dI)) (ci := 4) (v := .ref q10) (ty := .array .int) (C := RX5) (T := TX5) (N := 6) hx hb hts inlX5 tyX5 tyX5_ok nmX5 hown hK hP hD hS 0 rgL5_a6879b9 rfl 2 (by decide) (hts (.fieldLink RX5 22 "ClosedUntil$TextReader" "nameKinds" "[I") qw_110) (fun _ h9 => h9) rfl hin rfl (by decide +kernel) rfl rfl (Nat.le_of_ble_eq_true rfl) dX5_init_28 (fun H locs hP9 hD9 hS9 => ?_)
  clear hP hD hS
  obtain ⟨hP, hD⟩ := rgS5_283d4d4 (e := (a0, .inr (4, [.ref q1, .ref q8, .ref q10, .null, .int 0, .int 0]))) hP9 hD9 rfl
  have hS := hS9; clear hP9 hD9 hS9
  refine lv_aload_n hx hb dX5_init_31 rfl (lv_at hl 0 rfl) ?_
  refine lv_bipush (v := 36) hx hb dX5_init_32 (by decide) ?_
  refine va_newa (atype := .int) (ty := .int) (a0 := (36, .inl (fun _ => 0))) (N' := 36) hx hb (hts (.arrayClass .int) qw_54) rfl hK hP hD hS hA (fun _ => rfl) (by decide) (by decide) (Nat.le_of_ble_eq_true rfl) (Nat.le_of_ble_eq_true rfl) (Nat.le_of_ble_eq_true rfl) dX5_init_34 (fun q12 cA13 H hK hP hD hS => ?_)
  replace hK : va_K (dC, dI) vwCl [(za0_0_c_6, .long), (cA9, .long), (cA11, .int), (cA13, .int)] s := hK
  have hJ9 := rgG5_26d9b8b hP hD
  clear hP hD; obtain ⟨hP, hD⟩ := hJ9
  refine W.widen (k := 6) (n := 128) (Nat.le_of_ble_eq_true rfl) (Nat.le_of_ble_eq_true rfl) ?_
  refine va_putF (D := (dC, dI)) (ci := 4) (v := .ref q12) (ty := .array .int) (C := RX5) (T := TX5) (N := 6) hx hb hts inlX5 tyX5 tyX5_ok nmX5 hown hK hP hD hS 0 rgL6_3f800dd rfl 3 (by decide) (hts (.fieldLink RX5 26 "ClosedUntil$TextReader" "nameNumbers" "[I") qw_111) (fun _ h9 => h9) rfl hin rfl (by decide +kernel) rfl rfl (Nat.le_of_ble_eq_true rfl) dX5_init_36 (fun H locs hP9 hD9 hS9 => ?_)
  clear hP hD hS
  obtain ⟨hP, hD⟩ := rgS6_fcbeb75 (e := (a0, .inr (4, [.ref q1, .ref q8, .ref q10, .ref q12, .int 0, .int 0]))) hP9 hD9 rfl
  have hS := hS9; clear hP9 hD9 hS9
  have hP9 := hP
  have hD9 := hD
  have hK9 := hK
  refine W.widen (k := 6) (n := 128) (Nat.le_of_ble_eq_true rfl) (Nat.le_of_ble_eq_true rfl) ?_
  exact W.vret hx hb hr (fun t ht hW => ⟨⟨(), rfl, trivial, q1, q8, q10, q12, za0_0_4, za0_1_5, za0_0_c_6, za0_0_f_7, cA9, cA11, cA13, atB ht hP9, va_K.moved hW.alike hK9, hD9⟩, hS.F ht⟩) hS.2.2 dX5_init_39
