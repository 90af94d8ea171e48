theorem dX9_plusYears_0 : decode cX9_plusYears 0 = .ok (.iload_n 1, 1) := by decide +kernel
theorem dX9_plusYears_1 : decode cX9_plusYears 1 = .ok (.ldc 110, 2) := by decide +kernel
theorem dX9_plusYears_3 : decode cX9_plusYears 3 = .ok (.if_icmp .ne 6, 3) := by decide +kernel
theorem dX9_plusYears_6 : decode cX9_plusYears 6 = .ok (.ldc 110, 2) := by decide +kernel
theorem dX9_plusYears_8 : decode cX9_plusYears 8 = .ok (.ireturn, 1) := by decide +kernel
theorem dX9_plusYears_9 : decode cX9_plusYears 9 = .ok (.aload_n 0, 1) := by decide +kernel
theorem dX9_plusYears_10 : decode cX9_plusYears 10 = .ok (.iload_n 1, 1) := by decide +kernel
theorem dX9_plusYears_11 : decode cX9_plusYears 11 = .ok (.invokevirtual 111, 3) := by decide +kernel
theorem dX9_plusYears_14 : decode cX9_plusYears 14 = .ok (.aload_n 0, 1) := by decide +kernel
theorem dX9_plusYears_15 : decode cX9_plusYears 15 = .ok (.getfield 101, 3) := by decide +kernel
theorem dX9_plusYears_18 : decode cX9_plusYears 18 = .ok (.iload_n 2, 1) := by decide +kernel
theorem dX9_plusYears_19 : decode cX9_plusYears 19 = .ok (.iadd, 1) := by decide +kernel
theorem dX9_plusYears_20 : decode cX9_plusYears 20 = .ok (.istore_n 3, 1) := by decide +kernel
theorem dX9_plusYears_21 : decode cX9_plusYears 21 = .ok (.iload_n 3, 1) := by decide +kernel
theorem dX9_plusYears_22 : decode cX9_plusYears 22 = .ok (.sipush 2299, 3) := by decide +kernel
theorem dX9_plusYears_25 : decode cX9_plusYears 25 = .ok (.if_icmp .le 6, 3) := by decide +kernel
theorem dX9_plusYears_28 : decode cX9_plusYears 28 = .ok (.ldc 110, 2) := by decide +kernel
theorem dX9_plusYears_30 : decode cX9_plusYears 30 = .ok (.ireturn, 1) := by decide +kernel
theorem dX9_plusYears_31 : decode cX9_plusYears 31 = .ok (.iload_n 3, 1) := by decide +kernel
theorem dX9_plusYears_32 : decode cX9_plusYears 32 = .ok (.sipush 1700, 3) := by decide +kernel
theorem dX9_plusYears_35 : decode cX9_plusYears 35 = .ok (.if_icmp .ge 5, 3) := by decide +kernel
theorem dX9_plusYears_38 : decode cX9_plusYears 38 = .ok (.iconst 0, 1) := by decide +kernel
theorem dX9_plusYears_39 : decode cX9_plusYears 39 = .ok (.ireturn, 1) := by decide +kernel
theorem dX9_plusYears_40 : decode cX9_plusYears 40 = .ok (.iload_n 3, 1) := by decide +kernel
theorem dX9_plusYears_41 : decode cX9_plusYears 41 = .ok (.aload_n 0, 1) := by decide +kernel
theorem dX9_plusYears_42 : decode cX9_plusYears 42 = .ok (.getfield 104, 3) := by decide +kernel
theorem dX9_plusYears_45 : decode cX9_plusYears 45 = .ok (.invokestatic 97, 3) := by decide +kernel
theorem dX9_plusYears_48 : decode cX9_plusYears 48 = .ok (.istore 4, 2) := by decide +kernel
theorem dX9_plusYears_50 : decode cX9_plusYears 50 = .ok (.iload_n 3, 1) := by decide +kernel
theorem dX9_plusYears_51 : decode cX9_plusYears 51 = .ok (.aload_n 0, 1) := by decide +kernel
theorem dX9_plusYears_52 : decode cX9_plusYears 52 = .ok (.getfield 104, 3) := by decide +kernel
theorem dX9_plusYears_55 : decode cX9_plusYears 55 = .ok (.aload_n 0, 1) := by decide +kernel
theorem dX9_plusYears_56 : decode cX9_plusYears 56 = .ok (.getfield 107, 3) := by decide +kernel
theorem dX9_plusYears_59 : decode cX9_plusYears 59 = .ok (.iload 4, 2) := by decide +kernel
theorem dX9_plusYears_61 : decode cX9_plusYears 61 = .ok (.if_icmp .le 8, 3) := by decide +kernel
theorem dX9_plusYears_64 : decode cX9_plusYears 64 = .ok (.iload 4, 2) := by decide +kernel
theorem dX9_plusYears_66 : decode cX9_plusYears 66 = .ok (.goto 7, 3) := by decide +kernel
theorem dX9_plusYears_69 : decode cX9_plusYears 69 = .ok (.aload_n 0, 1) := by decide +kernel
theorem dX9_plusYears_70 : decode cX9_plusYears 70 = .ok (.getfield 107, 3) := by decide +kernel
theorem dX9_plusYears_73 : decode cX9_plusYears 73 = .ok (.invokestatic 115, 3) := by decide +kernel
theorem dX9_plusYears_76 : decode cX9_plusYears 76 = .ok (.ireturn, 1) := by decide +kernel
theorem qw_35 : (Cond.constant RX9 110 (219145) : Cond) ∈ TBL := List.mem_of_getElem? (i := 545) (by decide +kernel)
theorem qw_36 : (Cond.code yX9_tellsApart cX9_tellsApart 3 none : Cond) ∈ TBL := List.mem_of_getElem? (i := 521) (by decide +kernel)
theorem qw_37 : (Cond.methodLink RX9 111 yX9_tellsApart : Cond) ∈ TBL := List.mem_of_getElem? (i := 518) (by decide +kernel)
theorem qw_38 : (Cond.instanceMethod yX9_tellsApart : Cond) ∈ TBL := List.mem_of_getElem? (i := 519) (by decide +kernel)
theorem qw_39 : (Cond.selects RX9 yX9_tellsApart yX9_tellsApart : Cond) ∈ TBL := List.mem_of_getElem? (i := 520) (by decide +kernel)
theorem qw_40 : (Cond.code yX9_dayOf cX9_dayOf 5 (some .int) : Cond) ∈ TBL := List.mem_of_getElem? (i := 450) (by decide +kernel)
theorem qw_41 : (Cond.methodLink RX9 115 yX9_dayOf : Cond) ∈ TBL := List.mem_of_getElem? (i := 448) (by decide +kernel)
theorem qw_42 : (Cond.static yX9_dayOf : Cond) ∈ TBL := List.mem_of_getElem? (i := 449) (by decide +kernel)
set_option maxHeartbeats 4000000 in
set_option maxRecDepth 100000 in
theorem c_py_L (l : Launch) (dC : Nat → ClassId) (dI : Nat → Nat → Nat) (g : Gv) (sz : Nat) (m0 : Nat) (a : Nat → Nat) (yn : Int32)  : Met l yX9_plusYears (.code yX9_plusYears cX9_plusYears 5 (some .int) :: TBL) ({ frames := 3, cells := 0, slots := 0, locals := 120 }) (va_Pc [.ref m0, .int (nI 219145), .int yn] (fun U => U.heap.size = sz ∧ va_P (dC, dI) vwCl [(m0, .inr (8, [.int 0, .int 0, .int 0, .int 0, .ref (a 4), .int 0, .int 0, .int 0, .int 0, .int 0, .int 0, .long 0, .int 0, .int 0, .int 0, .int 0, .int 0, .int 0, .ref (a 18), .ref (a 19), .ref (a 20), .ref (a 21), .ref (a 22), .ref (a 23), .ref (a 24), .ref (a 25), .ref (a 26), .ref (a 27), .ref (a 28), .ref (a 29), .ref (a 30), .ref (a 31), .ref (a 32), .ref (a 33), .ref (a 34), .ref (a 35), .long 0, .int 0, .ref (a 38), .ref (a 39), .int 0, .ref (a 41), .ref (a 42), .ref (a 43)]))] U.heap ∧ va_K (dC, dI) vwCl [] U ∧ va_D (fun _ => True) [(m0, .inr (8, [.int 0, .int 0, .int 0, .int 0, .ref (a 4), .int 0, .int 0, .int 0, .int 0, .int 0, .int 0, .long 0, .int 0, .int 0, .int 0, .int 0, .int 0, .int 0, .ref (a 18), .ref (a 19), .ref (a 20), .ref (a 21), .ref (a 22), .ref (a 23), .ref (a 24), .ref (a 25), .ref (a 26), .ref (a 27), .ref (a 28), .ref (a 29), .ref (a 30), .ref (a 31), .ref (a 32), .ref (a 33), .ref (a 34), .ref (a 35), .long 0, .int 0, .ref (a 38), .ref (a 39), .int 0, .ref (a 41), .ref (a 42), .ref (a 43)]))] ∧ Ev g (va_A [(m0, .inr (8, [.int 0, .int 0, .int 0, .int 0, .ref (a 4), .int 0, .int 0, .int 0, .int 0, .int 0, .int 0, .long 0, .int 0, .int 0, .int 0, .int 0, .int 0, .int 0, .ref (a 18), .ref (a 19), .ref (a 20), .ref (a 21), .ref (a 22), .ref (a 23), .ref (a 24), .ref (a 25), .ref (a 26), .ref (a 27), .ref (a 28), .ref (a 29), .ref (a 30), .ref (a 31), .ref (a 32), .ref (a 33), .ref (a 34), .ref (a 35), .long 0, .int 0, .ref (a 38), .ref (a 39), .int 0, .ref (a 41), .ref (a 42), .ref (a 43)]))] sz) U)) (va_Qi (fun (r : Int32) (u : Unit) => r = nI 219145) (fun (_ : Unit) (_ : State) => True) (va_A [(m0, .inr (8, [.int 0, .int 0, .int 0, .int 0, .ref (a 4), .int 0, .int 0, .int 0, .int 0, .int 0, .int 0, .long 0, .int 0, .int 0, .int 0, .int 0, .int 0, .int 0, .ref (a 18), .ref (a 19), .ref (a 20), .ref (a 21), .ref (a 22), .ref (a 23), .ref (a 24), .ref (a 25), .ref (a 26), .ref (a 27), .ref (a 28), .ref (a 29), .ref (a 30), .ref (a 31), .ref (a 32), .ref (a 33), .ref (a 34), .ref (a 35), .long 0, .int 0, .ref (a 38), .ref (a 39), .int 0, .ref (a 41), .ref (a 42), .ref (a 43)]))] sz)) 0 0 (va_A [(m0, .inr (8, [.int 0, .int 0, .int 0, .int 0, .ref (a 4), .int 0, .int 0, .int 0, .int 0, .int 0, .int 0, .long 0, .int 0, .int 0, .int 0, .int 0, .int 0, .int 0, .ref (a 18), .ref (a 19), .ref (a 20), .ref (a 21), .ref (a 22), .ref (a 23), .ref (a 24), .ref (a 25), .ref (a 26), .ref (a 27), .ref (a 28), .ref (a 29), .ref (a 30), .ref (a 31), .ref (a 32), .ref (a 33), .ref (a 34), .ref (a 35), .long 0, .int 0, .ref (a 38), .ref (a 39), .int 0, .ref (a 41), .ref (a 42), .ref (a 43)]))] sz) := by
  refine Met.ofW (cc := cX9_plusYears) (maxL := 5) (ret := (some .int)) (by decide) rfl ?_
  intro p e s m args below meth c s₁ B hml hv
  obtain ⟨rfl, hsz, hP, hK, hD0, hE⟩ := hv
  have hx := B.exec
  have hb := B.bytes
  have hr := B.returns
  have hts0 := atoms_spec (ws := (.code yX9_plusYears cX9_plusYears 5 (some .int) :: TBL)) B.pre
  have hts := fun (w : Cond) (h : w ∈ TBL) => hts0 w (List.mem_cons_of_mem _ h)
  have hown : s.vm.findClass RX9 = some m.cls := findClass_of_methodNamed B.named
  have hlocks := B.notSynchronized
  have hN := hE.1
  subst hsz
  have hD := hD0.self (sz := s.heap.size)
  generalize hAe : va_A [(m0, .inr (8, [.int 0, .int 0, .int 0, .int 0, .ref (a 4), .int 0, .int 0, .int 0, .int 0, .int 0, .int 0, .long 0, .int 0, .int 0, .int 0, .int 0, .int 0, .int 0, .ref (a 18), .ref (a 19), .ref (a 20), .ref (a 21), .ref (a 22), .ref (a 23), .ref (a 24), .ref (a 25), .ref (a 26), .ref (a 27), .ref (a 28), .ref (a 29), .ref (a 30), .ref (a 31), .ref (a 32), .ref (a 33), .ref (a 34), .ref (a 35), .long 0, .int 0, .ref (a 38), .ref (a 39), .int 0, .ref (a 41), .ref (a 42), .ref (a 43)]))] s.heap.size = A at hD hE ⊢
  have hA : ∀ q : Nat, s.heap.size ≤ q → A q := fun q h => by rw [← hAe]; exact Or.inr h
  have hS : va_S A s.heap s.heap [] := va_S.rf
  have hP : va_P (dC, dI) vwCl [(m0, .inr (8, [.int 0, .int 0, .int 0, .int 0, .ref (a 4), .int 0, .int 0, .int 0, .int 0, .int 0, .int 0, .long 0, .int 0, .int 0, .int 0, .int 0, .int 0, .int 0, .ref (a 18), .ref (a 19), .ref (a 20), .ref (a 21), .ref (a 22), .ref (a 23), .ref (a 24), .ref (a 25), .ref (a 26), .ref (a 27), .ref (a 28), .ref (a 29), .ref (a 30), .ref (a 31), .ref (a 32), .ref (a 33), .ref (a 34), .ref (a 35), .long 0, .int 0, .ref (a 38), .ref (a 39), .int 0, .ref (a 41), .ref (a 42), .ref (a 43)]))] s.heap := hP
  have hl := lv_entry ([.ref m0, .int (nI 219145), .int yn]) (n := 5) (Nat.le_of_ble_eq_true rfl)
  rw [lg_entry_eq]
  generalize (lg_sl ([.ref m0, .int (nI 219145), .int yn]) ++ List.replicate (5 - (lg_sl ([.ref m0, .int (nI 219145), .int yn])).length) Slot.unset).toArray = ls at hl ⊢
  have hl : lv_has ls 5 [(0, .ref m0), (1, .int (nI 219145)), (2, .int yn)] := hl
  refine lv_iload_n hx hb dX9_plusYears_0 rfl (lv_at hl 1 rfl) ?_
  refine lv_ldc (v := 219145) hx hb hown (hts (.constant RX9 110 (219145)) qw_35) dX9_plusYears_1 ?_
  refine lv_icmp_ne (tgt := 9) hx hb dX9_plusYears_3 (by decide) (fun c3_1 => by exfalso; have c3_1 : ¬ (((219145 : Nat) : Int) = 219145) := mt (cv_eq (nI_toInt (by omega)) (by decide)).mpr c3_1; omega) (fun c3_1 => ?_)
  have c3_1 : ((219145 : Nat) : Int) = 219145 := (cv_eq (nI_toInt (by omega)) (by decide)).mp c3_1
  refine lv_ldc (v := 219145) hx hb hown (hts (.constant RX9 110 (219145)) qw_35) dX9_plusYears_6 ?_
  refine W.widen (k := 0) (n := 0) (Nat.le_of_ble_eq_true rfl) (Nat.le_of_ble_eq_true rfl) ?_
  exact W.iret (v := 219145) hx hb hr (fun t ht hW => ⟨⟨219145, (), rfl, (rfl), trivial⟩, hS.F ht⟩) hS.2.2 dX9_plusYears_8
set_option maxHeartbeats 4000000 in
set_option maxRecDepth 100000 in
theorem c_py_A (l : Launch) (dC : Nat → ClassId) (dI : Nat → Nat → Nat) (g : Gv) (sz : Nat) (m0 : Nat) (a : Nat → Nat) (d : Nat) (k : Nat) (mo : Nat) (dd : Nat) (yn : Int32) (hk : k < 600) (hm1 : 1 ≤ mo) (hm2 : mo ≤ 12) (hd1 : 1 ≤ dd) (hd2 : dd ≤ mlN (1700 + k) mo) (hd : d = Fk k + Mk (1700 + k) mo + (dd - 1)) (hn : -600 ≤ yn.toInt ∧ yn.toInt ≤ 600) (hc : ((k : Nat) : Int) + yn.toInt < 0) : Met l yX9_plusYears (.code yX9_plusYears cX9_plusYears 5 (some .int) :: TBL) ({ frames := 3, cells := 0, slots := 0, locals := 120 }) (va_Pc [.ref m0, .int (nI d), .int yn] (fun U => U.heap.size = sz ∧ va_P (dC, dI) vwCl [(m0, .inr (8, [.int 0, .int 0, .int 0, .int 0, .ref (a 4), .int 0, .int 0, .int 0, .int 0, .int 0, .int 0, .long 0, .int 0, .int 0, .int 0, .int 0, .int 0, .int 0, .ref (a 18), .ref (a 19), .ref (a 20), .ref (a 21), .ref (a 22), .ref (a 23), .ref (a 24), .ref (a 25), .ref (a 26), .ref (a 27), .ref (a 28), .ref (a 29), .ref (a 30), .ref (a 31), .ref (a 32), .ref (a 33), .ref (a 34), .ref (a 35), .long 0, .int 0, .ref (a 38), .ref (a 39), .int 0, .ref (a 41), .ref (a 42), .ref (a 43)]))] U.heap ∧ va_K (dC, dI) vwCl [] U ∧ va_D (fun _ => True) [(m0, .inr (8, [.int 0, .int 0, .int 0, .int 0, .ref (a 4), .int 0, .int 0, .int 0, .int 0, .int 0, .int 0, .long 0, .int 0, .int 0, .int 0, .int 0, .int 0, .int 0, .ref (a 18), .ref (a 19), .ref (a 20), .ref (a 21), .ref (a 22), .ref (a 23), .ref (a 24), .ref (a 25), .ref (a 26), .ref (a 27), .ref (a 28), .ref (a 29), .ref (a 30), .ref (a 31), .ref (a 32), .ref (a 33), .ref (a 34), .ref (a 35), .long 0, .int 0, .ref (a 38), .ref (a 39), .int 0, .ref (a 41), .ref (a 42), .ref (a 43)]))] ∧ Ev g (va_A [(m0, .inr (8, [.int 0, .int 0, .int 0, .int 0, .ref (a 4), .int 0, .int 0, .int 0, .int 0, .int 0, .int 0, .long 0, .int 0, .int 0, .int 0, .int 0, .int 0, .int 0, .ref (a 18), .ref (a 19), .ref (a 20), .ref (a 21), .ref (a 22), .ref (a 23), .ref (a 24), .ref (a 25), .ref (a 26), .ref (a 27), .ref (a 28), .ref (a 29), .ref (a 30), .ref (a 31), .ref (a 32), .ref (a 33), .ref (a 34), .ref (a 35), .long 0, .int 0, .ref (a 38), .ref (a 39), .int 0, .ref (a 41), .ref (a 42), .ref (a 43)]))] sz) U)) (va_Qi (fun (r : Int32) (u : Unit) => r = nI 0) (fun (_ : Unit) (_ : State) => True) (va_A [(m0, .inr (8, [.int 0, .int 0, .int 0, .int 0, .ref (a 4), .int 0, .int 0, .int 0, .int 0, .int 0, .int 0, .long 0, .int 0, .int 0, .int 0, .int 0, .int 0, .int 0, .ref (a 18), .ref (a 19), .ref (a 20), .ref (a 21), .ref (a 22), .ref (a 23), .ref (a 24), .ref (a 25), .ref (a 26), .ref (a 27), .ref (a 28), .ref (a 29), .ref (a 30), .ref (a 31), .ref (a 32), .ref (a 33), .ref (a 34), .ref (a 35), .long 0, .int 0, .ref (a 38), .ref (a 39), .int 0, .ref (a 41), .ref (a 42), .ref (a 43)]))] sz)) 0 0 (va_A [(m0, .inr (8, [.int 0, .int 0, .int 0, .int 0, .ref (a 4), .int 0, .int 0, .int 0, .int 0, .int 0, .int 0, .long 0, .int 0, .int 0, .int 0, .int 0, .int 0, .int 0, .ref (a 18), .ref (a 19), .ref (a 20), .ref (a 21), .ref (a 22), .ref (a 23), .ref (a 24), .ref (a 25), .ref (a 26), .ref (a 27), .ref (a 28), .ref (a 29), .ref (a 30), .ref (a 31), .ref (a 32), .ref (a 33), .ref (a 34), .ref (a 35), .long 0, .int 0, .ref (a 38), .ref (a 39), .int 0, .ref (a 41), .ref (a 42), .ref (a 43)]))] sz) := by
  refine Met.ofW (cc := cX9_plusYears) (maxL := 5) (ret := (some .int)) (by decide) rfl ?_
  intro p e s m args below meth c s₁ B hml hv
  obtain ⟨rfl, hsz, hP, hK, hD0, hE⟩ := hv
  have hx := B.exec
  have hb := B.bytes
  have hr := B.returns
  have hts0 := atoms_spec (ws := (.code yX9_plusYears cX9_plusYears 5 (some .int) :: TBL)) B.pre
  have hts := fun (w : Cond) (h : w ∈ TBL) => hts0 w (List.mem_cons_of_mem _ h)
  have hown : s.vm.findClass RX9 = some m.cls := findClass_of_methodNamed B.named
  have hlocks := B.notSynchronized
  have hN := hE.1
  subst hsz
  have hD := hD0.self (sz := s.heap.size)
  generalize hAe : va_A [(m0, .inr (8, [.int 0, .int 0, .int 0, .int 0, .ref (a 4), .int 0, .int 0, .int 0, .int 0, .int 0, .int 0, .long 0, .int 0, .int 0, .int 0, .int 0, .int 0, .int 0, .ref (a 18), .ref (a 19), .ref (a 20), .ref (a 21), .ref (a 22), .ref (a 23), .ref (a 24), .ref (a 25), .ref (a 26), .ref (a 27), .ref (a 28), .ref (a 29), .ref (a 30), .ref (a 31), .ref (a 32), .ref (a 33), .ref (a 34), .ref (a 35), .long 0, .int 0, .ref (a 38), .ref (a 39), .int 0, .ref (a 41), .ref (a 42), .ref (a 43)]))] s.heap.size = A at hD hE ⊢
  have hA : ∀ q : Nat, s.heap.size ≤ q → A q := fun q h => by rw [← hAe]; exact Or.inr h
  have hS : va_S A s.heap s.heap [] := va_S.rf
  have hP : va_P (dC, dI) vwCl [(m0, .inr (8, [.int 0, .int 0, .int 0, .int 0, .ref (a 4), .int 0, .int 0, .int 0, .int 0, .int 0, .int 0, .long 0, .int 0, .int 0, .int 0, .int 0, .int 0, .int 0, .ref (a 18), .ref (a 19), .ref (a 20), .ref (a 21), .ref (a 22), .ref (a 23), .ref (a 24), .ref (a 25), .ref (a 26), .ref (a 27), .ref (a 28), .ref (a 29), .ref (a 30), .ref (a 31), .ref (a 32), .ref (a 33), .ref (a 34), .ref (a 35), .long 0, .int 0, .ref (a 38), .ref (a 39), .int 0, .ref (a 41), .ref (a 42), .ref (a 43)]))] s.heap := hP
  have hl := lv_entry ([.ref m0, .int (nI d), .int yn]) (n := 5) (Nat.le_of_ble_eq_true rfl)
  rw [lg_entry_eq]
  generalize (lg_sl ([.ref m0, .int (nI d), .int yn]) ++ List.replicate (5 - (lg_sl ([.ref m0, .int (nI d), .int yn])).length) Slot.unset).toArray = ls at hl ⊢
  have hl : lv_has ls 5 [(0, .ref m0), (1, .int (nI d)), (2, .int yn)] := hl
  have hb1 := mlN_b (1700 + k) mo
  have h1 : Fk k ≤ d := by omega
  have h2 : d < Fk (k + 1) := by
    rw [Fk_s k hk]; have q1 := Mk_le (y := 1700 + k) (a := mo + 1) (b := 13) (by omega) (by omega); rw [Mk_13, Mk_s hm1] at q1; omega
  have hd9 : d < 219145 := by have := Fk_b (k := k + 1) (by omega); omega
  refine lv_iload_n hx hb dX9_plusYears_0 rfl (lv_at hl 1 rfl) ?_
  refine lv_ldc (v := 219145) hx hb hown (hts (.constant RX9 110 (219145)) qw_35) dX9_plusYears_1 ?_
  refine lv_icmp_ne (tgt := 9) hx hb dX9_plusYears_3 (by decide) (fun c3_1 => ?_) (fun c3_1 => by exfalso; have c3_1 : ((d : Nat) : Int) = 219145 := (cv_eq (nI_toInt (by omega)) (by decide)).mp c3_1; omega)
  have c3_1 : ¬ (((d : Nat) : Int) = 219145) := mt (cv_eq (nI_toInt (by omega)) (by decide)).mpr c3_1
  refine lv_aload_n hx hb dX9_plusYears_9 rfl (lv_at hl 0 rfl) ?_
  refine lv_iload_n hx hb dX9_plusYears_10 rfl (lv_at hl 1 rfl) ?_
  have hPc := hP.sub (ws' := [(m0, .inr (8, [.int 0, .int 0, .int 0, .int 0, .ref (a 4), .int 0, .int 0, .int 0, .int 0, .int 0, .int 0, .long 0, .int 0, .int 0, .int 0, .int 0, .int 0, .int 0, .ref (a 18), .ref (a 19), .ref (a 20), .ref (a 21), .ref (a 22), .ref (a 23), .ref (a 24), .ref (a 25), .ref (a 26), .ref (a 27), .ref (a 28), .ref (a 29), .ref (a 30), .ref (a 31), .ref (a 32), .ref (a 33), .ref (a 34), .ref (a 35), .long 0, .int 0, .ref (a 38), .ref (a 39), .int 0, .ref (a 41), .ref (a 42), .ref (a 43)]))]) [0] rfl
  have hKc := hK.sub (tys' := []) [] rfl
  have hDc := hD.sub (ws' := [(m0, .inr (8, [.int 0, .int 0, .int 0, .int 0, .ref (a 4), .int 0, .int 0, .int 0, .int 0, .int 0, .int 0, .long 0, .int 0, .int 0, .int 0, .int 0, .int 0, .int 0, .ref (a 18), .ref (a 19), .ref (a 20), .ref (a 21), .ref (a 22), .ref (a 23), .ref (a 24), .ref (a 25), .ref (a 26), .ref (a 27), .ref (a 28), .ref (a 29), .ref (a 30), .ref (a 31), .ref (a 32), .ref (a 33), .ref (a 34), .ref (a 35), .long 0, .int 0, .ref (a 38), .ref (a 39), .int 0, .ref (a 41), .ref (a 42), .ref (a 43)]))]) [0] (by decide) rfl
  have hFc := va_free (wc := [(m0, .inr (8, [.int 0, .int 0, .int 0, .int 0, .ref (a 4), .int 0, .int 0, .int 0, .int 0, .int 0, .int 0, .long 0, .int 0, .int 0, .int 0, .int 0, .int 0, .int 0, .ref (a 18), .ref (a 19), .ref (a 20), .ref (a 21), .ref (a 22), .ref (a 23), .ref (a 24), .ref (a 25), .ref (a 26), .ref (a 27), .ref (a 28), .ref (a 29), .ref (a 30), .ref (a 31), .ref (a 32), .ref (a 33), .ref (a 34), .ref (a 35), .long 0, .int 0, .ref (a 38), .ref (a 39), .int 0, .ref (a 41), .ref (a 42), .ref (a 43)]))]) hD hS hA [0] rfl
  refine va_callv (va_runV (As := [.int (nI d)]) (rest := []) ⟨hx, hb, hml, hown, hts⟩ (c_ta l dC dI g s.heap.size (m0) (a) (d) (k) (mo) (dd) hk hm1 hm2 hd1 hd2 hd) (cwV 1 hts (gwV qw_37 qw_38 qw_39 qw_23 qw_36) rfl rfl rfl (by decide +kernel) ⟨Nat.le_of_ble_eq_true rfl, Nat.le_of_ble_eq_true rfl⟩) ⟨fun a U g9 mk q => ⟨q.1, q.2.1, q.2.2.1, va_K.moved (u := U) (U := U.calling g9 mk a) (Vm.Alike.refl U.vm) q.2.2.2.1, q.2.2.2.2.1, Ev.bl q.2.2.2.2.2⟩, va_recv hK hP (ci := 8) (q0 := 0) rfl rfl, fun U hU hW => ⟨rfl, by rw [hU], by rw [hU]; exact hPc, va_K.moved hW.alike hKc, hDc.weaken (fun _ _ _ _ => trivial), hE.go hS hFc hU hW⟩⟩ rfl rfl hl.1 rfl (lv_room (Nat.le_of_ble_eq_true rfl)) dX9_plusYears_11 ⟨Nat.le_of_ble_eq_true rfl, Nat.le_of_ble_eq_true rfl⟩) hS (fun q _ h => hFc q h) hFc (fun u2 t H1 locs ht hvm h_u2 hB hz1 hk1 hS => ?_)
  obtain ⟨hP1, hK1, hD1⟩ := hB
  rw [ht] at hP1
  have hK1 := va_K.moved hvm.symm hK1
  obtain ⟨hP, hD⟩ := va_join (wr := []) (w1 := [(m0, .inr (8, [.int 0, .int (nI (1700 + k)), .int (nI mo), .int (nI dd), .ref (a 4), .int 0, .int 0, .int 0, .int 0, .int 0, .int 0, .long 0, .int 0, .int 0, .int 0, .int 0, .int 0, .int 0, .ref (a 18), .ref (a 19), .ref (a 20), .ref (a 21), .ref (a 22), .ref (a 23), .ref (a 24), .ref (a 25), .ref (a 26), .ref (a 27), .ref (a 28), .ref (a 29), .ref (a 30), .ref (a 31), .ref (a 32), .ref (a 33), .ref (a 34), .ref (a 35), .long 0, .int 0, .ref (a 38), .ref (a 39), .int 0, .ref (a 41), .ref (a 42), .ref (a 43)]))]) hP hD [0] [] rfl rfl (by decide) (by decide) hk1 hFc hP1 hD1
  have hK := hK.app hK1
  have hK : va_K (dC, dI) vwCl [] s := hK
  generalize H1 = H at hP hS ⊢
  have hP : va_P (dC, dI) vwCl [(m0, .inr (8, [.int 0, .int (nI (1700 + k)), .int (nI mo), .int (nI dd), .ref (a 4), .int 0, .int 0, .int 0, .int 0, .int 0, .int 0, .long 0, .int 0, .int 0, .int 0, .int 0, .int 0, .int 0, .ref (a 18), .ref (a 19), .ref (a 20), .ref (a 21), .ref (a 22), .ref (a 23), .ref (a 24), .ref (a 25), .ref (a 26), .ref (a 27), .ref (a 28), .ref (a 29), .ref (a 30), .ref (a 31), .ref (a 32), .ref (a 33), .ref (a 34), .ref (a 35), .long 0, .int 0, .ref (a 38), .ref (a 39), .int 0, .ref (a 41), .ref (a 42), .ref (a 43)]))] H := hP
  have hD : va_D A [(m0, .inr (8, [.int 0, .int (nI (1700 + k)), .int (nI mo), .int (nI dd), .ref (a 4), .int 0, .int 0, .int 0, .int 0, .int 0, .int 0, .long 0, .int 0, .int 0, .int 0, .int 0, .int 0, .int 0, .ref (a 18), .ref (a 19), .ref (a 20), .ref (a 21), .ref (a 22), .ref (a 23), .ref (a 24), .ref (a 25), .ref (a 26), .ref (a 27), .ref (a 28), .ref (a 29), .ref (a 30), .ref (a 31), .ref (a 32), .ref (a 33), .ref (a 34), .ref (a 35), .long 0, .int 0, .ref (a 38), .ref (a 39), .int 0, .ref (a 41), .ref (a 42), .ref (a 43)]))] := hD
  refine W.widen (k := 0) (n := 0) (Nat.le_of_ble_eq_true rfl) (Nat.le_of_ble_eq_true rfl) ?_
  refine lv_aload_n hx hb dX9_plusYears_14 rfl (lv_at hl 0 rfl) ?_
  refine va_get (D := (dC, dI)) (ci := 8) (v := .int (nI (1700 + k))) (C := RX9) (T := TX9) (N := 44) hx hb hts inlX9 hown hK hP 0 rfl rfl 1 (by decide) (hts (.fieldLink RX9 101 "ClosedUntilModel" "year" "I") qw_32) (fun _ h9 => h9) rfl dX9_plusYears_15 ?_
  refine lv_iload_n hx hb dX9_plusYears_18 rfl (lv_at hl 2 rfl) ?_
  refine lv_iadd hx hb dX9_plusYears_19 ?_
  refine lv_topi (fun x4 e_x4 => ?_)
  have hs9 : x4.toInt = ((1700 + k : Nat) : Int) + yn.toInt := by rw [e_x4]; exact ys_add (by omega) hn
  refine lv_istore_n (lv' := [(3, .int x4), (0, .ref m0), (1, .int (nI d)), (2, .int yn)]) hx hb dX9_plusYears_20 rfl hl (by decide) rfl (fun ls hl => ?_)
  refine lv_iload_n hx hb dX9_plusYears_21 rfl (lv_at hl 0 rfl) ?_
  refine lv_sipush (v := 2299) hx hb dX9_plusYears_22 (by decide) ?_
  refine lv_icmp_le (tgt := 31) hx hb dX9_plusYears_25 (by decide) (fun c25_5 => ?_) (fun c25_5 => by exfalso; have c25_5 : ¬ (x4.toInt ≤ 2299) := mt (cv_le rfl (by decide)).mpr c25_5; omega)
  have c25_5 : x4.toInt ≤ 2299 := (cv_le rfl (by decide)).mp c25_5
  refine lv_iload_n hx hb dX9_plusYears_31 rfl (lv_at hl 0 rfl) ?_
  refine lv_sipush (v := 1700) hx hb dX9_plusYears_32 (by decide) ?_
  refine lv_icmp_ge (tgt := 40) hx hb dX9_plusYears_35 (by decide) (fun c35_6 => by exfalso; have c35_6 : 1700 ≤ x4.toInt := (cv_le (by decide) rfl).mp c35_6; omega) (fun c35_6 => ?_)
  have c35_6 : ¬ (1700 ≤ x4.toInt) := mt (cv_le (by decide) rfl).mpr c35_6
  refine lv_iconst (v := 0) hx hb dX9_plusYears_38 (by decide) ?_
  refine W.widen (k := 0) (n := 0) (Nat.le_of_ble_eq_true rfl) (Nat.le_of_ble_eq_true rfl) ?_
  exact W.iret (v := 0) hx hb hr (fun t ht hW => ⟨⟨0, (), rfl, (rfl), trivial⟩, hS.F ht⟩) hS.2.2 dX9_plusYears_39
set_option maxHeartbeats 4000000 in
set_option maxRecDepth 100000 in
theorem c_py_B (l : Launch) (dC : Nat → ClassId) (dI : Nat → Nat → Nat) (g : Gv) (sz : Nat) (m0 : Nat) (a : Nat → Nat) (d : Nat) (k : Nat) (mo : Nat) (dd : Nat) (yn : Int32) (hk : k < 600) (hm1 : 1 ≤ mo) (hm2 : mo ≤ 12) (hd1 : 1 ≤ dd) (hd2 : dd ≤ mlN (1700 + k) mo) (hd : d = Fk k + Mk (1700 + k) mo + (dd - 1)) (hn : -600 ≤ yn.toInt ∧ yn.toInt ≤ 600) (hc : 599 < ((k : Nat) : Int) + yn.toInt) : Met l yX9_plusYears (.code yX9_plusYears cX9_plusYears 5 (some .int) :: TBL) ({ frames := 3, cells := 0, slots := 0, locals := 120 }) (va_Pc [.ref m0, .int (nI d), .int yn] (fun U => U.heap.size = sz ∧ va_P (dC, dI) vwCl [(m0, .inr (8, [.int 0, .int 0, .int 0, .int 0, .ref (a 4), .int 0, .int 0, .int 0, .int 0, .int 0, .int 0, .long 0, .int 0, .int 0, .int 0, .int 0, .int 0, .int 0, .ref (a 18), .ref (a 19), .ref (a 20), .ref (a 21), .ref (a 22), .ref (a 23), .ref (a 24), .ref (a 25), .ref (a 26), .ref (a 27), .ref (a 28), .ref (a 29), .ref (a 30), .ref (a 31), .ref (a 32), .ref (a 33), .ref (a 34), .ref (a 35), .long 0, .int 0, .ref (a 38), .ref (a 39), .int 0, .ref (a 41), .ref (a 42), .ref (a 43)]))] U.heap ∧ va_K (dC, dI) vwCl [] U ∧ va_D (fun _ => True) [(m0, .inr (8, [.int 0, .int 0, .int 0, .int 0, .ref (a 4), .int 0, .int 0, .int 0, .int 0, .int 0, .int 0, .long 0, .int 0, .int 0, .int 0, .int 0, .int 0, .int 0, .ref (a 18), .ref (a 19), .ref (a 20), .ref (a 21), .ref (a 22), .ref (a 23), .ref (a 24), .ref (a 25), .ref (a 26), .ref (a 27), .ref (a 28), .ref (a 29), .ref (a 30), .ref (a 31), .ref (a 32), .ref (a 33), .ref (a 34), .ref (a 35), .long 0, .int 0, .ref (a 38), .ref (a 39), .int 0, .ref (a 41), .ref (a 42), .ref (a 43)]))] ∧ Ev g (va_A [(m0, .inr (8, [.int 0, .int 0, .int 0, .int 0, .ref (a 4), .int 0, .int 0, .int 0, .int 0, .int 0, .int 0, .long 0, .int 0, .int 0, .int 0, .int 0, .int 0, .int 0, .ref (a 18), .ref (a 19), .ref (a 20), .ref (a 21), .ref (a 22), .ref (a 23), .ref (a 24), .ref (a 25), .ref (a 26), .ref (a 27), .ref (a 28), .ref (a 29), .ref (a 30), .ref (a 31), .ref (a 32), .ref (a 33), .ref (a 34), .ref (a 35), .long 0, .int 0, .ref (a 38), .ref (a 39), .int 0, .ref (a 41), .ref (a 42), .ref (a 43)]))] sz) U)) (va_Qi (fun (r : Int32) (u : Unit) => r = nI 219145) (fun (_ : Unit) (_ : State) => True) (va_A [(m0, .inr (8, [.int 0, .int 0, .int 0, .int 0, .ref (a 4), .int 0, .int 0, .int 0, .int 0, .int 0, .int 0, .long 0, .int 0, .int 0, .int 0, .int 0, .int 0, .int 0, .ref (a 18), .ref (a 19), .ref (a 20), .ref (a 21), .ref (a 22), .ref (a 23), .ref (a 24), .ref (a 25), .ref (a 26), .ref (a 27), .ref (a 28), .ref (a 29), .ref (a 30), .ref (a 31), .ref (a 32), .ref (a 33), .ref (a 34), .ref (a 35), .long 0, .int 0, .ref (a 38), .ref (a 39), .int 0, .ref (a 41), .ref (a 42), .ref (a 43)]))] sz)) 0 0 (va_A [(m0, .inr (8, [.int 0, .int 0, .int 0, .int 0, .ref (a 4), .int 0, .int 0, .int 0, .int 0, .int 0, .int 0, .long 0, .int 0, .int 0, .int 0, .int 0, .int 0, .int 0, .ref (a 18), .ref (a 19), .ref (a 20), .ref (a 21), .ref (a 22), .ref (a 23), .ref (a 24), .ref (a 25), .ref (a 26), .ref (a 27), .ref (a 28), .ref (a 29), .ref (a 30), .ref (a 31), .ref (a 32), .ref (a 33), .ref (a 34), .ref (a 35), .long 0, .int 0, .ref (a 38), .ref (a 39), .int 0, .ref (a 41), .ref (a 42), .ref (a 43)]))] sz) := by
  refine Met.ofW (cc := cX9_plusYears) (maxL := 5) (ret := (some .int)) (by decide) rfl ?_
  intro p e s m args below meth c s₁ B hml hv
  obtain ⟨rfl, hsz, hP, hK, hD0, hE⟩ := hv
  have hx := B.exec
  have hb := B.bytes
  have hr := B.returns
  have hts0 := atoms_spec (ws := (.code yX9_plusYears cX9_plusYears 5 (some .int) :: TBL)) B.pre
  have hts := fun (w : Cond) (h : w ∈ TBL) => hts0 w (List.mem_cons_of_mem _ h)
  have hown : s.vm.findClass RX9 = some m.cls := findClass_of_methodNamed B.named
  have hlocks := B.notSynchronized
  have hN := hE.1
  subst hsz
  have hD := hD0.self (sz := s.heap.size)
  generalize hAe : va_A [(m0, .inr (8, [.int 0, .int 0, .int 0, .int 0, .ref (a 4), .int 0, .int 0, .int 0, .int 0, .int 0, .int 0, .long 0, .int 0, .int 0, .int 0, .int 0, .int 0, .int 0, .ref (a 18), .ref (a 19), .ref (a 20), .ref (a 21), .ref (a 22), .ref (a 23), .ref (a 24), .ref (a 25), .ref (a 26), .ref (a 27), .ref (a 28), .ref (a 29), .ref (a 30), .ref (a 31), .ref (a 32), .ref (a 33), .ref (a 34), .ref (a 35), .long 0, .int 0, .ref (a 38), .ref (a 39), .int 0, .ref (a 41), .ref (a 42), .ref (a 43)]))] s.heap.size = A at hD hE ⊢
  have hA : ∀ q : Nat, s.heap.size ≤ q → A q := fun q h => by rw [← hAe]; exact Or.inr h
  have hS : va_S A s.heap s.heap [] := va_S.rf
  have hP : va_P (dC, dI) vwCl [(m0, .inr (8, [.int 0, .int 0, .int 0, .int 0, .ref (a 4), .int 0, .int 0, .int 0, .int 0, .int 0, .int 0, .long 0, .int 0, .int 0, .int 0, .int 0, .int 0, .int 0, .ref (a 18), .ref (a 19), .ref (a 20), .ref (a 21), .ref (a 22), .ref (a 23), .ref (a 24), .ref (a 25), .ref (a 26), .ref (a 27), .ref (a 28), .ref (a 29), .ref (a 30), .ref (a 31), .ref (a 32), .ref (a 33), .ref (a 34), .ref (a 35), .long 0, .int 0, .ref (a 38), .ref (a 39), .int 0, .ref (a 41), .ref (a 42), .ref (a 43)]))] s.heap := hP
  have hl := lv_entry ([.ref m0, .int (nI d), .int yn]) (n := 5) (Nat.le_of_ble_eq_true rfl)
  rw [lg_entry_eq]
  generalize (lg_sl ([.ref m0, .int (nI d), .int yn]) ++ List.replicate (5 - (lg_sl ([.ref m0, .int (nI d), .int yn])).length) Slot.unset).toArray = ls at hl ⊢
  have hl : lv_has ls 5 [(0, .ref m0), (1, .int (nI d)), (2, .int yn)] := hl
  have hb1 := mlN_b (1700 + k) mo
  have h1 : Fk k ≤ d := by omega
  have h2 : d < Fk (k + 1) := by
    rw [Fk_s k hk]; have q1 := Mk_le (y := 1700 + k) (a := mo + 1) (b := 13) (by omega) (by omega); rw [Mk_13, Mk_s hm1] at q1; omega
  have hd9 : d < 219145 := by have := Fk_b (k := k + 1) (by omega); omega
  refine lv_iload_n hx hb dX9_plusYears_0 rfl (lv_at hl 1 rfl) ?_
  refine lv_ldc (v := 219145) hx hb hown (hts (.constant RX9 110 (219145)) qw_35) dX9_plusYears_1 ?_
  refine lv_icmp_ne (tgt := 9) hx hb dX9_plusYears_3 (by decide) (fun c3_1 => ?_) (fun c3_1 => by exfalso; have c3_1 : ((d : Nat) : Int) = 219145 := (cv_eq (nI_toInt (by omega)) (by decide)).mp c3_1; omega)
  have c3_1 : ¬ (((d : Nat) : Int) = 219145) := mt (cv_eq (nI_toInt (by omega)) (by decide)).mpr c3_1
  refine lv_aload_n hx hb dX9_plusYears_9 rfl (lv_at hl 0 rfl) ?_
  refine lv_iload_n hx hb dX9_plusYears_10 rfl (lv_at hl 1 rfl) ?_
  have hPc := hP.sub (ws' := [(m0, .inr (8, [.int 0, .int 0, .int 0, .int 0, .ref (a 4), .int 0, .int 0, .int 0, .int 0, .int 0, .int 0, .long 0, .int 0, .int 0, .int 0, .int 0, .int 0, .int 0, .ref (a 18), .ref (a 19), .ref (a 20), .ref (a 21), .ref (a 22), .ref (a 23), .ref (a 24), .ref (a 25), .ref (a 26), .ref (a 27), .ref (a 28), .ref (a 29), .ref (a 30), .ref (a 31), .ref (a 32), .ref (a 33), .ref (a 34), .ref (a 35), .long 0, .int 0, .ref (a 38), .ref (a 39), .int 0, .ref (a 41), .ref (a 42), .ref (a 43)]))]) [0] rfl
  have hKc := hK.sub (tys' := []) [] rfl
  have hDc := hD.sub (ws' := [(m0, .inr (8, [.int 0, .int 0, .int 0, .int 0, .ref (a 4), .int 0, .int 0, .int 0, .int 0, .int 0, .int 0, .long 0, .int 0, .int 0, .int 0, .int 0, .int 0, .int 0, .ref (a 18), .ref (a 19), .ref (a 20), .ref (a 21), .ref (a 22), .ref (a 23), .ref (a 24), .ref (a 25), .ref (a 26), .ref (a 27), .ref (a 28), .ref (a 29), .ref (a 30), .ref (a 31), .ref (a 32), .ref (a 33), .ref (a 34), .ref (a 35), .long 0, .int 0, .ref (a 38), .ref (a 39), .int 0, .ref (a 41), .ref (a 42), .ref (a 43)]))]) [0] (by decide) rfl
  have hFc := va_free (wc := [(m0, .inr (8, [.int 0, .int 0, .int 0, .int 0, .ref (a 4), .int 0, .int 0, .int 0, .int 0, .int 0, .int 0, .long 0, .int 0, .int 0, .int 0, .int 0, .int 0, .int 0, .ref (a 18), .ref (a 19), .ref (a 20), .ref (a 21), .ref (a 22), .ref (a 23), .ref (a 24), .ref (a 25), .ref (a 26), .ref (a 27), .ref (a 28), .ref (a 29), .ref (a 30), .ref (a 31), .ref (a 32), .ref (a 33), .ref (a 34), .ref (a 35), .long 0, .int 0, .ref (a 38), .ref (a 39), .int 0, .ref (a 41), .ref (a 42), .ref (a 43)]))]) hD hS hA [0] rfl
  refine va_callv (va_runV (As := [.int (nI d)]) (rest := []) ⟨hx, hb, hml, hown, hts⟩ (c_ta l dC dI g s.heap.size (m0) (a) (d) (k) (mo) (dd) hk hm1 hm2 hd1 hd2 hd) (cwV 1 hts (gwV qw_37 qw_38 qw_39 qw_23 qw_36) rfl rfl rfl (by decide +kernel) ⟨Nat.le_of_ble_eq_true rfl, Nat.le_of_ble_eq_true rfl⟩) ⟨fun a U g9 mk q => ⟨q.1, q.2.1, q.2.2.1, va_K.moved (u := U) (U := U.calling g9 mk a) (Vm.Alike.refl U.vm) q.2.2.2.1, q.2.2.2.2.1, Ev.bl q.2.2.2.2.2⟩, va_recv hK hP (ci := 8) (q0 := 0) rfl rfl, fun U hU hW => ⟨rfl, by rw [hU], by rw [hU]; exact hPc, va_K.moved hW.alike hKc, hDc.weaken (fun _ _ _ _ => trivial), hE.go hS hFc hU hW⟩⟩ rfl rfl hl.1 rfl (lv_room (Nat.le_of_ble_eq_true rfl)) dX9_plusYears_11 ⟨Nat.le_of_ble_eq_true rfl, Nat.le_of_ble_eq_true rfl⟩) hS (fun q _ h => hFc q h) hFc (fun u2 t H1 locs ht hvm h_u2 hB hz1 hk1 hS => ?_)
  obtain ⟨hP1, hK1, hD1⟩ := hB
  rw [ht] at hP1
  have hK1 := va_K.moved hvm.symm hK1
  obtain ⟨hP, hD⟩ := va_join (wr := []) (w1 := [(m0, .inr (8, [.int 0, .int (nI (1700 + k)), .int (nI mo), .int (nI dd), .ref (a 4), .int 0, .int 0, .int 0, .int 0, .int 0, .int 0, .long 0, .int 0, .int 0, .int 0, .int 0, .int 0, .int 0, .ref (a 18), .ref (a 19), .ref (a 20), .ref (a 21), .ref (a 22), .ref (a 23), .ref (a 24), .ref (a 25), .ref (a 26), .ref (a 27), .ref (a 28), .ref (a 29), .ref (a 30), .ref (a 31), .ref (a 32), .ref (a 33), .ref (a 34), .ref (a 35), .long 0, .int 0, .ref (a 38), .ref (a 39), .int 0, .ref (a 41), .ref (a 42), .ref (a 43)]))]) hP hD [0] [] rfl rfl (by decide) (by decide) hk1 hFc hP1 hD1
  have hK := hK.app hK1
  have hK : va_K (dC, dI) vwCl [] s := hK
  generalize H1 = H at hP hS ⊢
  have hP : va_P (dC, dI) vwCl [(m0, .inr (8, [.int 0, .int (nI (1700 + k)), .int (nI mo), .int (nI dd), .ref (a 4), .int 0, .int 0, .int 0, .int 0, .int 0, .int 0, .long 0, .int 0, .int 0, .int 0, .int 0, .int 0, .int 0, .ref (a 18), .ref (a 19), .ref (a 20), .ref (a 21), .ref (a 22), .ref (a 23), .ref (a 24), .ref (a 25), .ref (a 26), .ref (a 27), .ref (a 28), .ref (a 29), .ref (a 30), .ref (a 31), .ref (a 32), .ref (a 33), .ref (a 34), .ref (a 35), .long 0, .int 0, .ref (a 38), .ref (a 39), .int 0, .ref (a 41), .ref (a 42), .ref (a 43)]))] H := hP
  have hD : va_D A [(m0, .inr (8, [.int 0, .int (nI (1700 + k)), .int (nI mo), .int (nI dd), .ref (a 4), .int 0, .int 0, .int 0, .int 0, .int 0, .int 0, .long 0, .int 0, .int 0, .int 0, .int 0, .int 0, .int 0, .ref (a 18), .ref (a 19), .ref (a 20), .ref (a 21), .ref (a 22), .ref (a 23), .ref (a 24), .ref (a 25), .ref (a 26), .ref (a 27), .ref (a 28), .ref (a 29), .ref (a 30), .ref (a 31), .ref (a 32), .ref (a 33), .ref (a 34), .ref (a 35), .long 0, .int 0, .ref (a 38), .ref (a 39), .int 0, .ref (a 41), .ref (a 42), .ref (a 43)]))] := hD
  refine W.widen (k := 0) (n := 0) (Nat.le_of_ble_eq_true rfl) (Nat.le_of_ble_eq_true rfl) ?_
  refine lv_aload_n hx hb dX9_plusYears_14 rfl (lv_at hl 0 rfl) ?_
  refine va_get (D := (dC, dI)) (ci := 8) (v := .int (nI (1700 + k))) (C := RX9) (T := TX9) (N := 44) hx hb hts inlX9 hown hK hP 0 rfl rfl 1 (by decide) (hts (.fieldLink RX9 101 "ClosedUntilModel" "year" "I") qw_32) (fun _ h9 => h9) rfl dX9_plusYears_15 ?_
  refine lv_iload_n hx hb dX9_plusYears_18 rfl (lv_at hl 2 rfl) ?_
  refine lv_iadd hx hb dX9_plusYears_19 ?_
  refine lv_topi (fun x4 e_x4 => ?_)
  have hs9 : x4.toInt = ((1700 + k : Nat) : Int) + yn.toInt := by rw [e_x4]; exact ys_add (by omega) hn
  refine lv_istore_n (lv' := [(3, .int x4), (0, .ref m0), (1, .int (nI d)), (2, .int yn)]) hx hb dX9_plusYears_20 rfl hl (by decide) rfl (fun ls hl => ?_)
  refine lv_iload_n hx hb dX9_plusYears_21 rfl (lv_at hl 0 rfl) ?_
  refine lv_sipush (v := 2299) hx hb dX9_plusYears_22 (by decide) ?_
  refine lv_icmp_le (tgt := 31) hx hb dX9_plusYears_25 (by decide) (fun c25_5 => by exfalso; have c25_5 : x4.toInt ≤ 2299 := (cv_le rfl (by decide)).mp c25_5; omega) (fun c25_5 => ?_)
  have c25_5 : ¬ (x4.toInt ≤ 2299) := mt (cv_le rfl (by decide)).mpr c25_5
  refine lv_ldc (v := 219145) hx hb hown (hts (.constant RX9 110 (219145)) qw_35) dX9_plusYears_28 ?_
  refine W.widen (k := 0) (n := 0) (Nat.le_of_ble_eq_true rfl) (Nat.le_of_ble_eq_true rfl) ?_
  exact W.iret (v := 219145) hx hb hr (fun t ht hW => ⟨⟨219145, (), rfl, (rfl), trivial⟩, hS.F ht⟩) hS.2.2 dX9_plusYears_30
set_option maxHeartbeats 4000000 in
set_option maxRecDepth 100000 in
theorem c_py_C (l : Launch) (dC : Nat → ClassId) (dI : Nat → Nat → Nat) (g : Gv) (sz : Nat) (m0 : Nat) (a : Nat → Nat) (d : Nat) (k : Nat) (mo : Nat) (dd : Nat) (yn : Int32) (k2 : Nat) (hk : k < 600) (hm1 : 1 ≤ mo) (hm2 : mo ≤ 12) (hd1 : 1 ≤ dd) (hd2 : dd ≤ mlN (1700 + k) mo) (hd : d = Fk k + Mk (1700 + k) mo + (dd - 1)) (hn : -600 ≤ yn.toInt ∧ yn.toInt ≤ 600) (hk2 : k2 < 600) (hc : ((k : Nat) : Int) + yn.toInt = k2) : Met l yX9_plusYears (.code yX9_plusYears cX9_plusYears 5 (some .int) :: TBL) ({ frames := 3, cells := 0, slots := 0, locals := 120 }) (va_Pc [.ref m0, .int (nI d), .int yn] (fun U => U.heap.size = sz ∧ va_P (dC, dI) vwCl [(m0, .inr (8, [.int 0, .int 0, .int 0, .int 0, .ref (a 4), .int 0, .int 0, .int 0, .int 0, .int 0, .int 0, .long 0, .int 0, .int 0, .int 0, .int 0, .int 0, .int 0, .ref (a 18), .ref (a 19), .ref (a 20), .ref (a 21), .ref (a 22), .ref (a 23), .ref (a 24), .ref (a 25), .ref (a 26), .ref (a 27), .ref (a 28), .ref (a 29), .ref (a 30), .ref (a 31), .ref (a 32), .ref (a 33), .ref (a 34), .ref (a 35), .long 0, .int 0, .ref (a 38), .ref (a 39), .int 0, .ref (a 41), .ref (a 42), .ref (a 43)]))] U.heap ∧ va_K (dC, dI) vwCl [] U ∧ va_D (fun _ => True) [(m0, .inr (8, [.int 0, .int 0, .int 0, .int 0, .ref (a 4), .int 0, .int 0, .int 0, .int 0, .int 0, .int 0, .long 0, .int 0, .int 0, .int 0, .int 0, .int 0, .int 0, .ref (a 18), .ref (a 19), .ref (a 20), .ref (a 21), .ref (a 22), .ref (a 23), .ref (a 24), .ref (a 25), .ref (a 26), .ref (a 27), .ref (a 28), .ref (a 29), .ref (a 30), .ref (a 31), .ref (a 32), .ref (a 33), .ref (a 34), .ref (a 35), .long 0, .int 0, .ref (a 38), .ref (a 39), .int 0, .ref (a 41), .ref (a 42), .ref (a 43)]))] ∧ Ev g (va_A [(m0, .inr (8, [.int 0, .int 0, .int 0, .int 0, .ref (a 4), .int 0, .int 0, .int 0, .int 0, .int 0, .int 0, .long 0, .int 0, .int 0, .int 0, .int 0, .int 0, .int 0, .ref (a 18), .ref (a 19), .ref (a 20), .ref (a 21), .ref (a 22), .ref (a 23), .ref (a 24), .ref (a 25), .ref (a 26), .ref (a 27), .ref (a 28), .ref (a 29), .ref (a 30), .ref (a 31), .ref (a 32), .ref (a 33), .ref (a 34), .ref (a 35), .long 0, .int 0, .ref (a 38), .ref (a 39), .int 0, .ref (a 41), .ref (a 42), .ref (a 43)]))] sz) U)) (va_Qi (fun (r : Int32) (u : Unit) => r = nI (Fk k2 + Mk (1700 + k2) mo + min dd (mlN (1700 + k2) mo) - 1)) (fun (_ : Unit) (_ : State) => True) (va_A [(m0, .inr (8, [.int 0, .int 0, .int 0, .int 0, .ref (a 4), .int 0, .int 0, .int 0, .int 0, .int 0, .int 0, .long 0, .int 0, .int 0, .int 0, .int 0, .int 0, .int 0, .ref (a 18), .ref (a 19), .ref (a 20), .ref (a 21), .ref (a 22), .ref (a 23), .ref (a 24), .ref (a 25), .ref (a 26), .ref (a 27), .ref (a 28), .ref (a 29), .ref (a 30), .ref (a 31), .ref (a 32), .ref (a 33), .ref (a 34), .ref (a 35), .long 0, .int 0, .ref (a 38), .ref (a 39), .int 0, .ref (a 41), .ref (a 42), .ref (a 43)]))] sz)) 0 0 (va_A [(m0, .inr (8, [.int 0, .int 0, .int 0, .int 0, .ref (a 4), .int 0, .int 0, .int 0, .int 0, .int 0, .int 0, .long 0, .int 0, .int 0, .int 0, .int 0, .int 0, .int 0, .ref (a 18), .ref (a 19), .ref (a 20), .ref (a 21), .ref (a 22), .ref (a 23), .ref (a 24), .ref (a 25), .ref (a 26), .ref (a 27), .ref (a 28), .ref (a 29), .ref (a 30), .ref (a 31), .ref (a 32), .ref (a 33), .ref (a 34), .ref (a 35), .long 0, .int 0, .ref (a 38), .ref (a 39), .int 0, .ref (a 41), .ref (a 42), .ref (a 43)]))] sz) := by
  refine Met.ofW (cc := cX9_plusYears) (maxL := 5) (ret := (some .int)) (by decide) rfl ?_
  intro p e s m args below meth c s₁ B hml hv
  obtain ⟨rfl, hsz, hP, hK, hD0, hE⟩ := hv
  have hx := B.exec
  have hb := B.bytes
  have hr := B.returns
  have hts0 := atoms_spec (ws := (.code yX9_plusYears cX9_plusYears 5 (some .int) :: TBL)) B.pre
  have hts := fun (w : Cond) (h : w ∈ TBL) => hts0 w (List.mem_cons_of_mem _ h)
  have hown : s.vm.findClass RX9 = some m.cls := findClass_of_methodNamed B.named
  have hlocks := B.notSynchronized
  have hN := hE.1
  subst hsz
  have hD := hD0.self (sz := s.heap.size)
  generalize hAe : va_A [(m0, .inr (8, [.int 0, .int 0, .int 0, .int 0, .ref (a 4), .int 0, .int 0, .int 0, .int 0, .int 0, .int 0, .long 0, .int 0, .int 0, .int 0, .int 0, .int 0, .int 0, .ref (a 18), .ref (a 19), .ref (a 20), .ref (a 21), .ref (a 22), .ref (a 23), .ref (a 24), .ref (a 25), .ref (a 26), .ref (a 27), .ref (a 28), .ref (a 29), .ref (a 30), .ref (a 31), .ref (a 32), .ref (a 33), .ref (a 34), .ref (a 35), .long 0, .int 0, .ref (a 38), .ref (a 39), .int 0, .ref (a 41), .ref (a 42), .ref (a 43)]))] s.heap.size = A at hD hE ⊢
  have hA : ∀ q : Nat, s.heap.size ≤ q → A q := fun q h => by rw [← hAe]; exact Or.inr h
  have hS : va_S A s.heap s.heap [] := va_S.rf
  have hP : va_P (dC, dI) vwCl [(m0, .inr (8, [.int 0, .int 0, .int 0, .int 0, .ref (a 4), .int 0, .int 0, .int 0, .int 0, .int 0, .int 0, .long 0, .int 0, .int 0, .int 0, .int 0, .int 0, .int 0, .ref (a 18), .ref (a 19), .ref (a 20), .ref (a 21), .ref (a 22), .ref (a 23), .ref (a 24), .ref (a 25), .ref (a 26), .ref (a 27), .ref (a 28), .ref (a 29), .ref (a 30), .ref (a 31), .ref (a 32), .ref (a 33), .ref (a 34), .ref (a 35), .long 0, .int 0, .ref (a 38), .ref (a 39), .int 0, .ref (a 41), .ref (a 42), .ref (a 43)]))] s.heap := hP
  have hl := lv_entry ([.ref m0, .int (nI d), .int yn]) (n := 5) (Nat.le_of_ble_eq_true rfl)
  rw [lg_entry_eq]
  generalize (lg_sl ([.ref m0, .int (nI d), .int yn]) ++ List.replicate (5 - (lg_sl ([.ref m0, .int (nI d), .int yn])).length) Slot.unset).toArray = ls at hl ⊢
  have hl : lv_has ls 5 [(0, .ref m0), (1, .int (nI d)), (2, .int yn)] := hl
  have hb1 := mlN_b (1700 + k) mo
  have h1 : Fk k ≤ d := by omega
  have h2 : d < Fk (k + 1) := by
    rw [Fk_s k hk]; have q1 := Mk_le (y := 1700 + k) (a := mo + 1) (b := 13) (by omega) (by omega); rw [Mk_13, Mk_s hm1] at q1; omega
  have hd9 : d < 219145 := by have := Fk_b (k := k + 1) (by omega); omega
  have hb4 := mlN_b (1700 + k2) mo
  refine lv_iload_n hx hb dX9_plusYears_0 rfl (lv_at hl 1 rfl) ?_
  refine lv_ldc (v := 219145) hx hb hown (hts (.constant RX9 110 (219145)) qw_35) dX9_plusYears_1 ?_
  refine lv_icmp_ne (tgt := 9) hx hb dX9_plusYears_3 (by decide) (fun c3_1 => ?_) (fun c3_1 => by exfalso; have c3_1 : ((d : Nat) : Int) = 219145 := (cv_eq (nI_toInt (by omega)) (by decide)).mp c3_1; omega)
  have c3_1 : ¬ (((d : Nat) : Int) = 219145) := mt (cv_eq (nI_toInt (by omega)) (by decide)).mpr c3_1
  refine lv_aload_n hx hb dX9_plusYears_9 rfl (lv_at hl 0 rfl) ?_
  refine lv_iload_n hx hb dX9_plusYears_10 rfl (lv_at hl 1 rfl) ?_
  have hPc := hP.sub (ws' := [(m0, .inr (8, [.int 0, .int 0, .int 0, .int 0, .ref (a 4), .int 0, .int 0, .int 0, .int 0, .int 0, .int 0, .long 0, .int 0, .int 0, .int 0, .int 0, .int 0, .int 0, .ref (a 18), .ref (a 19), .ref (a 20), .ref (a 21), .ref (a 22), .ref (a 23), .ref (a 24), .ref (a 25), .ref (a 26), .ref (a 27), .ref (a 28), .ref (a 29), .ref (a 30), .ref (a 31), .ref (a 32), .ref (a 33), .ref (a 34), .ref (a 35), .long 0, .int 0, .ref (a 38), .ref (a 39), .int 0, .ref (a 41), .ref (a 42), .ref (a 43)]))]) [0] rfl
  have hKc := hK.sub (tys' := []) [] rfl
  have hDc := hD.sub (ws' := [(m0, .inr (8, [.int 0, .int 0, .int 0, .int 0, .ref (a 4), .int 0, .int 0, .int 0, .int 0, .int 0, .int 0, .long 0, .int 0, .int 0, .int 0, .int 0, .int 0, .int 0, .ref (a 18), .ref (a 19), .ref (a 20), .ref (a 21), .ref (a 22), .ref (a 23), .ref (a 24), .ref (a 25), .ref (a 26), .ref (a 27), .ref (a 28), .ref (a 29), .ref (a 30), .ref (a 31), .ref (a 32), .ref (a 33), .ref (a 34), .ref (a 35), .long 0, .int 0, .ref (a 38), .ref (a 39), .int 0, .ref (a 41), .ref (a 42), .ref (a 43)]))]) [0] (by decide) rfl
  have hFc := va_free (wc := [(m0, .inr (8, [.int 0, .int 0, .int 0, .int 0, .ref (a 4), .int 0, .int 0, .int 0, .int 0, .int 0, .int 0, .long 0, .int 0, .int 0, .int 0, .int 0, .int 0, .int 0, .ref (a 18), .ref (a 19), .ref (a 20), .ref (a 21), .ref (a 22), .ref (a 23), .ref (a 24), .ref (a 25), .ref (a 26), .ref (a 27), .ref (a 28), .ref (a 29), .ref (a 30), .ref (a 31), .ref (a 32), .ref (a 33), .ref (a 34), .ref (a 35), .long 0, .int 0, .ref (a 38), .ref (a 39), .int 0, .ref (a 41), .ref (a 42), .ref (a 43)]))]) hD hS hA [0] rfl
  refine va_callv (va_runV (As := [.int (nI d)]) (rest := []) ⟨hx, hb, hml, hown, hts⟩ (c_ta l dC dI g s.heap.size (m0) (a) (d) (k) (mo) (dd) hk hm1 hm2 hd1 hd2 hd) (cwV 1 hts (gwV qw_37 qw_38 qw_39 qw_23 qw_36) rfl rfl rfl (by decide +kernel) ⟨Nat.le_of_ble_eq_true rfl, Nat.le_of_ble_eq_true rfl⟩) ⟨fun a U g9 mk q => ⟨q.1, q.2.1, q.2.2.1, va_K.moved (u := U) (U := U.calling g9 mk a) (Vm.Alike.refl U.vm) q.2.2.2.1, q.2.2.2.2.1, Ev.bl q.2.2.2.2.2⟩, va_recv hK hP (ci := 8) (q0 := 0) rfl rfl, fun U hU hW => ⟨rfl, by rw [hU], by rw [hU]; exact hPc, va_K.moved hW.alike hKc, hDc.weaken (fun _ _ _ _ => trivial), hE.go hS hFc hU hW⟩⟩ rfl rfl hl.1 rfl (lv_room (Nat.le_of_ble_eq_true rfl)) dX9_plusYears_11 ⟨Nat.le_of_ble_eq_true rfl, Nat.le_of_ble_eq_true rfl⟩) hS (fun q _ h => hFc q h) hFc (fun u2 t H1 locs ht hvm h_u2 hB hz1 hk1 hS => ?_)
  obtain ⟨hP1, hK1, hD1⟩ := hB
  rw [ht] at hP1
  have hK1 := va_K.moved hvm.symm hK1
  obtain ⟨hP, hD⟩ := va_join (wr := []) (w1 := [(m0, .inr (8, [.int 0, .int (nI (1700 + k)), .int (nI mo), .int (nI dd), .ref (a 4), .int 0, .int 0, .int 0, .int 0, .int 0, .int 0, .long 0, .int 0, .int 0, .int 0, .int 0, .int 0, .int 0, .ref (a 18), .ref (a 19), .ref (a 20), .ref (a 21), .ref (a 22), .ref (a 23), .ref (a 24), .ref (a 25), .ref (a 26), .ref (a 27), .ref (a 28), .ref (a 29), .ref (a 30), .ref (a 31), .ref (a 32), .ref (a 33), .ref (a 34), .ref (a 35), .long 0, .int 0, .ref (a 38), .ref (a 39), .int 0, .ref (a 41), .ref (a 42), .ref (a 43)]))]) hP hD [0] [] rfl rfl (by decide) (by decide) hk1 hFc hP1 hD1
  have hK := hK.app hK1
  have hK : va_K (dC, dI) vwCl [] s := hK
  generalize H1 = H at hP hS ⊢
  have hP : va_P (dC, dI) vwCl [(m0, .inr (8, [.int 0, .int (nI (1700 + k)), .int (nI mo), .int (nI dd), .ref (a 4), .int 0, .int 0, .int 0, .int 0, .int 0, .int 0, .long 0, .int 0, .int 0, .int 0, .int 0, .int 0, .int 0, .ref (a 18), .ref (a 19), .ref (a 20), .ref (a 21), .ref (a 22), .ref (a 23), .ref (a 24), .ref (a 25), .ref (a 26), .ref (a 27), .ref (a 28), .ref (a 29), .ref (a 30), .ref (a 31), .ref (a 32), .ref (a 33), .ref (a 34), .ref (a 35), .long 0, .int 0, .ref (a 38), .ref (a 39), .int 0, .ref (a 41), .ref (a 42), .ref (a 43)]))] H := hP
  have hD : va_D A [(m0, .inr (8, [.int 0, .int (nI (1700 + k)), .int (nI mo), .int (nI dd), .ref (a 4), .int 0, .int 0, .int 0, .int 0, .int 0, .int 0, .long 0, .int 0, .int 0, .int 0, .int 0, .int 0, .int 0, .ref (a 18), .ref (a 19), .ref (a 20), .ref (a 21), .ref (a 22), .ref (a 23), .ref (a 24), .ref (a 25), .ref (a 26), .ref (a 27), .ref (a 28), .ref (a 29), .ref (a 30), .ref (a 31), .ref (a 32), .ref (a 33), .ref (a 34), .ref (a 35), .long 0, .int 0, .ref (a 38), .ref (a 39), .int 0, .ref (a 41), .ref (a 42), .ref (a 43)]))] := hD
  refine W.widen (k := 0) (n := 0) (Nat.le_of_ble_eq_true rfl) (Nat.le_of_ble_eq_true rfl) ?_
  refine lv_aload_n hx hb dX9_plusYears_14 rfl (lv_at hl 0 rfl) ?_
  refine va_get (D := (dC, dI)) (ci := 8) (v := .int (nI (1700 + k))) (C := RX9) (T := TX9) (N := 44) hx hb hts inlX9 hown hK hP 0 rfl rfl 1 (by decide) (hts (.fieldLink RX9 101 "ClosedUntilModel" "year" "I") qw_32) (fun _ h9 => h9) rfl dX9_plusYears_15 ?_
  refine lv_iload_n hx hb dX9_plusYears_18 rfl (lv_at hl 2 rfl) ?_
  refine lv_iadd hx hb dX9_plusYears_19 ?_
  refine cst (v := nI (1700 + k2)) (ys_sum (by omega) hn (by omega) (by omega)) ?_
  refine lv_istore_n (lv' := [(3, .int (nI (1700 + k2))), (0, .ref m0), (1, .int (nI d)), (2, .int yn)]) hx hb dX9_plusYears_20 rfl hl (by decide) rfl (fun ls hl => ?_)
  refine lv_iload_n hx hb dX9_plusYears_21 rfl (lv_at hl 0 rfl) ?_
  refine lv_sipush (v := 2299) hx hb dX9_plusYears_22 (by decide) ?_
  refine lv_icmp_le (tgt := 31) hx hb dX9_plusYears_25 (by decide) (fun c25_4 => ?_) (fun c25_4 => by exfalso; have c25_4 : ¬ (((1700 + k2 : Nat) : Int) ≤ 2299) := mt (cv_le (nI_toInt (by omega)) (by decide)).mpr c25_4; omega)
  have c25_4 : ((1700 + k2 : Nat) : Int) ≤ 2299 := (cv_le (nI_toInt (by omega)) (by decide)).mp c25_4
  refine lv_iload_n hx hb dX9_plusYears_31 rfl (lv_at hl 0 rfl) ?_
  refine lv_sipush (v := 1700) hx hb dX9_plusYears_32 (by decide) ?_
  refine lv_icmp_ge (tgt := 40) hx hb dX9_plusYears_35 (by decide) (fun c35_5 => ?_) (fun c35_5 => by exfalso; have c35_5 : ¬ (1700 ≤ ((1700 + k2 : Nat) : Int)) := mt (cv_le (by decide) (nI_toInt (by omega))).mpr c35_5; omega)
  have c35_5 : 1700 ≤ ((1700 + k2 : Nat) : Int) := (cv_le (by decide) (nI_toInt (by omega))).mp c35_5
  refine lv_iload_n hx hb dX9_plusYears_40 rfl (lv_at hl 0 rfl) ?_
  refine lv_aload_n hx hb dX9_plusYears_41 rfl (lv_at hl 1 rfl) ?_
  refine va_get (D := (dC, dI)) (ci := 8) (v := .int (nI mo)) (C := RX9) (T := TX9) (N := 44) hx hb hts inlX9 hown hK hP 0 rfl rfl 2 (by decide) (hts (.fieldLink RX9 104 "ClosedUntilModel" "month" "I") qw_33) (fun _ h9 => h9) rfl dX9_plusYears_42 ?_
  have hPc := hP.sub (ws' := []) [] rfl
  have hKc := hK.sub (tys' := []) [] rfl
  refine vp_callSi ((va_runS (As := [.int (nI (1700 + k2)), .int (nI mo)]) (rest := []) ⟨hx, hb, hml, hown, hts⟩ (c_di l dC dI g (1700 + k2) (mo) (by omega) hm1 hm2) (va_cwS 2 hts (gwS qw_30 qw_31 qw_23 qw_29) rfl rfl rfl (by decide +kernel) ⟨Nat.le_of_ble_eq_true rfl, Nat.le_of_ble_eq_true rfl⟩) ⟨fun a U g9 mk q => ⟨q.1, q.2.1, va_K.moved (u := U) (U := U.calling g9 mk a) (Vm.Alike.refl U.vm) q.2.2.1, Ev.bl q.2.2.2⟩, fun U hU hW => ⟨rfl, by rw [hU]; exact hPc, va_K.moved hW.alike hKc, hE.go hS (fun _ h => h.elim) hU hW⟩⟩ rfl rfl hl.1 rfl (lv_room (Nat.le_of_ble_eq_true rfl)) dX9_plusYears_45 ⟨Nat.le_of_ble_eq_true rfl, Nat.le_of_ble_eq_true rfl⟩)).run (fun r6 h_r6 => ?_)
  have h_r6 : r6 = nI (mlN (1700 + k2) mo) := h_r6
  subst h_r6
  refine lv_istore (lv' := [(4, .int (nI (mlN (1700 + k2) mo))), (3, .int (nI (1700 + k2))), (0, .ref m0), (1, .int (nI d)), (2, .int yn)]) hx hb dX9_plusYears_48 hl (by decide) rfl (fun ls hl => ?_)
  refine lv_iload_n hx hb dX9_plusYears_50 rfl (lv_at hl 1 rfl) ?_
  refine lv_aload_n hx hb dX9_plusYears_51 rfl (lv_at hl 2 rfl) ?_
  refine va_get (D := (dC, dI)) (ci := 8) (v := .int (nI mo)) (C := RX9) (T := TX9) (N := 44) hx hb hts inlX9 hown hK hP 0 rfl rfl 2 (by decide) (hts (.fieldLink RX9 104 "ClosedUntilModel" "month" "I") qw_33) (fun _ h9 => h9) rfl dX9_plusYears_52 ?_
  refine lv_aload_n hx hb dX9_plusYears_55 rfl (lv_at hl 2 rfl) ?_
  refine va_get (D := (dC, dI)) (ci := 8) (v := .int (nI dd)) (C := RX9) (T := TX9) (N := 44) hx hb hts inlX9 hown hK hP 0 rfl rfl 3 (by decide) (hts (.fieldLink RX9 107 "ClosedUntilModel" "dayIn" "I") qw_34) (fun _ h9 => h9) rfl dX9_plusYears_56 ?_
  refine lv_iload hx hb dX9_plusYears_59 (lv_at hl 0 rfl) ?_
  refine lv_icmp_le (tgt := 69) hx hb dX9_plusYears_61 (by decide) (fun c61_7 => ?_) (fun c61_7 => ?_)
  · have c61_7 : ((dd : Nat) : Int) ≤ ((mlN (1700 + k2) mo : Nat) : Int) := (cv_le (nI_toInt (by omega)) (nI_toInt (by omega))).mp c61_7
    refine lv_aload_n hx hb dX9_plusYears_69 rfl (lv_at hl 2 rfl) ?_
    refine va_get (D := (dC, dI)) (ci := 8) (v := .int (nI dd)) (C := RX9) (T := TX9) (N := 44) hx hb hts inlX9 hown hK hP 0 rfl rfl 3 (by decide) (hts (.fieldLink RX9 107 "ClosedUntilModel" "dayIn" "I") qw_34) (fun _ h9 => h9) rfl dX9_plusYears_70 ?_
    have hPc := hP.sub (ws' := []) [] rfl
    have hKc := hK.sub (tys' := []) [] rfl
    refine vp_callSi ((va_runS (As := [.int (nI (1700 + k2)), .int (nI mo), .int (nI dd)]) (rest := []) ⟨hx, hb, hml, hown, hts⟩ (c_do l dC dI g (k2) (mo) (dd) hk2 hm1 hm2 (by omega) (by omega)) (va_cwS 3 hts (gwS qw_41 qw_42 qw_23 qw_40) rfl rfl rfl (by decide +kernel) ⟨Nat.le_of_ble_eq_true rfl, Nat.le_of_ble_eq_true rfl⟩) ⟨fun a U g9 mk q => ⟨q.1, q.2.1, va_K.moved (u := U) (U := U.calling g9 mk a) (Vm.Alike.refl U.vm) q.2.2.1, Ev.bl q.2.2.2⟩, fun U hU hW => ⟨rfl, by rw [hU]; exact hPc, va_K.moved hW.alike hKc, hE.go hS (fun _ h => h.elim) hU hW⟩⟩ rfl rfl hl.1 rfl (lv_room (Nat.le_of_ble_eq_true rfl)) dX9_plusYears_73 ⟨Nat.le_of_ble_eq_true rfl, Nat.le_of_ble_eq_true rfl⟩)).run (fun r8 h_r8 => ?_)
    have h_r8 : r8 = nI (Fk k2 + Mk (1700 + k2) mo + dd - 1) := h_r8
    subst h_r8
    refine W.widen (k := 0) (n := 0) (Nat.le_of_ble_eq_true rfl) (Nat.le_of_ble_eq_true rfl) ?_
    exact W.iret (v := (nI (Fk k2 + Mk (1700 + k2) mo + dd - 1))) hx hb hr (fun t ht hW => ⟨⟨(nI (Fk k2 + Mk (1700 + k2) mo + dd - 1)), (), rfl, (by first | (rw [Nat.min_eq_left (by omega)]; done) | (rw [Nat.min_eq_right (by omega)]; done)), trivial⟩, hS.F ht⟩) hS.2.2 dX9_plusYears_76
  · have c61_7 : ¬ (((dd : Nat) : Int) ≤ ((mlN (1700 + k2) mo : Nat) : Int)) := mt (cv_le (nI_toInt (by omega)) (nI_toInt (by omega))).mpr c61_7
    refine lv_iload hx hb dX9_plusYears_64 (lv_at hl 0 rfl) ?_
    refine lv_goto (tgt := 73) hx hb dX9_plusYears_66 (by decide) ?_
    have hPc := hP.sub (ws' := []) [] rfl
    have hKc := hK.sub (tys' := []) [] rfl
    refine vp_callSi ((va_runS (As := [.int (nI (1700 + k2)), .int (nI mo), .int (nI (mlN (1700 + k2) mo))]) (rest := []) ⟨hx, hb, hml, hown, hts⟩ (c_do l dC dI g (k2) (mo) (mlN (1700 + k2) mo) hk2 hm1 hm2 (by omega) (by omega)) (va_cwS 3 hts (gwS qw_41 qw_42 qw_23 qw_40) rfl rfl rfl (by decide +kernel) ⟨Nat.le_of_ble_eq_true rfl, Nat.le_of_ble_eq_true rfl⟩) ⟨fun a U g9 mk q => ⟨q.1, q.2.1, va_K.moved (u := U) (U := U.calling g9 mk a) (Vm.Alike.refl U.vm) q.2.2.1, Ev.bl q.2.2.2⟩, fun U hU hW => ⟨rfl, by rw [hU]; exact hPc, va_K.moved hW.alike hKc, hE.go hS (fun _ h => h.elim) hU hW⟩⟩ rfl rfl hl.1 rfl (lv_room (Nat.le_of_ble_eq_true rfl)) dX9_plusYears_73 ⟨Nat.le_of_ble_eq_true rfl, Nat.le_of_ble_eq_true rfl⟩)).run (fun r9 h_r9 => ?_)
    have h_r9 : r9 = nI (Fk k2 + Mk (1700 + k2) mo + (mlN (1700 + k2) mo) - 1) := h_r9
    subst h_r9
    refine W.widen (k := 0) (n := 0) (Nat.le_of_ble_eq_true rfl) (Nat.le_of_ble_eq_true rfl) ?_
    exact W.iret (v := (nI (Fk k2 + Mk (1700 + k2) mo + (mlN (1700 + k2) mo) - 1))) hx hb hr (fun t ht hW => ⟨⟨(nI (Fk k2 + Mk (1700 + k2) mo + (mlN (1700 + k2) mo) - 1)), (), rfl, (by first | (rw [Nat.min_eq_left (by omega)]; done) | (rw [Nat.min_eq_right (by omega)]; done)), trivial⟩, hS.F ht⟩) hS.2.2 dX9_plusYears_76
