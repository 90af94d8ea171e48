theorem dX9_tellsApart_0 : decode cX9_tellsApart 0 = .ok (.iload_n 1, 1) := by decide +kernel
theorem dX9_tellsApart_1 : decode cX9_tellsApart 1 = .ok (.istore_n 2, 1) := by decide +kernel
theorem dX9_tellsApart_2 : decode cX9_tellsApart 2 = .ok (.aload_n 0, 1) := by decide +kernel
theorem dX9_tellsApart_3 : decode cX9_tellsApart 3 = .ok (.sipush 1700, 3) := by decide +kernel
theorem dX9_tellsApart_6 : decode cX9_tellsApart 6 = .ok (.putfield 101, 3) := by decide +kernel
theorem dX9_tellsApart_9 : decode cX9_tellsApart 9 = .ok (.iload_n 2, 1) := by decide +kernel
theorem dX9_tellsApart_10 : decode cX9_tellsApart 10 = .ok (.aload_n 0, 1) := by decide +kernel
theorem dX9_tellsApart_11 : decode cX9_tellsApart 11 = .ok (.getfield 101, 3) := by decide +kernel
theorem dX9_tellsApart_14 : decode cX9_tellsApart 14 = .ok (.invokestatic 89, 3) := by decide +kernel
theorem dX9_tellsApart_17 : decode cX9_tellsApart 17 = .ok (.ifCond .eq 9, 3) := by decide +kernel
theorem dX9_tellsApart_20 : decode cX9_tellsApart 20 = .ok (.sipush 366, 3) := by decide +kernel
theorem dX9_tellsApart_23 : decode cX9_tellsApart 23 = .ok (.goto 6, 3) := by decide +kernel
theorem dX9_tellsApart_26 : decode cX9_tellsApart 26 = .ok (.sipush 365, 3) := by decide +kernel
theorem dX9_tellsApart_29 : decode cX9_tellsApart 29 = .ok (.if_icmp .lt 38, 3) := by decide +kernel
theorem dX9_tellsApart_32 : decode cX9_tellsApart 32 = .ok (.iload_n 2, 1) := by decide +kernel
theorem dX9_tellsApart_33 : decode cX9_tellsApart 33 = .ok (.aload_n 0, 1) := by decide +kernel
theorem dX9_tellsApart_34 : decode cX9_tellsApart 34 = .ok (.getfield 101, 3) := by decide +kernel
theorem dX9_tellsApart_37 : decode cX9_tellsApart 37 = .ok (.invokestatic 89, 3) := by decide +kernel
theorem dX9_tellsApart_40 : decode cX9_tellsApart 40 = .ok (.ifCond .eq 9, 3) := by decide +kernel
theorem dX9_tellsApart_43 : decode cX9_tellsApart 43 = .ok (.sipush 366, 3) := by decide +kernel
theorem dX9_tellsApart_46 : decode cX9_tellsApart 46 = .ok (.goto 6, 3) := by decide +kernel
theorem dX9_tellsApart_49 : decode cX9_tellsApart 49 = .ok (.sipush 365, 3) := by decide +kernel
theorem dX9_tellsApart_52 : decode cX9_tellsApart 52 = .ok (.isub, 1) := by decide +kernel
theorem dX9_tellsApart_53 : decode cX9_tellsApart 53 = .ok (.istore_n 2, 1) := by decide +kernel
theorem dX9_tellsApart_54 : decode cX9_tellsApart 54 = .ok (.aload_n 0, 1) := by decide +kernel
theorem dX9_tellsApart_55 : decode cX9_tellsApart 55 = .ok (.dup, 1) := by decide +kernel
theorem dX9_tellsApart_56 : decode cX9_tellsApart 56 = .ok (.getfield 101, 3) := by decide +kernel
theorem dX9_tellsApart_59 : decode cX9_tellsApart 59 = .ok (.iconst 1, 1) := by decide +kernel
theorem dX9_tellsApart_60 : decode cX9_tellsApart 60 = .ok (.iadd, 1) := by decide +kernel
theorem dX9_tellsApart_61 : decode cX9_tellsApart 61 = .ok (.putfield 101, 3) := by decide +kernel
theorem dX9_tellsApart_64 : decode cX9_tellsApart 64 = .ok (.goto (-55), 3) := by decide +kernel
theorem dX9_tellsApart_67 : decode cX9_tellsApart 67 = .ok (.aload_n 0, 1) := by decide +kernel
theorem dX9_tellsApart_68 : decode cX9_tellsApart 68 = .ok (.iconst 1, 1) := by decide +kernel
theorem dX9_tellsApart_69 : decode cX9_tellsApart 69 = .ok (.putfield 104, 3) := by decide +kernel
theorem dX9_tellsApart_72 : decode cX9_tellsApart 72 = .ok (.iload_n 2, 1) := by decide +kernel
theorem dX9_tellsApart_73 : decode cX9_tellsApart 73 = .ok (.aload_n 0, 1) := by decide +kernel
theorem dX9_tellsApart_74 : decode cX9_tellsApart 74 = .ok (.getfield 101, 3) := by decide +kernel
theorem dX9_tellsApart_77 : decode cX9_tellsApart 77 = .ok (.aload_n 0, 1) := by decide +kernel
theorem dX9_tellsApart_78 : decode cX9_tellsApart 78 = .ok (.getfield 104, 3) := by decide +kernel
theorem dX9_tellsApart_81 : decode cX9_tellsApart 81 = .ok (.invokestatic 97, 3) := by decide +kernel
theorem dX9_tellsApart_84 : decode cX9_tellsApart 84 = .ok (.if_icmp .lt 30, 3) := by decide +kernel
theorem dX9_tellsApart_87 : decode cX9_tellsApart 87 = .ok (.iload_n 2, 1) := by decide +kernel
theorem dX9_tellsApart_88 : decode cX9_tellsApart 88 = .ok (.aload_n 0, 1) := by decide +kernel
theorem dX9_tellsApart_89 : decode cX9_tellsApart 89 = .ok (.getfield 101, 3) := by decide +kernel
theorem dX9_tellsApart_92 : decode cX9_tellsApart 92 = .ok (.aload_n 0, 1) := by decide +kernel
theorem dX9_tellsApart_93 : decode cX9_tellsApart 93 = .ok (.getfield 104, 3) := by decide +kernel
theorem dX9_tellsApart_96 : decode cX9_tellsApart 96 = .ok (.invokestatic 97, 3) := by decide +kernel
theorem dX9_tellsApart_99 : decode cX9_tellsApart 99 = .ok (.isub, 1) := by decide +kernel
theorem dX9_tellsApart_100 : decode cX9_tellsApart 100 = .ok (.istore_n 2, 1) := by decide +kernel
theorem dX9_tellsApart_101 : decode cX9_tellsApart 101 = .ok (.aload_n 0, 1) := by decide +kernel
theorem dX9_tellsApart_102 : decode cX9_tellsApart 102 = .ok (.dup, 1) := by decide +kernel
theorem dX9_tellsApart_103 : decode cX9_tellsApart 103 = .ok (.getfield 104, 3) := by decide +kernel
theorem dX9_tellsApart_106 : decode cX9_tellsApart 106 = .ok (.iconst 1, 1) := by decide +kernel
theorem dX9_tellsApart_107 : decode cX9_tellsApart 107 = .ok (.iadd, 1) := by decide +kernel
theorem dX9_tellsApart_108 : decode cX9_tellsApart 108 = .ok (.putfield 104, 3) := by decide +kernel
theorem dX9_tellsApart_111 : decode cX9_tellsApart 111 = .ok (.goto (-39), 3) := by decide +kernel
theorem dX9_tellsApart_114 : decode cX9_tellsApart 114 = .ok (.aload_n 0, 1) := by decide +kernel
theorem dX9_tellsApart_115 : decode cX9_tellsApart 115 = .ok (.iload_n 2, 1) := by decide +kernel
theorem dX9_tellsApart_116 : decode cX9_tellsApart 116 = .ok (.iconst 1, 1) := by decide +kernel
theorem dX9_tellsApart_117 : decode cX9_tellsApart 117 = .ok (.iadd, 1) := by decide +kernel
theorem dX9_tellsApart_118 : decode cX9_tellsApart 118 = .ok (.putfield 107, 3) := by decide +kernel
theorem dX9_tellsApart_121 : decode cX9_tellsApart 121 = .ok (.return_, 1) := by decide +kernel
theorem qw_32 : (Cond.fieldLink RX9 101 "ClosedUntilModel" "year" "I" : Cond) ∈ TBL := List.mem_of_getElem? (i := 515) (by decide +kernel)
theorem qw_33 : (Cond.fieldLink RX9 104 "ClosedUntilModel" "month" "I" : Cond) ∈ TBL := List.mem_of_getElem? (i := 516) (by decide +kernel)
theorem qw_34 : (Cond.fieldLink RX9 107 "ClosedUntilModel" "dayIn" "I" : Cond) ∈ TBL := List.mem_of_getElem? (i := 517) (by decide +kernel)
set_option maxHeartbeats 4000000 in
set_option maxRecDepth 100000 in
theorem c_ta (l : Launch) (dC : Nat → ClassId) (dI : Nat → Nat → Nat) (g : Gv) (sz : Nat) (m0 : Nat) (a : Nat → Nat) (d : Nat) (k : Nat) (mo : Nat) (dd : Nat) (hk : k < 600) (hm1 : 1 ≤ mo) (hm2 : mo ≤ 12) (hd1 : 1 ≤ dd) (hd2 : dd ≤ mlN (1700 + k) mo) (hd : d = Fk k + Mk (1700 + k) mo + (dd - 1)) : Met l yX9_tellsApart (.code yX9_tellsApart cX9_tellsApart 3 none :: TBL) ({ frames := 2, cells := 0, slots := 0, locals := 80 }) (va_Pc [.ref m0, .int (nI d)] (fun U => U.heap.size = sz ∧ va_P (dC, dI) vwCl [(m0, .inr (8, [.int 0, .int 0, .int 0, .int 0, .ref (a 4), .int 0, .int 0, .int 0, .int 0, .int 0, .int 0, .long 0, .int 0, .int 0, .int 0, .int 0, .int 0, .int 0, .ref (a 18), .ref (a 19), .ref (a 20), .ref (a 21), .ref (a 22), .ref (a 23), .ref (a 24), .ref (a 25), .ref (a 26), .ref (a 27), .ref (a 28), .ref (a 29), .ref (a 30), .ref (a 31), .ref (a 32), .ref (a 33), .ref (a 34), .ref (a 35), .long 0, .int 0, .ref (a 38), .ref (a 39), .int 0, .ref (a 41), .ref (a 42), .ref (a 43)]))] U.heap ∧ va_K (dC, dI) vwCl [] U ∧ va_D (fun _ => True) [(m0, .inr (8, [.int 0, .int 0, .int 0, .int 0, .ref (a 4), .int 0, .int 0, .int 0, .int 0, .int 0, .int 0, .long 0, .int 0, .int 0, .int 0, .int 0, .int 0, .int 0, .ref (a 18), .ref (a 19), .ref (a 20), .ref (a 21), .ref (a 22), .ref (a 23), .ref (a 24), .ref (a 25), .ref (a 26), .ref (a 27), .ref (a 28), .ref (a 29), .ref (a 30), .ref (a 31), .ref (a 32), .ref (a 33), .ref (a 34), .ref (a 35), .long 0, .int 0, .ref (a 38), .ref (a 39), .int 0, .ref (a 41), .ref (a 42), .ref (a 43)]))] ∧ Ev g (va_A [(m0, .inr (8, [.int 0, .int 0, .int 0, .int 0, .ref (a 4), .int 0, .int 0, .int 0, .int 0, .int 0, .int 0, .long 0, .int 0, .int 0, .int 0, .int 0, .int 0, .int 0, .ref (a 18), .ref (a 19), .ref (a 20), .ref (a 21), .ref (a 22), .ref (a 23), .ref (a 24), .ref (a 25), .ref (a 26), .ref (a 27), .ref (a 28), .ref (a 29), .ref (a 30), .ref (a 31), .ref (a 32), .ref (a 33), .ref (a 34), .ref (a 35), .long 0, .int 0, .ref (a 38), .ref (a 39), .int 0, .ref (a 41), .ref (a 42), .ref (a 43)]))] sz) U)) (va_Qv (fun (u : Unit) => True) (fun (u : Unit) (t : State) => va_P (dC, dI) vwCl [(m0, .inr (8, [.int 0, .int (nI (1700 + k)), .int (nI mo), .int (nI dd), .ref (a 4), .int 0, .int 0, .int 0, .int 0, .int 0, .int 0, .long 0, .int 0, .int 0, .int 0, .int 0, .int 0, .int 0, .ref (a 18), .ref (a 19), .ref (a 20), .ref (a 21), .ref (a 22), .ref (a 23), .ref (a 24), .ref (a 25), .ref (a 26), .ref (a 27), .ref (a 28), .ref (a 29), .ref (a 30), .ref (a 31), .ref (a 32), .ref (a 33), .ref (a 34), .ref (a 35), .long 0, .int 0, .ref (a 38), .ref (a 39), .int 0, .ref (a 41), .ref (a 42), .ref (a 43)]))] t.heap ∧ va_K (dC, dI) vwCl [] t ∧ va_D (va_A [(m0, .inr (8, [.int 0, .int 0, .int 0, .int 0, .ref (a 4), .int 0, .int 0, .int 0, .int 0, .int 0, .int 0, .long 0, .int 0, .int 0, .int 0, .int 0, .int 0, .int 0, .ref (a 18), .ref (a 19), .ref (a 20), .ref (a 21), .ref (a 22), .ref (a 23), .ref (a 24), .ref (a 25), .ref (a 26), .ref (a 27), .ref (a 28), .ref (a 29), .ref (a 30), .ref (a 31), .ref (a 32), .ref (a 33), .ref (a 34), .ref (a 35), .long 0, .int 0, .ref (a 38), .ref (a 39), .int 0, .ref (a 41), .ref (a 42), .ref (a 43)]))] sz) [(m0, .inr (8, [.int 0, .int (nI (1700 + k)), .int (nI mo), .int (nI dd), .ref (a 4), .int 0, .int 0, .int 0, .int 0, .int 0, .int 0, .long 0, .int 0, .int 0, .int 0, .int 0, .int 0, .int 0, .ref (a 18), .ref (a 19), .ref (a 20), .ref (a 21), .ref (a 22), .ref (a 23), .ref (a 24), .ref (a 25), .ref (a 26), .ref (a 27), .ref (a 28), .ref (a 29), .ref (a 30), .ref (a 31), .ref (a 32), .ref (a 33), .ref (a 34), .ref (a 35), .long 0, .int 0, .ref (a 38), .ref (a 39), .int 0, .ref (a 41), .ref (a 42), .ref (a 43)]))]) (va_A [(m0, .inr (8, [.int 0, .int 0, .int 0, .int 0, .ref (a 4), .int 0, .int 0, .int 0, .int 0, .int 0, .int 0, .long 0, .int 0, .int 0, .int 0, .int 0, .int 0, .int 0, .ref (a 18), .ref (a 19), .ref (a 20), .ref (a 21), .ref (a 22), .ref (a 23), .ref (a 24), .ref (a 25), .ref (a 26), .ref (a 27), .ref (a 28), .ref (a 29), .ref (a 30), .ref (a 31), .ref (a 32), .ref (a 33), .ref (a 34), .ref (a 35), .long 0, .int 0, .ref (a 38), .ref (a 39), .int 0, .ref (a 41), .ref (a 42), .ref (a 43)]))] sz)) 0 0 (va_A [(m0, .inr (8, [.int 0, .int 0, .int 0, .int 0, .ref (a 4), .int 0, .int 0, .int 0, .int 0, .int 0, .int 0, .long 0, .int 0, .int 0, .int 0, .int 0, .int 0, .int 0, .ref (a 18), .ref (a 19), .ref (a 20), .ref (a 21), .ref (a 22), .ref (a 23), .ref (a 24), .ref (a 25), .ref (a 26), .ref (a 27), .ref (a 28), .ref (a 29), .ref (a 30), .ref (a 31), .ref (a 32), .ref (a 33), .ref (a 34), .ref (a 35), .long 0, .int 0, .ref (a 38), .ref (a 39), .int 0, .ref (a 41), .ref (a 42), .ref (a 43)]))] sz) := by
  refine Met.ofW (cc := cX9_tellsApart) (maxL := 3) (ret := none) (by decide) rfl ?_
  intro p e s m args below meth c s₁ B hml hv
  obtain ⟨rfl, hsz, hP, hK, hD0, hE⟩ := hv
  have hx := B.exec
  have hb := B.bytes
  have hr := B.returns
  have hts0 := atoms_spec (ws := (.code yX9_tellsApart cX9_tellsApart 3 none :: TBL)) B.pre
  have hts := fun (w : Cond) (h : w ∈ TBL) => hts0 w (List.mem_cons_of_mem _ h)
  have hown : s.vm.findClass RX9 = some m.cls := findClass_of_methodNamed B.named
  have hlocks := B.notSynchronized
  have hN := hE.1
  subst hsz
  have hD := hD0.self (sz := s.heap.size)
  generalize hAe : va_A [(m0, .inr (8, [.int 0, .int 0, .int 0, .int 0, .ref (a 4), .int 0, .int 0, .int 0, .int 0, .int 0, .int 0, .long 0, .int 0, .int 0, .int 0, .int 0, .int 0, .int 0, .ref (a 18), .ref (a 19), .ref (a 20), .ref (a 21), .ref (a 22), .ref (a 23), .ref (a 24), .ref (a 25), .ref (a 26), .ref (a 27), .ref (a 28), .ref (a 29), .ref (a 30), .ref (a 31), .ref (a 32), .ref (a 33), .ref (a 34), .ref (a 35), .long 0, .int 0, .ref (a 38), .ref (a 39), .int 0, .ref (a 41), .ref (a 42), .ref (a 43)]))] s.heap.size = A at hD hE ⊢
  have hA : ∀ q : Nat, s.heap.size ≤ q → A q := fun q h => by rw [← hAe]; exact Or.inr h
  have hS : va_S A s.heap s.heap [] := va_S.rf
  have hP : va_P (dC, dI) vwCl [(m0, .inr (8, [.int 0, .int 0, .int 0, .int 0, .ref (a 4), .int 0, .int 0, .int 0, .int 0, .int 0, .int 0, .long 0, .int 0, .int 0, .int 0, .int 0, .int 0, .int 0, .ref (a 18), .ref (a 19), .ref (a 20), .ref (a 21), .ref (a 22), .ref (a 23), .ref (a 24), .ref (a 25), .ref (a 26), .ref (a 27), .ref (a 28), .ref (a 29), .ref (a 30), .ref (a 31), .ref (a 32), .ref (a 33), .ref (a 34), .ref (a 35), .long 0, .int 0, .ref (a 38), .ref (a 39), .int 0, .ref (a 41), .ref (a 42), .ref (a 43)]))] s.heap := hP
  have hl := lv_entry ([.ref m0, .int (nI d)]) (n := 3) (Nat.le_of_ble_eq_true rfl)
  rw [lg_entry_eq]
  generalize (lg_sl ([.ref m0, .int (nI d)]) ++ List.replicate (3 - (lg_sl ([.ref m0, .int (nI d)])).length) Slot.unset).toArray = ls at hl ⊢
  have hl : lv_has ls 3 [(0, .ref m0), (1, .int (nI d))] := hl
  have hb1 := mlN_b (1700 + k) mo
  have h1 : Fk k ≤ d := by omega
  have h2 : d < Fk (k + 1) := by
    rw [Fk_s k hk]; have q1 := Mk_le (y := 1700 + k) (a := mo + 1) (b := 13) (by omega) (by omega); rw [Mk_13, Mk_s hm1] at q1; omega
  have hd9 : d < 219145 := by have := Fk_b (k := k + 1) (by omega); omega
  have hb3 := Mk_b (y := 1700 + k) hm1 hm2
  have hb2 := Fk_b (k := k) (by omega)
  refine lv_iload_n hx hb dX9_tellsApart_0 rfl (lv_at hl 1 rfl) ?_
  refine lv_istore_n (lv' := [(2, .int (nI d)), (0, .ref m0), (1, .int (nI d))]) hx hb dX9_tellsApart_1 rfl hl (by decide) rfl (fun ls hl => ?_)
  refine lv_aload_n hx hb dX9_tellsApart_2 rfl (lv_at hl 1 rfl) ?_
  refine lv_sipush (v := 1700) hx hb dX9_tellsApart_3 (by decide) ?_
  refine va_put (D := (dC, dI)) (ci := 8) (v := .int 1700) (ty := .int) (C := RX9) (T := TX9) (N := 44) hx hb hts inlX9 tyX9 tyX9_ok nmX9 hown hK hP hD hS 0 rfl rfl 1 (by decide) (hts (.fieldLink RX9 101 "ClosedUntilModel" "year" "I") qw_32) (fun _ h9 => h9) rfl (by decide +kernel) rfl rfl (Nat.le_of_ble_eq_true rfl) dX9_tellsApart_6 (fun H locs hP hD hS => ?_)
  have hP : va_P (dC, dI) vwCl [(m0, .inr (8, [.int 0, .int 1700, .int 0, .int 0, .ref (a 4), .int 0, .int 0, .int 0, .int 0, .int 0, .int 0, .long 0, .int 0, .int 0, .int 0, .int 0, .int 0, .int 0, .ref (a 18), .ref (a 19), .ref (a 20), .ref (a 21), .ref (a 22), .ref (a 23), .ref (a 24), .ref (a 25), .ref (a 26), .ref (a 27), .ref (a 28), .ref (a 29), .ref (a 30), .ref (a 31), .ref (a 32), .ref (a 33), .ref (a 34), .ref (a 35), .long 0, .int 0, .ref (a 38), .ref (a 39), .int 0, .ref (a 41), .ref (a 42), .ref (a 43)]))] H := hP
  have hD : va_D A [(m0, .inr (8, [.int 0, .int 1700, .int 0, .int 0, .ref (a 4), .int 0, .int 0, .int 0, .int 0, .int 0, .int 0, .long 0, .int 0, .int 0, .int 0, .int 0, .int 0, .int 0, .ref (a 18), .ref (a 19), .ref (a 20), .ref (a 21), .ref (a 22), .ref (a 23), .ref (a 24), .ref (a 25), .ref (a 26), .ref (a 27), .ref (a 28), .ref (a 29), .ref (a 30), .ref (a 31), .ref (a 32), .ref (a 33), .ref (a 34), .ref (a 35), .long 0, .int 0, .ref (a 38), .ref (a 39), .int 0, .ref (a 41), .ref (a 42), .ref (a 43)]))] := hD
  refine wloop (fun n H locs ls => ∃ (j : Nat), n = k - j ∧ (j ≤ k) ∧ (Fk j ≤ d) ∧ lv_has ls 3 [(0, .ref m0), (1, .int (nI d)), (2, .int (nI (d - Fk j)))] ∧ va_P (dC, dI) vwCl [(m0, .inr (8, [.int 0, .int (nI (1700 + j)), .int 0, .int 0, .ref (a 4), .int 0, .int 0, .int 0, .int 0, .int 0, .int 0, .long 0, .int 0, .int 0, .int 0, .int 0, .int 0, .int 0, .ref (a 18), .ref (a 19), .ref (a 20), .ref (a 21), .ref (a 22), .ref (a 23), .ref (a 24), .ref (a 25), .ref (a 26), .ref (a 27), .ref (a 28), .ref (a 29), .ref (a 30), .ref (a 31), .ref (a 32), .ref (a 33), .ref (a 34), .ref (a 35), .long 0, .int 0, .ref (a 38), .ref (a 39), .int 0, .ref (a 41), .ref (a 42), .ref (a 43)]))] H ∧ va_D A [(m0, .inr (8, [.int 0, .int (nI (1700 + j)), .int 0, .int 0, .ref (a 4), .int 0, .int 0, .int 0, .int 0, .int 0, .int 0, .long 0, .int 0, .int 0, .int 0, .int 0, .int 0, .int 0, .ref (a 18), .ref (a 19), .ref (a 20), .ref (a 21), .ref (a 22), .ref (a 23), .ref (a 24), .ref (a 25), .ref (a 26), .ref (a 27), .ref (a 28), .ref (a 29), .ref (a 30), .ref (a 31), .ref (a 32), .ref (a 33), .ref (a 34), .ref (a 35), .long 0, .int 0, .ref (a 38), .ref (a 39), .int 0, .ref (a 41), .ref (a 42), .ref (a 43)]))] ∧ va_S A s.heap H locs) ?_ (k - (0)) _ _ _ ⟨0, rfl, (by omega), (Nat.zero_le _), lv_sub hl [1, 2, 0] rfl, hP.sub [0] rfl, hD.sub [0] (by decide) rfl, hS⟩
  intro n H locs ls hI ih
  obtain ⟨j, hn9, j2, j3, hl, hP, hD, hS⟩ := hI
  refine lv_iload_n hx hb dX9_tellsApart_9 rfl (lv_at hl 2 rfl) ?_
  refine lv_aload_n hx hb dX9_tellsApart_10 rfl (lv_at hl 0 rfl) ?_
  refine va_get (D := (dC, dI)) (ci := 8) (v := .int (nI (1700 + j))) (C := RX9) (T := TX9) (N := 44) hx hb hts inlX9 hown hK hP 0 rfl rfl 1 (by decide) (hts (.fieldLink RX9 101 "ClosedUntilModel" "year" "I") qw_32) (fun _ h9 => h9) rfl dX9_tellsApart_11 ?_
  have hPc := hP.sub (ws' := []) [] rfl
  have hKc := hK.sub (tys' := []) [] rfl
  refine vp_callSi ((va_runS (As := [.int (nI (1700 + j))]) (rest := [.int (nI (d - Fk j))]) ⟨hx, hb, hml, hown, hts⟩ (c_lp l dC dI g (1700 + j) (by omega)) (va_cwS 1 hts (gwS qw_24 qw_25 qw_23 qw_22) rfl rfl rfl (by decide +kernel) ⟨Nat.le_of_ble_eq_true rfl, Nat.le_of_ble_eq_true rfl⟩) ⟨fun a U g9 mk q => ⟨q.1, q.2.1, va_K.moved (u := U) (U := U.calling g9 mk a) (Vm.Alike.refl U.vm) q.2.2.1, Ev.bl q.2.2.2⟩, fun U hU hW => ⟨rfl, by rw [hU]; exact hPc, va_K.moved hW.alike hKc, hE.go hS (fun _ h => h.elim) hU hW⟩⟩ rfl rfl hl.1 rfl (lv_room (Nat.le_of_ble_eq_true rfl)) dX9_tellsApart_14 ⟨Nat.le_of_ble_eq_true rfl, Nat.le_of_ble_eq_true rfl⟩)).run (fun r1 h_r1 => ?_)
  rcases h_r1 with ⟨hq2, rfl⟩ | ⟨hq2, rfl⟩
  · refine lv_if_eq (tgt := 26) hx hb dX9_tellsApart_17 (by decide) (fun c17_3 => by exfalso; exact absurd c17_3 (by decide)) (fun c17_3 => ?_)
    refine lv_sipush (v := 366) hx hb dX9_tellsApart_20 (by decide) ?_
    refine lv_goto (tgt := 29) hx hb dX9_tellsApart_23 (by decide) ?_
    refine lv_icmp_lt (tgt := 67) hx hb dX9_tellsApart_29 (by decide) (fun c29_4 => ?_) (fun c29_4 => ?_)
    · have c29_4 : ((d - Fk j : Nat) : Int) < 366 := (cv_lt (nI_toInt (by omega)) (by decide)).mp c29_4
      have hj9 : k = j := ta_j hk j2 h1 (yl_1 hq2) (by omega)
      subst hj9
      refine lv_aload_n hx hb dX9_tellsApart_67 rfl (lv_at hl 0 rfl) ?_
      refine lv_iconst (v := 1) hx hb dX9_tellsApart_68 (by decide) ?_
      refine va_put (D := (dC, dI)) (ci := 8) (v := .int 1) (ty := .int) (C := RX9) (T := TX9) (N := 44) hx hb hts inlX9 tyX9 tyX9_ok nmX9 hown hK hP hD hS 0 rfl rfl 2 (by decide) (hts (.fieldLink RX9 104 "ClosedUntilModel" "month" "I") qw_33) (fun _ h9 => h9) rfl (by decide +kernel) rfl rfl (Nat.le_of_ble_eq_true rfl) dX9_tellsApart_69 (fun H locs hP hD hS => ?_)
      have hP : va_P (dC, dI) vwCl [(m0, .inr (8, [.int 0, .int (nI (1700 + k)), .int 1, .int 0, .ref (a 4), .int 0, .int 0, .int 0, .int 0, .int 0, .int 0, .long 0, .int 0, .int 0, .int 0, .int 0, .int 0, .int 0, .ref (a 18), .ref (a 19), .ref (a 20), .ref (a 21), .ref (a 22), .ref (a 23), .ref (a 24), .ref (a 25), .ref (a 26), .ref (a 27), .ref (a 28), .ref (a 29), .ref (a 30), .ref (a 31), .ref (a 32), .ref (a 33), .ref (a 34), .ref (a 35), .long 0, .int 0, .ref (a 38), .ref (a 39), .int 0, .ref (a 41), .ref (a 42), .ref (a 43)]))] H := hP
      have hD : va_D A [(m0, .inr (8, [.int 0, .int (nI (1700 + k)), .int 1, .int 0, .ref (a 4), .int 0, .int 0, .int 0, .int 0, .int 0, .int 0, .long 0, .int 0, .int 0, .int 0, .int 0, .int 0, .int 0, .ref (a 18), .ref (a 19), .ref (a 20), .ref (a 21), .ref (a 22), .ref (a 23), .ref (a 24), .ref (a 25), .ref (a 26), .ref (a 27), .ref (a 28), .ref (a 29), .ref (a 30), .ref (a 31), .ref (a 32), .ref (a 33), .ref (a 34), .ref (a 35), .long 0, .int 0, .ref (a 38), .ref (a 39), .int 0, .ref (a 41), .ref (a 42), .ref (a 43)]))] := hD
      refine wloop (fun n H locs ls => ∃ (i : Nat), n = mo - i ∧ (1 ≤ i) ∧ (i ≤ mo) ∧ lv_has ls 3 [(0, .ref m0), (2, .int (nI (d - Fk k - Mk (1700 + k) i)))] ∧ va_P (dC, dI) vwCl [(m0, .inr (8, [.int 0, .int (nI (1700 + k)), .int (nI i), .int 0, .ref (a 4), .int 0, .int 0, .int 0, .int 0, .int 0, .int 0, .long 0, .int 0, .int 0, .int 0, .int 0, .int 0, .int 0, .ref (a 18), .ref (a 19), .ref (a 20), .ref (a 21), .ref (a 22), .ref (a 23), .ref (a 24), .ref (a 25), .ref (a 26), .ref (a 27), .ref (a 28), .ref (a 29), .ref (a 30), .ref (a 31), .ref (a 32), .ref (a 33), .ref (a 34), .ref (a 35), .long 0, .int 0, .ref (a 38), .ref (a 39), .int 0, .ref (a 41), .ref (a 42), .ref (a 43)]))] H ∧ va_D A [(m0, .inr (8, [.int 0, .int (nI (1700 + k)), .int (nI i), .int 0, .ref (a 4), .int 0, .int 0, .int 0, .int 0, .int 0, .int 0, .long 0, .int 0, .int 0, .int 0, .int 0, .int 0, .int 0, .ref (a 18), .ref (a 19), .ref (a 20), .ref (a 21), .ref (a 22), .ref (a 23), .ref (a 24), .ref (a 25), .ref (a 26), .ref (a 27), .ref (a 28), .ref (a 29), .ref (a 30), .ref (a 31), .ref (a 32), .ref (a 33), .ref (a 34), .ref (a 35), .long 0, .int 0, .ref (a 38), .ref (a 39), .int 0, .ref (a 41), .ref (a 42), .ref (a 43)]))] ∧ va_S A s.heap H locs) ?_ (mo - (1)) _ _ _ ⟨1, rfl, (by omega), (by omega), lv_sub hl [0, 2] rfl, hP.sub [0] rfl, hD.sub [0] (by decide) rfl, hS⟩
      intro n H locs ls hI ih
      obtain ⟨i, hn9, i1, i2, hl, hP, hD, hS⟩ := hI
      have hli := Mk_le (y := 1700 + k) i1 i2
      have hbi := mlN_b (1700 + k) i
      refine lv_iload_n hx hb dX9_tellsApart_72 rfl (lv_at hl 1 rfl) ?_
      refine lv_aload_n hx hb dX9_tellsApart_73 rfl (lv_at hl 0 rfl) ?_
      refine va_get (D := (dC, dI)) (ci := 8) (v := .int (nI (1700 + k))) (C := RX9) (T := TX9) (N := 44) hx hb hts inlX9 hown hK hP 0 rfl rfl 1 (by decide) (hts (.fieldLink RX9 101 "ClosedUntilModel" "year" "I") qw_32) (fun _ h9 => h9) rfl dX9_tellsApart_74 ?_
      refine lv_aload_n hx hb dX9_tellsApart_77 rfl (lv_at hl 0 rfl) ?_
      refine va_get (D := (dC, dI)) (ci := 8) (v := .int (nI i)) (C := RX9) (T := TX9) (N := 44) hx hb hts inlX9 hown hK hP 0 rfl rfl 2 (by decide) (hts (.fieldLink RX9 104 "ClosedUntilModel" "month" "I") qw_33) (fun _ h9 => h9) rfl dX9_tellsApart_78 ?_
      have hPc := hP.sub (ws' := []) [] rfl
      have hKc := hK.sub (tys' := []) [] rfl
      refine vp_callSi ((va_runS (As := [.int (nI (1700 + k)), .int (nI i)]) (rest := [.int (nI (d - Fk k - Mk (1700 + k) i))]) ⟨hx, hb, hml, hown, hts⟩ (c_di l dC dI g (1700 + k) (i) (by omega) (by omega) (by omega)) (va_cwS 2 hts (gwS qw_30 qw_31 qw_23 qw_29) rfl rfl rfl (by decide +kernel) ⟨Nat.le_of_ble_eq_true rfl, Nat.le_of_ble_eq_true rfl⟩) ⟨fun a U g9 mk q => ⟨q.1, q.2.1, va_K.moved (u := U) (U := U.calling g9 mk a) (Vm.Alike.refl U.vm) q.2.2.1, Ev.bl q.2.2.2⟩, fun U hU hW => ⟨rfl, by rw [hU]; exact hPc, va_K.moved hW.alike hKc, hE.go hS (fun _ h => h.elim) hU hW⟩⟩ rfl rfl hl.1 rfl (lv_room (Nat.le_of_ble_eq_true rfl)) dX9_tellsApart_81 ⟨Nat.le_of_ble_eq_true rfl, Nat.le_of_ble_eq_true rfl⟩)).run (fun r5 h_r5 => ?_)
      have h_r5 : r5 = nI (mlN (1700 + k) i) := h_r5
      subst h_r5
      refine lv_icmp_lt (tgt := 114) hx hb dX9_tellsApart_84 (by decide) (fun c84_6 => ?_) (fun c84_6 => ?_)
      · have c84_6 : ((d - Fk k - Mk (1700 + k) i : Nat) : Int) < ((mlN (1700 + k) i : Nat) : Int) := (cv_lt (nI_toInt (by omega)) (nI_toInt (by omega))).mp c84_6
        have hi9 : mo = i := (Mk_one (y := 1700 + k) (r := d - Fk k) i1 hm1 (by omega) (by omega) (by omega) (by omega)).symm
        subst hi9
        refine lv_aload_n hx hb dX9_tellsApart_114 rfl (lv_at hl 0 rfl) ?_
        refine lv_iload_n hx hb dX9_tellsApart_115 rfl (lv_at hl 1 rfl) ?_
        refine lv_iconst (v := 1) hx hb dX9_tellsApart_116 (by decide) ?_
        refine lv_iadd hx hb dX9_tellsApart_117 ?_
        refine cst (v := nI (dd)) (by rw [show (1 : Int32) = nI 1 from rfl, nI_add]; congr 1; omega) ?_
        refine va_put (D := (dC, dI)) (ci := 8) (v := .int (nI dd)) (ty := .int) (C := RX9) (T := TX9) (N := 44) hx hb hts inlX9 tyX9 tyX9_ok nmX9 hown hK hP hD hS 0 rfl rfl 3 (by decide) (hts (.fieldLink RX9 107 "ClosedUntilModel" "dayIn" "I") qw_34) (fun _ h9 => h9) rfl (by decide +kernel) rfl rfl (Nat.le_of_ble_eq_true rfl) dX9_tellsApart_118 (fun H locs hP hD hS => ?_)
        have hP : va_P (dC, dI) vwCl [(m0, .inr (8, [.int 0, .int (nI (1700 + k)), .int (nI mo), .int (nI dd), .ref (a 4), .int 0, .int 0, .int 0, .int 0, .int 0, .int 0, .long 0, .int 0, .int 0, .int 0, .int 0, .int 0, .int 0, .ref (a 18), .ref (a 19), .ref (a 20), .ref (a 21), .ref (a 22), .ref (a 23), .ref (a 24), .ref (a 25), .ref (a 26), .ref (a 27), .ref (a 28), .ref (a 29), .ref (a 30), .ref (a 31), .ref (a 32), .ref (a 33), .ref (a 34), .ref (a 35), .long 0, .int 0, .ref (a 38), .ref (a 39), .int 0, .ref (a 41), .ref (a 42), .ref (a 43)]))] H := hP
        have hD : va_D A [(m0, .inr (8, [.int 0, .int (nI (1700 + k)), .int (nI mo), .int (nI dd), .ref (a 4), .int 0, .int 0, .int 0, .int 0, .int 0, .int 0, .long 0, .int 0, .int 0, .int 0, .int 0, .int 0, .int 0, .ref (a 18), .ref (a 19), .ref (a 20), .ref (a 21), .ref (a 22), .ref (a 23), .ref (a 24), .ref (a 25), .ref (a 26), .ref (a 27), .ref (a 28), .ref (a 29), .ref (a 30), .ref (a 31), .ref (a 32), .ref (a 33), .ref (a 34), .ref (a 35), .long 0, .int 0, .ref (a 38), .ref (a 39), .int 0, .ref (a 41), .ref (a 42), .ref (a 43)]))] := hD
        refine W.widen (k := 0) (n := 0) (Nat.le_of_ble_eq_true rfl) (Nat.le_of_ble_eq_true rfl) ?_
        have hP9 := hP.sub (ws' := [(m0, .inr (8, [.int 0, .int (nI (1700 + k)), .int (nI mo), .int (nI dd), .ref (a 4), .int 0, .int 0, .int 0, .int 0, .int 0, .int 0, .long 0, .int 0, .int 0, .int 0, .int 0, .int 0, .int 0, .ref (a 18), .ref (a 19), .ref (a 20), .ref (a 21), .ref (a 22), .ref (a 23), .ref (a 24), .ref (a 25), .ref (a 26), .ref (a 27), .ref (a 28), .ref (a 29), .ref (a 30), .ref (a 31), .ref (a 32), .ref (a 33), .ref (a 34), .ref (a 35), .long 0, .int 0, .ref (a 38), .ref (a 39), .int 0, .ref (a 41), .ref (a 42), .ref (a 43)]))]) [0] rfl
        have hD9 := hD.sub (ws' := [(m0, .inr (8, [.int 0, .int (nI (1700 + k)), .int (nI mo), .int (nI dd), .ref (a 4), .int 0, .int 0, .int 0, .int 0, .int 0, .int 0, .long 0, .int 0, .int 0, .int 0, .int 0, .int 0, .int 0, .ref (a 18), .ref (a 19), .ref (a 20), .ref (a 21), .ref (a 22), .ref (a 23), .ref (a 24), .ref (a 25), .ref (a 26), .ref (a 27), .ref (a 28), .ref (a 29), .ref (a 30), .ref (a 31), .ref (a 32), .ref (a 33), .ref (a 34), .ref (a 35), .long 0, .int 0, .ref (a 38), .ref (a 39), .int 0, .ref (a 41), .ref (a 42), .ref (a 43)]))]) [0] (by decide) rfl
        have hK9 := hK.sub (tys' := []) [] rfl
        exact W.vret hx hb hr (fun t ht hW => ⟨⟨(), rfl, (trivial), by rw [ht]; exact hP9, va_K.moved hW.alike hK9, hD9⟩, hS.F ht⟩) hS.2.2 dX9_tellsApart_121
      · have c84_6 : ¬ (((d - Fk k - Mk (1700 + k) i : Nat) : Int) < ((mlN (1700 + k) i : Nat) : Int)) := mt (cv_lt (nI_toInt (by omega)) (nI_toInt (by omega))).mpr c84_6
        refine lv_iload_n hx hb dX9_tellsApart_87 rfl (lv_at hl 1 rfl) ?_
        refine lv_aload_n hx hb dX9_tellsApart_88 rfl (lv_at hl 0 rfl) ?_
        refine va_get (D := (dC, dI)) (ci := 8) (v := .int (nI (1700 + k))) (C := RX9) (T := TX9) (N := 44) hx hb hts inlX9 hown hK hP 0 rfl rfl 1 (by decide) (hts (.fieldLink RX9 101 "ClosedUntilModel" "year" "I") qw_32) (fun _ h9 => h9) rfl dX9_tellsApart_89 ?_
        refine lv_aload_n hx hb dX9_tellsApart_92 rfl (lv_at hl 0 rfl) ?_
        refine va_get (D := (dC, dI)) (ci := 8) (v := .int (nI i)) (C := RX9) (T := TX9) (N := 44) hx hb hts inlX9 hown hK hP 0 rfl rfl 2 (by decide) (hts (.fieldLink RX9 104 "ClosedUntilModel" "month" "I") qw_33) (fun _ h9 => h9) rfl dX9_tellsApart_93 ?_
        have hPc := hP.sub (ws' := []) [] rfl
        have hKc := hK.sub (tys' := []) [] rfl
        refine vp_callSi ((va_runS (As := [.int (nI (1700 + k)), .int (nI i)]) (rest := [.int (nI (d - Fk k - Mk (1700 + k) i))]) ⟨hx, hb, hml, hown, hts⟩ (c_di l dC dI g (1700 + k) (i) (by omega) (by omega) (by omega)) (va_cwS 2 hts (gwS qw_30 qw_31 qw_23 qw_29) rfl rfl rfl (by decide +kernel) ⟨Nat.le_of_ble_eq_true rfl, Nat.le_of_ble_eq_true rfl⟩) ⟨fun a U g9 mk q => ⟨q.1, q.2.1, va_K.moved (u := U) (U := U.calling g9 mk a) (Vm.Alike.refl U.vm) q.2.2.1, Ev.bl q.2.2.2⟩, fun U hU hW => ⟨rfl, by rw [hU]; exact hPc, va_K.moved hW.alike hKc, hE.go hS (fun _ h => h.elim) hU hW⟩⟩ rfl rfl hl.1 rfl (lv_room (Nat.le_of_ble_eq_true rfl)) dX9_tellsApart_96 ⟨Nat.le_of_ble_eq_true rfl, Nat.le_of_ble_eq_true rfl⟩)).run (fun r7 h_r7 => ?_)
        have h_r7 : r7 = nI (mlN (1700 + k) i) := h_r7
        subst h_r7
        refine lv_isub hx hb dX9_tellsApart_99 ?_
        refine cst (v := nI (d - Fk k - Mk (1700 + k) (i + 1))) (by rw [Mk_s i1, pk_sub (by omega)]; congr 1; omega) ?_
        refine lv_istore_n (lv' := [(2, .int (nI (d - Fk k - Mk (1700 + k) (i + 1)))), (0, .ref m0)]) hx hb dX9_tellsApart_100 rfl hl (by decide) rfl (fun ls hl => ?_)
        refine lv_aload_n hx hb dX9_tellsApart_101 rfl (lv_at hl 1 rfl) ?_
        refine lv_dup hx hb dX9_tellsApart_102 rfl ?_
        refine va_get (D := (dC, dI)) (ci := 8) (v := .int (nI i)) (C := RX9) (T := TX9) (N := 44) hx hb hts inlX9 hown hK hP 0 rfl rfl 2 (by decide) (hts (.fieldLink RX9 104 "ClosedUntilModel" "month" "I") qw_33) (fun _ h9 => h9) rfl dX9_tellsApart_103 ?_
        refine lv_iconst (v := 1) hx hb dX9_tellsApart_106 (by decide) ?_
        refine lv_iadd hx hb dX9_tellsApart_107 ?_
        refine cst (v := nI (i + 1)) (nI_add i 1) ?_
        refine va_put (D := (dC, dI)) (ci := 8) (v := .int (nI (i + 1))) (ty := .int) (C := RX9) (T := TX9) (N := 44) hx hb hts inlX9 tyX9 tyX9_ok nmX9 hown hK hP hD hS 0 rfl rfl 2 (by decide) (hts (.fieldLink RX9 104 "ClosedUntilModel" "month" "I") qw_33) (fun _ h9 => h9) rfl (by decide +kernel) rfl rfl (Nat.le_of_ble_eq_true rfl) dX9_tellsApart_108 (fun H locs hP hD hS => ?_)
        have hP : va_P (dC, dI) vwCl [(m0, .inr (8, [.int 0, .int (nI (1700 + k)), .int (nI (i + 1)), .int 0, .ref (a 4), .int 0, .int 0, .int 0, .int 0, .int 0, .int 0, .long 0, .int 0, .int 0, .int 0, .int 0, .int 0, .int 0, .ref (a 18), .ref (a 19), .ref (a 20), .ref (a 21), .ref (a 22), .ref (a 23), .ref (a 24), .ref (a 25), .ref (a 26), .ref (a 27), .ref (a 28), .ref (a 29), .ref (a 30), .ref (a 31), .ref (a 32), .ref (a 33), .ref (a 34), .ref (a 35), .long 0, .int 0, .ref (a 38), .ref (a 39), .int 0, .ref (a 41), .ref (a 42), .ref (a 43)]))] H := hP
        have hD : va_D A [(m0, .inr (8, [.int 0, .int (nI (1700 + k)), .int (nI (i + 1)), .int 0, .ref (a 4), .int 0, .int 0, .int 0, .int 0, .int 0, .int 0, .long 0, .int 0, .int 0, .int 0, .int 0, .int 0, .int 0, .ref (a 18), .ref (a 19), .ref (a 20), .ref (a 21), .ref (a 22), .ref (a 23), .ref (a 24), .ref (a 25), .ref (a 26), .ref (a 27), .ref (a 28), .ref (a 29), .ref (a 30), .ref (a 31), .ref (a 32), .ref (a 33), .ref (a 34), .ref (a 35), .long 0, .int 0, .ref (a 38), .ref (a 39), .int 0, .ref (a 41), .ref (a 42), .ref (a 43)]))] := hD
        refine lv_goto (tgt := 72) hx hb dX9_tellsApart_111 (by decide) ?_
        have i3 := mdj (y := 1700 + k) (r := d - Fk k) i2 (by omega) (by omega)
        exact ih (mo - (i + 1)) _ _ _ (by omega) ⟨i + 1, rfl, (by omega), (by omega), lv_sub hl [1, 0] rfl, hP.sub [0] rfl, hD.sub [0] (by decide) rfl, hS⟩
    · have c29_4 : ¬ (((d - Fk j : Nat) : Int) < 366) := mt (cv_lt (nI_toInt (by omega)) (by decide)).mpr c29_4
      refine lv_iload_n hx hb dX9_tellsApart_32 rfl (lv_at hl 2 rfl) ?_
      refine lv_aload_n hx hb dX9_tellsApart_33 rfl (lv_at hl 0 rfl) ?_
      refine va_get (D := (dC, dI)) (ci := 8) (v := .int (nI (1700 + j))) (C := RX9) (T := TX9) (N := 44) hx hb hts inlX9 hown hK hP 0 rfl rfl 1 (by decide) (hts (.fieldLink RX9 101 "ClosedUntilModel" "year" "I") qw_32) (fun _ h9 => h9) rfl dX9_tellsApart_34 ?_
      have hPc := hP.sub (ws' := []) [] rfl
      have hKc := hK.sub (tys' := []) [] rfl
      refine vp_callSi ((va_runS (As := [.int (nI (1700 + j))]) (rest := [.int (nI (d - Fk j))]) ⟨hx, hb, hml, hown, hts⟩ (c_lp l dC dI g (1700 + j) (by omega)) (va_cwS 1 hts (gwS qw_24 qw_25 qw_23 qw_22) rfl rfl rfl (by decide +kernel) ⟨Nat.le_of_ble_eq_true rfl, Nat.le_of_ble_eq_true rfl⟩) ⟨fun a U g9 mk q => ⟨q.1, q.2.1, va_K.moved (u := U) (U := U.calling g9 mk a) (Vm.Alike.refl U.vm) q.2.2.1, Ev.bl q.2.2.2⟩, fun U hU hW => ⟨rfl, by rw [hU]; exact hPc, va_K.moved hW.alike hKc, hE.go hS (fun _ h => h.elim) hU hW⟩⟩ rfl rfl hl.1 rfl (lv_room (Nat.le_of_ble_eq_true rfl)) dX9_tellsApart_37 ⟨Nat.le_of_ble_eq_true rfl, Nat.le_of_ble_eq_true rfl⟩)).run (fun r8 h_r8 => ?_)
      obtain ⟨hq9, rfl⟩ : _ ∧ r8 = 1 := by rcases h_r8 with q | q; exact q; exact absurd (q.1.symm.trans hq2) (by decide)
      refine lv_if_eq (tgt := 49) hx hb dX9_tellsApart_40 (by decide) (fun c40_10 => by exfalso; exact absurd c40_10 (by decide)) (fun c40_10 => ?_)
      refine lv_sipush (v := 366) hx hb dX9_tellsApart_43 (by decide) ?_
      refine lv_goto (tgt := 52) hx hb dX9_tellsApart_46 (by decide) ?_
      refine lv_isub hx hb dX9_tellsApart_52 ?_
      refine cst (v := nI (d - Fk (j + 1))) (ta_s (w := 366) (by omega) (yl_1 hq2) (by omega)) ?_
      refine lv_istore_n (lv' := [(2, .int (nI (d - Fk (j + 1)))), (0, .ref m0), (1, .int (nI d))]) hx hb dX9_tellsApart_53 rfl hl (by decide) rfl (fun ls hl => ?_)
      refine lv_aload_n hx hb dX9_tellsApart_54 rfl (lv_at hl 1 rfl) ?_
      refine lv_dup hx hb dX9_tellsApart_55 rfl ?_
      refine va_get (D := (dC, dI)) (ci := 8) (v := .int (nI (1700 + j))) (C := RX9) (T := TX9) (N := 44) hx hb hts inlX9 hown hK hP 0 rfl rfl 1 (by decide) (hts (.fieldLink RX9 101 "ClosedUntilModel" "year" "I") qw_32) (fun _ h9 => h9) rfl dX9_tellsApart_56 ?_
      refine lv_iconst (v := 1) hx hb dX9_tellsApart_59 (by decide) ?_
      refine lv_iadd hx hb dX9_tellsApart_60 ?_
      refine cst (v := nI (1700 + (j + 1))) (nI_add (1700 + j) 1) ?_
      refine va_put (D := (dC, dI)) (ci := 8) (v := .int (nI (1700 + (j + 1)))) (ty := .int) (C := RX9) (T := TX9) (N := 44) hx hb hts inlX9 tyX9 tyX9_ok nmX9 hown hK hP hD hS 0 rfl rfl 1 (by decide) (hts (.fieldLink RX9 101 "ClosedUntilModel" "year" "I") qw_32) (fun _ h9 => h9) rfl (by decide +kernel) rfl rfl (Nat.le_of_ble_eq_true rfl) dX9_tellsApart_61 (fun H locs hP hD hS => ?_)
      have hP : va_P (dC, dI) vwCl [(m0, .inr (8, [.int 0, .int (nI (1700 + (j + 1))), .int 0, .int 0, .ref (a 4), .int 0, .int 0, .int 0, .int 0, .int 0, .int 0, .long 0, .int 0, .int 0, .int 0, .int 0, .int 0, .int 0, .ref (a 18), .ref (a 19), .ref (a 20), .ref (a 21), .ref (a 22), .ref (a 23), .ref (a 24), .ref (a 25), .ref (a 26), .ref (a 27), .ref (a 28), .ref (a 29), .ref (a 30), .ref (a 31), .ref (a 32), .ref (a 33), .ref (a 34), .ref (a 35), .long 0, .int 0, .ref (a 38), .ref (a 39), .int 0, .ref (a 41), .ref (a 42), .ref (a 43)]))] H := hP
      have hD : va_D A [(m0, .inr (8, [.int 0, .int (nI (1700 + (j + 1))), .int 0, .int 0, .ref (a 4), .int 0, .int 0, .int 0, .int 0, .int 0, .int 0, .long 0, .int 0, .int 0, .int 0, .int 0, .int 0, .int 0, .ref (a 18), .ref (a 19), .ref (a 20), .ref (a 21), .ref (a 22), .ref (a 23), .ref (a 24), .ref (a 25), .ref (a 26), .ref (a 27), .ref (a 28), .ref (a 29), .ref (a 30), .ref (a 31), .ref (a 32), .ref (a 33), .ref (a 34), .ref (a 35), .long 0, .int 0, .ref (a 38), .ref (a 39), .int 0, .ref (a 41), .ref (a 42), .ref (a 43)]))] := hD
      refine lv_goto (tgt := 9) hx hb dX9_tellsApart_64 (by decide) ?_
      have j4 := ta_n hk j2 h2 (yl_1 hq2) (by omega)
      have j5 := Fk_mono (a := j + 1) (b := k) j4 (by omega)
      exact ih (k - (j + 1)) _ _ _ (by omega) ⟨j + 1, rfl, (by omega), (by omega), lv_sub hl [1, 2, 0] rfl, hP.sub [0] rfl, hD.sub [0] (by decide) rfl, hS⟩
  · refine lv_if_eq (tgt := 26) hx hb dX9_tellsApart_17 (by decide) (fun c17_11 => ?_) (fun c17_11 => by exfalso; exact absurd c17_11 (by decide))
    refine lv_sipush (v := 365) hx hb dX9_tellsApart_26 (by decide) ?_
    refine lv_icmp_lt (tgt := 67) hx hb dX9_tellsApart_29 (by decide) (fun c29_12 => ?_) (fun c29_12 => ?_)
    · have c29_12 : ((d - Fk j : Nat) : Int) < 365 := (cv_lt (nI_toInt (by omega)) (by decide)).mp c29_12
      have hj9 : k = j := ta_j hk j2 h1 (yl_0 hq2) (by omega)
      subst hj9
      refine lv_aload_n hx hb dX9_tellsApart_67 rfl (lv_at hl 0 rfl) ?_
      refine lv_iconst (v := 1) hx hb dX9_tellsApart_68 (by decide) ?_
      refine va_put (D := (dC, dI)) (ci := 8) (v := .int 1) (ty := .int) (C := RX9) (T := TX9) (N := 44) hx hb hts inlX9 tyX9 tyX9_ok nmX9 hown hK hP hD hS 0 rfl rfl 2 (by decide) (hts (.fieldLink RX9 104 "ClosedUntilModel" "month" "I") qw_33) (fun _ h9 => h9) rfl (by decide +kernel) rfl rfl (Nat.le_of_ble_eq_true rfl) dX9_tellsApart_69 (fun H locs hP hD hS => ?_)
      have hP : va_P (dC, dI) vwCl [(m0, .inr (8, [.int 0, .int (nI (1700 + k)), .int 1, .int 0, .ref (a 4), .int 0, .int 0, .int 0, .int 0, .int 0, .int 0, .long 0, .int 0, .int 0, .int 0, .int 0, .int 0, .int 0, .ref (a 18), .ref (a 19), .ref (a 20), .ref (a 21), .ref (a 22), .ref (a 23), .ref (a 24), .ref (a 25), .ref (a 26), .ref (a 27), .ref (a 28), .ref (a 29), .ref (a 30), .ref (a 31), .ref (a 32), .ref (a 33), .ref (a 34), .ref (a 35), .long 0, .int 0, .ref (a 38), .ref (a 39), .int 0, .ref (a 41), .ref (a 42), .ref (a 43)]))] H := hP
      have hD : va_D A [(m0, .inr (8, [.int 0, .int (nI (1700 + k)), .int 1, .int 0, .ref (a 4), .int 0, .int 0, .int 0, .int 0, .int 0, .int 0, .long 0, .int 0, .int 0, .int 0, .int 0, .int 0, .int 0, .ref (a 18), .ref (a 19), .ref (a 20), .ref (a 21), .ref (a 22), .ref (a 23), .ref (a 24), .ref (a 25), .ref (a 26), .ref (a 27), .ref (a 28), .ref (a 29), .ref (a 30), .ref (a 31), .ref (a 32), .ref (a 33), .ref (a 34), .ref (a 35), .long 0, .int 0, .ref (a 38), .ref (a 39), .int 0, .ref (a 41), .ref (a 42), .ref (a 43)]))] := hD
      refine wloop (fun n H locs ls => ∃ (i : Nat), n = mo - i ∧ (1 ≤ i) ∧ (i ≤ mo) ∧ lv_has ls 3 [(0, .ref m0), (2, .int (nI (d - Fk k - Mk (1700 + k) i)))] ∧ va_P (dC, dI) vwCl [(m0, .inr (8, [.int 0, .int (nI (1700 + k)), .int (nI i), .int 0, .ref (a 4), .int 0, .int 0, .int 0, .int 0, .int 0, .int 0, .long 0, .int 0, .int 0, .int 0, .int 0, .int 0, .int 0, .ref (a 18), .ref (a 19), .ref (a 20), .ref (a 21), .ref (a 22), .ref (a 23), .ref (a 24), .ref (a 25), .ref (a 26), .ref (a 27), .ref (a 28), .ref (a 29), .ref (a 30), .ref (a 31), .ref (a 32), .ref (a 33), .ref (a 34), .ref (a 35), .long 0, .int 0, .ref (a 38), .ref (a 39), .int 0, .ref (a 41), .ref (a 42), .ref (a 43)]))] H ∧ va_D A [(m0, .inr (8, [.int 0, .int (nI (1700 + k)), .int (nI i), .int 0, .ref (a 4), .int 0, .int 0, .int 0, .int 0, .int 0, .int 0, .long 0, .int 0, .int 0, .int 0, .int 0, .int 0, .int 0, .ref (a 18), .ref (a 19), .ref (a 20), .ref (a 21), .ref (a 22), .ref (a 23), .ref (a 24), .ref (a 25), .ref (a 26), .ref (a 27), .ref (a 28), .ref (a 29), .ref (a 30), .ref (a 31), .ref (a 32), .ref (a 33), .ref (a 34), .ref (a 35), .long 0, .int 0, .ref (a 38), .ref (a 39), .int 0, .ref (a 41), .ref (a 42), .ref (a 43)]))] ∧ va_S A s.heap H locs) ?_ (mo - (1)) _ _ _ ⟨1, rfl, (by omega), (by omega), lv_sub hl [0, 2] rfl, hP.sub [0] rfl, hD.sub [0] (by decide) rfl, hS⟩
      intro n H locs ls hI ih
      obtain ⟨i, hn9, i1, i2, hl, hP, hD, hS⟩ := hI
      have hli := Mk_le (y := 1700 + k) i1 i2
      have hbi := mlN_b (1700 + k) i
      refine lv_iload_n hx hb dX9_tellsApart_72 rfl (lv_at hl 1 rfl) ?_
      refine lv_aload_n hx hb dX9_tellsApart_73 rfl (lv_at hl 0 rfl) ?_
      refine va_get (D := (dC, dI)) (ci := 8) (v := .int (nI (1700 + k))) (C := RX9) (T := TX9) (N := 44) hx hb hts inlX9 hown hK hP 0 rfl rfl 1 (by decide) (hts (.fieldLink RX9 101 "ClosedUntilModel" "year" "I") qw_32) (fun _ h9 => h9) rfl dX9_tellsApart_74 ?_
      refine lv_aload_n hx hb dX9_tellsApart_77 rfl (lv_at hl 0 rfl) ?_
      refine va_get (D := (dC, dI)) (ci := 8) (v := .int (nI i)) (C := RX9) (T := TX9) (N := 44) hx hb hts inlX9 hown hK hP 0 rfl rfl 2 (by decide) (hts (.fieldLink RX9 104 "ClosedUntilModel" "month" "I") qw_33) (fun _ h9 => h9) rfl dX9_tellsApart_78 ?_
      have hPc := hP.sub (ws' := []) [] rfl
      have hKc := hK.sub (tys' := []) [] rfl
      refine vp_callSi ((va_runS (As := [.int (nI (1700 + k)), .int (nI i)]) (rest := [.int (nI (d - Fk k - Mk (1700 + k) i))]) ⟨hx, hb, hml, hown, hts⟩ (c_di l dC dI g (1700 + k) (i) (by omega) (by omega) (by omega)) (va_cwS 2 hts (gwS qw_30 qw_31 qw_23 qw_29) rfl rfl rfl (by decide +kernel) ⟨Nat.le_of_ble_eq_true rfl, Nat.le_of_ble_eq_true rfl⟩) ⟨fun a U g9 mk q => ⟨q.1, q.2.1, va_K.moved (u := U) (U := U.calling g9 mk a) (Vm.Alike.refl U.vm) q.2.2.1, Ev.bl q.2.2.2⟩, fun U hU hW => ⟨rfl, by rw [hU]; exact hPc, va_K.moved hW.alike hKc, hE.go hS (fun _ h => h.elim) hU hW⟩⟩ rfl rfl hl.1 rfl (lv_room (Nat.le_of_ble_eq_true rfl)) dX9_tellsApart_81 ⟨Nat.le_of_ble_eq_true rfl, Nat.le_of_ble_eq_true rfl⟩)).run (fun r13 h_r13 => ?_)
      have h_r13 : r13 = nI (mlN (1700 + k) i) := h_r13
      subst h_r13
      refine lv_icmp_lt (tgt := 114) hx hb dX9_tellsApart_84 (by decide) (fun c84_14 => ?_) (fun c84_14 => ?_)
      · have c84_14 : ((d - Fk k - Mk (1700 + k) i : Nat) : Int) < ((mlN (1700 + k) i : Nat) : Int) := (cv_lt (nI_toInt (by omega)) (nI_toInt (by omega))).mp c84_14
        have hi9 : mo = i := (Mk_one (y := 1700 + k) (r := d - Fk k) i1 hm1 (by omega) (by omega) (by omega) (by omega)).symm
        subst hi9
        refine lv_aload_n hx hb dX9_tellsApart_114 rfl (lv_at hl 0 rfl) ?_
        refine lv_iload_n hx hb dX9_tellsApart_115 rfl (lv_at hl 1 rfl) ?_
        refine lv_iconst (v := 1) hx hb dX9_tellsApart_116 (by decide) ?_
        refine lv_iadd hx hb dX9_tellsApart_117 ?_
        refine cst (v := nI (dd)) (by rw [show (1 : Int32) = nI 1 from rfl, nI_add]; congr 1; omega) ?_
        refine va_put (D := (dC, dI)) (ci := 8) (v := .int (nI dd)) (ty := .int) (C := RX9) (T := TX9) (N := 44) hx hb hts inlX9 tyX9 tyX9_ok nmX9 hown hK hP hD hS 0 rfl rfl 3 (by decide) (hts (.fieldLink RX9 107 "ClosedUntilModel" "dayIn" "I") qw_34) (fun _ h9 => h9) rfl (by decide +kernel) rfl rfl (Nat.le_of_ble_eq_true rfl) dX9_tellsApart_118 (fun H locs hP hD hS => ?_)
        have hP : va_P (dC, dI) vwCl [(m0, .inr (8, [.int 0, .int (nI (1700 + k)), .int (nI mo), .int (nI dd), .ref (a 4), .int 0, .int 0, .int 0, .int 0, .int 0, .int 0, .long 0, .int 0, .int 0, .int 0, .int 0, .int 0, .int 0, .ref (a 18), .ref (a 19), .ref (a 20), .ref (a 21), .ref (a 22), .ref (a 23), .ref (a 24), .ref (a 25), .ref (a 26), .ref (a 27), .ref (a 28), .ref (a 29), .ref (a 30), .ref (a 31), .ref (a 32), .ref (a 33), .ref (a 34), .ref (a 35), .long 0, .int 0, .ref (a 38), .ref (a 39), .int 0, .ref (a 41), .ref (a 42), .ref (a 43)]))] H := hP
        have hD : va_D A [(m0, .inr (8, [.int 0, .int (nI (1700 + k)), .int (nI mo), .int (nI dd), .ref (a 4), .int 0, .int 0, .int 0, .int 0, .int 0, .int 0, .long 0, .int 0, .int 0, .int 0, .int 0, .int 0, .int 0, .ref (a 18), .ref (a 19), .ref (a 20), .ref (a 21), .ref (a 22), .ref (a 23), .ref (a 24), .ref (a 25), .ref (a 26), .ref (a 27), .ref (a 28), .ref (a 29), .ref (a 30), .ref (a 31), .ref (a 32), .ref (a 33), .ref (a 34), .ref (a 35), .long 0, .int 0, .ref (a 38), .ref (a 39), .int 0, .ref (a 41), .ref (a 42), .ref (a 43)]))] := hD
        refine W.widen (k := 0) (n := 0) (Nat.le_of_ble_eq_true rfl) (Nat.le_of_ble_eq_true rfl) ?_
        have hP9 := hP.sub (ws' := [(m0, .inr (8, [.int 0, .int (nI (1700 + k)), .int (nI mo), .int (nI dd), .ref (a 4), .int 0, .int 0, .int 0, .int 0, .int 0, .int 0, .long 0, .int 0, .int 0, .int 0, .int 0, .int 0, .int 0, .ref (a 18), .ref (a 19), .ref (a 20), .ref (a 21), .ref (a 22), .ref (a 23), .ref (a 24), .ref (a 25), .ref (a 26), .ref (a 27), .ref (a 28), .ref (a 29), .ref (a 30), .ref (a 31), .ref (a 32), .ref (a 33), .ref (a 34), .ref (a 35), .long 0, .int 0, .ref (a 38), .ref (a 39), .int 0, .ref (a 41), .ref (a 42), .ref (a 43)]))]) [0] rfl
        have hD9 := hD.sub (ws' := [(m0, .inr (8, [.int 0, .int (nI (1700 + k)), .int (nI mo), .int (nI dd), .ref (a 4), .int 0, .int 0, .int 0, .int 0, .int 0, .int 0, .long 0, .int 0, .int 0, .int 0, .int 0, .int 0, .int 0, .ref (a 18), .ref (a 19), .ref (a 20), .ref (a 21), .ref (a 22), .ref (a 23), .ref (a 24), .ref (a 25), .ref (a 26), .ref (a 27), .ref (a 28), .ref (a 29), .ref (a 30), .ref (a 31), .ref (a 32), .ref (a 33), .ref (a 34), .ref (a 35), .long 0, .int 0, .ref (a 38), .ref (a 39), .int 0, .ref (a 41), .ref (a 42), .ref (a 43)]))]) [0] (by decide) rfl
        have hK9 := hK.sub (tys' := []) [] rfl
        exact W.vret hx hb hr (fun t ht hW => ⟨⟨(), rfl, (trivial), by rw [ht]; exact hP9, va_K.moved hW.alike hK9, hD9⟩, hS.F ht⟩) hS.2.2 dX9_tellsApart_121
      · have c84_14 : ¬ (((d - Fk k - Mk (1700 + k) i : Nat) : Int) < ((mlN (1700 + k) i : Nat) : Int)) := mt (cv_lt (nI_toInt (by omega)) (nI_toInt (by omega))).mpr c84_14
        refine lv_iload_n hx hb dX9_tellsApart_87 rfl (lv_at hl 1 rfl) ?_
        refine lv_aload_n hx hb dX9_tellsApart_88 rfl (lv_at hl 0 rfl) ?_
        refine va_get (D := (dC, dI)) (ci := 8) (v := .int (nI (1700 + k))) (C := RX9) (T := TX9) (N := 44) hx hb hts inlX9 hown hK hP 0 rfl rfl 1 (by decide) (hts (.fieldLink RX9 101 "ClosedUntilModel" "year" "I") qw_32) (fun _ h9 => h9) rfl dX9_tellsApart_89 ?_
        refine lv_aload_n hx hb dX9_tellsApart_92 rfl (lv_at hl 0 rfl) ?_
        refine va_get (D := (dC, dI)) (ci := 8) (v := .int (nI i)) (C := RX9) (T := TX9) (N := 44) hx hb hts inlX9 hown hK hP 0 rfl rfl 2 (by decide) (hts (.fieldLink RX9 104 "ClosedUntilModel" "month" "I") qw_33) (fun _ h9 => h9) rfl dX9_tellsApart_93 ?_
        have hPc := hP.sub (ws' := []) [] rfl
        have hKc := hK.sub (tys' := []) [] rfl
        refine vp_callSi ((va_runS (As := [.int (nI (1700 + k)), .int (nI i)]) (rest := [.int (nI (d - Fk k - Mk (1700 + k) i))]) ⟨hx, hb, hml, hown, hts⟩ (c_di l dC dI g (1700 + k) (i) (by omega) (by omega) (by omega)) (va_cwS 2 hts (gwS qw_30 qw_31 qw_23 qw_29) rfl rfl rfl (by decide +kernel) ⟨Nat.le_of_ble_eq_true rfl, Nat.le_of_ble_eq_true rfl⟩) ⟨fun a U g9 mk q => ⟨q.1, q.2.1, va_K.moved (u := U) (U := U.calling g9 mk a) (Vm.Alike.refl U.vm) q.2.2.1, Ev.bl q.2.2.2⟩, fun U hU hW => ⟨rfl, by rw [hU]; exact hPc, va_K.moved hW.alike hKc, hE.go hS (fun _ h => h.elim) hU hW⟩⟩ rfl rfl hl.1 rfl (lv_room (Nat.le_of_ble_eq_true rfl)) dX9_tellsApart_96 ⟨Nat.le_of_ble_eq_true rfl, Nat.le_of_ble_eq_true rfl⟩)).run (fun r15 h_r15 => ?_)
        have h_r15 : r15 = nI (mlN (1700 + k) i) := h_r15
        subst h_r15
        refine lv_isub hx hb dX9_tellsApart_99 ?_
        refine cst (v := nI (d - Fk k - Mk (1700 + k) (i + 1))) (by rw [Mk_s i1, pk_sub (by omega)]; congr 1; omega) ?_
        refine lv_istore_n (lv' := [(2, .int (nI (d - Fk k - Mk (1700 + k) (i + 1)))), (0, .ref m0)]) hx hb dX9_tellsApart_100 rfl hl (by decide) rfl (fun ls hl => ?_)
        refine lv_aload_n hx hb dX9_tellsApart_101 rfl (lv_at hl 1 rfl) ?_
        refine lv_dup hx hb dX9_tellsApart_102 rfl ?_
        refine va_get (D := (dC, dI)) (ci := 8) (v := .int (nI i)) (C := RX9) (T := TX9) (N := 44) hx hb hts inlX9 hown hK hP 0 rfl rfl 2 (by decide) (hts (.fieldLink RX9 104 "ClosedUntilModel" "month" "I") qw_33) (fun _ h9 => h9) rfl dX9_tellsApart_103 ?_
        refine lv_iconst (v := 1) hx hb dX9_tellsApart_106 (by decide) ?_
        refine lv_iadd hx hb dX9_tellsApart_107 ?_
        refine cst (v := nI (i + 1)) (nI_add i 1) ?_
        refine va_put (D := (dC, dI)) (ci := 8) (v := .int (nI (i + 1))) (ty := .int) (C := RX9) (T := TX9) (N := 44) hx hb hts inlX9 tyX9 tyX9_ok nmX9 hown hK hP hD hS 0 rfl rfl 2 (by decide) (hts (.fieldLink RX9 104 "ClosedUntilModel" "month" "I") qw_33) (fun _ h9 => h9) rfl (by decide +kernel) rfl rfl (Nat.le_of_ble_eq_true rfl) dX9_tellsApart_108 (fun H locs hP hD hS => ?_)
        have hP : va_P (dC, dI) vwCl [(m0, .inr (8, [.int 0, .int (nI (1700 + k)), .int (nI (i + 1)), .int 0, .ref (a 4), .int 0, .int 0, .int 0, .int 0, .int 0, .int 0, .long 0, .int 0, .int 0, .int 0, .int 0, .int 0, .int 0, .ref (a 18), .ref (a 19), .ref (a 20), .ref (a 21), .ref (a 22), .ref (a 23), .ref (a 24), .ref (a 25), .ref (a 26), .ref (a 27), .ref (a 28), .ref (a 29), .ref (a 30), .ref (a 31), .ref (a 32), .ref (a 33), .ref (a 34), .ref (a 35), .long 0, .int 0, .ref (a 38), .ref (a 39), .int 0, .ref (a 41), .ref (a 42), .ref (a 43)]))] H := hP
        have hD : va_D A [(m0, .inr (8, [.int 0, .int (nI (1700 + k)), .int (nI (i + 1)), .int 0, .ref (a 4), .int 0, .int 0, .int 0, .int 0, .int 0, .int 0, .long 0, .int 0, .int 0, .int 0, .int 0, .int 0, .int 0, .ref (a 18), .ref (a 19), .ref (a 20), .ref (a 21), .ref (a 22), .ref (a 23), .ref (a 24), .ref (a 25), .ref (a 26), .ref (a 27), .ref (a 28), .ref (a 29), .ref (a 30), .ref (a 31), .ref (a 32), .ref (a 33), .ref (a 34), .ref (a 35), .long 0, .int 0, .ref (a 38), .ref (a 39), .int 0, .ref (a 41), .ref (a 42), .ref (a 43)]))] := hD
        refine lv_goto (tgt := 72) hx hb dX9_tellsApart_111 (by decide) ?_
        have i3 := mdj (y := 1700 + k) (r := d - Fk k) i2 (by omega) (by omega)
        exact ih (mo - (i + 1)) _ _ _ (by omega) ⟨i + 1, rfl, (by omega), (by omega), lv_sub hl [1, 0] rfl, hP.sub [0] rfl, hD.sub [0] (by decide) rfl, hS⟩
    · have c29_12 : ¬ (((d - Fk j : Nat) : Int) < 365) := mt (cv_lt (nI_toInt (by omega)) (by decide)).mpr c29_12
      refine lv_iload_n hx hb dX9_tellsApart_32 rfl (lv_at hl 2 rfl) ?_
      refine lv_aload_n hx hb dX9_tellsApart_33 rfl (lv_at hl 0 rfl) ?_
      refine va_get (D := (dC, dI)) (ci := 8) (v := .int (nI (1700 + j))) (C := RX9) (T := TX9) (N := 44) hx hb hts inlX9 hown hK hP 0 rfl rfl 1 (by decide) (hts (.fieldLink RX9 101 "ClosedUntilModel" "year" "I") qw_32) (fun _ h9 => h9) rfl dX9_tellsApart_34 ?_
      have hPc := hP.sub (ws' := []) [] rfl
      have hKc := hK.sub (tys' := []) [] rfl
      refine vp_callSi ((va_runS (As := [.int (nI (1700 + j))]) (rest := [.int (nI (d - Fk j))]) ⟨hx, hb, hml, hown, hts⟩ (c_lp l dC dI g (1700 + j) (by omega)) (va_cwS 1 hts (gwS qw_24 qw_25 qw_23 qw_22) rfl rfl rfl (by decide +kernel) ⟨Nat.le_of_ble_eq_true rfl, Nat.le_of_ble_eq_true rfl⟩) ⟨fun a U g9 mk q => ⟨q.1, q.2.1, va_K.moved (u := U) (U := U.calling g9 mk a) (Vm.Alike.refl U.vm) q.2.2.1, Ev.bl q.2.2.2⟩, fun U hU hW => ⟨rfl, by rw [hU]; exact hPc, va_K.moved hW.alike hKc, hE.go hS (fun _ h => h.elim) hU hW⟩⟩ rfl rfl hl.1 rfl (lv_room (Nat.le_of_ble_eq_true rfl)) dX9_tellsApart_37 ⟨Nat.le_of_ble_eq_true rfl, Nat.le_of_ble_eq_true rfl⟩)).run (fun r16 h_r16 => ?_)
      obtain ⟨hq17, rfl⟩ : _ ∧ r16 = 0 := by rcases h_r16 with q | q; exact absurd (q.1.symm.trans hq2) (by decide); exact q
      refine lv_if_eq (tgt := 49) hx hb dX9_tellsApart_40 (by decide) (fun c40_18 => ?_) (fun c40_18 => by exfalso; exact absurd c40_18 (by decide))
      refine lv_sipush (v := 365) hx hb dX9_tellsApart_49 (by decide) ?_
      refine lv_isub hx hb dX9_tellsApart_52 ?_
      refine cst (v := nI (d - Fk (j + 1))) (ta_s (w := 365) (by omega) (yl_0 hq2) (by omega)) ?_
      refine lv_istore_n (lv' := [(2, .int (nI (d - Fk (j + 1)))), (0, .ref m0), (1, .int (nI d))]) hx hb dX9_tellsApart_53 rfl hl (by decide) rfl (fun ls hl => ?_)
      refine lv_aload_n hx hb dX9_tellsApart_54 rfl (lv_at hl 1 rfl) ?_
      refine lv_dup hx hb dX9_tellsApart_55 rfl ?_
      refine va_get (D := (dC, dI)) (ci := 8) (v := .int (nI (1700 + j))) (C := RX9) (T := TX9) (N := 44) hx hb hts inlX9 hown hK hP 0 rfl rfl 1 (by decide) (hts (.fieldLink RX9 101 "ClosedUntilModel" "year" "I") qw_32) (fun _ h9 => h9) rfl dX9_tellsApart_56 ?_
      refine lv_iconst (v := 1) hx hb dX9_tellsApart_59 (by decide) ?_
      refine lv_iadd hx hb dX9_tellsApart_60 ?_
      refine cst (v := nI (1700 + (j + 1))) (nI_add (1700 + j) 1) ?_
      refine va_put (D := (dC, dI)) (ci := 8) (v := .int (nI (1700 + (j + 1)))) (ty := .int) (C := RX9) (T := TX9) (N := 44) hx hb hts inlX9 tyX9 tyX9_ok nmX9 hown hK hP hD hS 0 rfl rfl 1 (by decide) (hts (.fieldLink RX9 101 "ClosedUntilModel" "year" "I") qw_32) (fun _ h9 => h9) rfl (by decide +kernel) rfl rfl (Nat.le_of_ble_eq_true rfl) dX9_tellsApart_61 (fun H locs hP hD hS => ?_)
      have hP : va_P (dC, dI) vwCl [(m0, .inr (8, [.int 0, .int (nI (1700 + (j + 1))), .int 0, .int 0, .ref (a 4), .int 0, .int 0, .int 0, .int 0, .int 0, .int 0, .long 0, .int 0, .int 0, .int 0, .int 0, .int 0, .int 0, .ref (a 18), .ref (a 19), .ref (a 20), .ref (a 21), .ref (a 22), .ref (a 23), .ref (a 24), .ref (a 25), .ref (a 26), .ref (a 27), .ref (a 28), .ref (a 29), .ref (a 30), .ref (a 31), .ref (a 32), .ref (a 33), .ref (a 34), .ref (a 35), .long 0, .int 0, .ref (a 38), .ref (a 39), .int 0, .ref (a 41), .ref (a 42), .ref (a 43)]))] H := hP
      have hD : va_D A [(m0, .inr (8, [.int 0, .int (nI (1700 + (j + 1))), .int 0, .int 0, .ref (a 4), .int 0, .int 0, .int 0, .int 0, .int 0, .int 0, .long 0, .int 0, .int 0, .int 0, .int 0, .int 0, .int 0, .ref (a 18), .ref (a 19), .ref (a 20), .ref (a 21), .ref (a 22), .ref (a 23), .ref (a 24), .ref (a 25), .ref (a 26), .ref (a 27), .ref (a 28), .ref (a 29), .ref (a 30), .ref (a 31), .ref (a 32), .ref (a 33), .ref (a 34), .ref (a 35), .long 0, .int 0, .ref (a 38), .ref (a 39), .int 0, .ref (a 41), .ref (a 42), .ref (a 43)]))] := hD
      refine lv_goto (tgt := 9) hx hb dX9_tellsApart_64 (by decide) ?_
      have j4 := ta_n hk j2 h2 (yl_0 hq2) (by omega)
      have j5 := Fk_mono (a := j + 1) (b := k) j4 (by omega)
      exact ih (k - (j + 1)) _ _ _ (by omega) ⟨j + 1, rfl, (by omega), (by omega), lv_sub hl [1, 2, 0] rfl, hP.sub [0] rfl, hD.sub [0] (by decide) rfl, hS⟩
