theorem ys_add {a : Nat} {n : Int32} (ha : a < 5000) (hn : -600 ≤ n.toInt ∧ n.toInt ≤ 600) : (nI a + n).toInt = (a : Int) + n.toInt := by
  rw [Int32.toInt_add, nI_toInt (by omega)]
  apply Int.bmod_eq_of_le <;> omega
theorem ys_sum {a b : Nat} {n : Int32} (ha : a < 5000) (hn : -600 ≤ n.toInt ∧ n.toInt ≤ 600) (hb : b < 5000) (h : (a : Int) + n.toInt = b) : nI a + n = nI b := by
  apply Int32.toInt_inj.mp
  rw [ys_add ha hn, nI_toInt (by omega)]; exact h
theorem mn_ok {a b : Nat} (ha : a < 5000) (hb : b < 5000) : (if nI b < nI a then nI b else nI a) = nI (min a b) := by
  rcases Nat.lt_or_ge b a with q | q
  · rw [if_pos (nI_lt q (by omega)), Nat.min_eq_right (by omega)]
  · rw [if_neg (nI_nlt q (by omega)), Nat.min_eq_left q]
theorem dX0_yearsOn_0 : decode cX0_yearsOn 0 = .ok (.iload_n 0, 1) := by decide +kernel
theorem dX0_yearsOn_1 : decode cX0_yearsOn 1 = .ok (.ldc 9, 2) := by decide +kernel
theorem dX0_yearsOn_3 : decode cX0_yearsOn 3 = .ok (.if_icmp .lt 6, 3) := by decide +kernel
theorem dX0_yearsOn_6 : decode cX0_yearsOn 6 = .ok (.ldc 9, 2) := by decide +kernel
theorem dX0_yearsOn_8 : decode cX0_yearsOn 8 = .ok (.ireturn, 1) := by decide +kernel
theorem dX0_yearsOn_9 : decode cX0_yearsOn 9 = .ok (.iload_n 0, 1) := by decide +kernel
theorem dX0_yearsOn_10 : decode cX0_yearsOn 10 = .ok (.invokestatic 24, 3) := by decide +kernel
theorem dX0_yearsOn_13 : decode cX0_yearsOn 13 = .ok (.istore_n 2, 1) := by decide +kernel
theorem dX0_yearsOn_14 : decode cX0_yearsOn 14 = .ok (.iload_n 2, 1) := by decide +kernel
theorem dX0_yearsOn_15 : decode cX0_yearsOn 15 = .ok (.iload_n 1, 1) := by decide +kernel
theorem dX0_yearsOn_16 : decode cX0_yearsOn 16 = .ok (.iadd, 1) := by decide +kernel
theorem dX0_yearsOn_17 : decode cX0_yearsOn 17 = .ok (.istore_n 3, 1) := by decide +kernel
theorem dX0_yearsOn_18 : decode cX0_yearsOn 18 = .ok (.iload_n 3, 1) := by decide +kernel
theorem dX0_yearsOn_19 : decode cX0_yearsOn 19 = .ok (.sipush 1700, 3) := by decide +kernel
theorem dX0_yearsOn_22 : decode cX0_yearsOn 22 = .ok (.if_icmp .ge 5, 3) := by decide +kernel
theorem dX0_yearsOn_25 : decode cX0_yearsOn 25 = .ok (.iconst 0, 1) := by decide +kernel
theorem dX0_yearsOn_26 : decode cX0_yearsOn 26 = .ok (.ireturn, 1) := by decide +kernel
theorem dX0_yearsOn_27 : decode cX0_yearsOn 27 = .ok (.iload_n 3, 1) := by decide +kernel
theorem dX0_yearsOn_28 : decode cX0_yearsOn 28 = .ok (.sipush 2299, 3) := by decide +kernel
theorem dX0_yearsOn_31 : decode cX0_yearsOn 31 = .ok (.if_icmp .le 6, 3) := by decide +kernel
theorem dX0_yearsOn_34 : decode cX0_yearsOn 34 = .ok (.ldc 9, 2) := by decide +kernel
theorem dX0_yearsOn_36 : decode cX0_yearsOn 36 = .ok (.ireturn, 1) := by decide +kernel
theorem dX0_yearsOn_37 : decode cX0_yearsOn 37 = .ok (.iload_n 0, 1) := by decide +kernel
theorem dX0_yearsOn_38 : decode cX0_yearsOn 38 = .ok (.iload_n 2, 1) := by decide +kernel
theorem dX0_yearsOn_39 : decode cX0_yearsOn 39 = .ok (.invokestatic 27, 3) := by decide +kernel
theorem dX0_yearsOn_42 : decode cX0_yearsOn 42 = .ok (.istore 4, 2) := by decide +kernel
theorem dX0_yearsOn_44 : decode cX0_yearsOn 44 = .ok (.iload 4, 2) := by decide +kernel
theorem dX0_yearsOn_46 : decode cX0_yearsOn 46 = .ok (.bipush 32, 2) := by decide +kernel
theorem dX0_yearsOn_48 : decode cX0_yearsOn 48 = .ok (.idiv, 1) := by decide +kernel
theorem dX0_yearsOn_49 : decode cX0_yearsOn 49 = .ok (.istore 5, 2) := by decide +kernel
theorem dX0_yearsOn_51 : decode cX0_yearsOn 51 = .ok (.iload 4, 2) := by decide +kernel
theorem dX0_yearsOn_53 : decode cX0_yearsOn 53 = .ok (.bipush 32, 2) := by decide +kernel
theorem dX0_yearsOn_55 : decode cX0_yearsOn 55 = .ok (.irem, 1) := by decide +kernel
theorem dX0_yearsOn_56 : decode cX0_yearsOn 56 = .ok (.iload_n 3, 1) := by decide +kernel
theorem dX0_yearsOn_57 : decode cX0_yearsOn 57 = .ok (.iload 5, 2) := by decide +kernel
theorem dX0_yearsOn_59 : decode cX0_yearsOn 59 = .ok (.invokestatic 16, 3) := by decide +kernel
theorem dX0_yearsOn_62 : decode cX0_yearsOn 62 = .ok (.invokestatic 30, 3) := by decide +kernel
theorem dX0_yearsOn_65 : decode cX0_yearsOn 65 = .ok (.istore 6, 2) := by decide +kernel
theorem dX0_yearsOn_67 : decode cX0_yearsOn 67 = .ok (.iload_n 3, 1) := by decide +kernel
theorem dX0_yearsOn_68 : decode cX0_yearsOn 68 = .ok (.iload 5, 2) := by decide +kernel
theorem dX0_yearsOn_70 : decode cX0_yearsOn 70 = .ok (.iload 6, 2) := by decide +kernel
theorem dX0_yearsOn_72 : decode cX0_yearsOn 72 = .ok (.invokestatic 35, 3) := by decide +kernel
theorem dX0_yearsOn_75 : decode cX0_yearsOn 75 = .ok (.ireturn, 1) := by decide +kernel
theorem qw_15 : (Cond.initialized "java/lang/Math" : Cond) ∈ TBL := List.mem_of_getElem? (i := 232) (by decide +kernel)
theorem qw_16 : (Cond.methodLink RX0 30 Lib.Math.min.name : Cond) ∈ TBL := List.mem_of_getElem? (i := 532) (by decide +kernel)
theorem qw_17 : (Cond.static Lib.Math.min.name : Cond) ∈ TBL := List.mem_of_getElem? (i := 231) (by decide +kernel)
theorem qw_18 : (Cond.code Lib.Math.min.name Lib.Math.min.code 2 (some .int) : Cond) ∈ TBL := List.mem_of_getElem? (i := 233) (by decide +kernel)
theorem qw_19 : (Cond.code yX0_numberOf cX0_numberOf 5 (some .int) : Cond) ∈ TBL := List.mem_of_getElem? (i := 295) (by decide +kernel)
theorem qw_20 : (Cond.methodLink RX0 35 yX0_numberOf : Cond) ∈ TBL := List.mem_of_getElem? (i := 533) (by decide +kernel)
theorem qw_21 : (Cond.static yX0_numberOf : Cond) ∈ TBL := List.mem_of_getElem? (i := 294) (by decide +kernel)
set_option maxHeartbeats 4000000 in
set_option maxRecDepth 100000 in
theorem c_ys_L (l : Launch) (dC : Nat → ClassId) (dI : Nat → Nat → Nat) (g : Gv) (yn : Int32)  : Met l yX0_yearsOn (.code yX0_yearsOn cX0_yearsOn 7 (some .int) :: TBL) ({ frames := 3, cells := 0, slots := 0, locals := 120 }) (va_Pc [.int (nI 219145), .int yn] (fun U => va_P (dC, dI) vwCl [] U.heap ∧ va_K (dC, dI) vwCl [] U ∧ Ev g (fun _ => False) U)) (vp_Si (fun r => r = nI 219145)) 0 0 (fun _ => False) := by
  refine Met.ofW (cc := cX0_yearsOn) (maxL := 7) (ret := (some .int)) (by decide) rfl ?_
  intro p e s m args below meth c s₁ B hml hv
  obtain ⟨rfl, hP, hK, hE⟩ := hv
  have hx := B.exec
  have hb := B.bytes
  have hr := B.returns
  have hts0 := atoms_spec (ws := (.code yX0_yearsOn cX0_yearsOn 7 (some .int) :: TBL)) B.pre
  have hts := fun (w : Cond) (h : w ∈ TBL) => hts0 w (List.mem_cons_of_mem _ h)
  have hown : s.vm.findClass RX0 = some m.cls := findClass_of_methodNamed B.named
  have hlocks := B.notSynchronized
  have hN := hE.1
  have hS : va_S (fun _ => False) s.heap s.heap [] := va_S.rf
  have hP : va_P (dC, dI) vwCl [] s.heap := hP
  have hl := lv_entry ([.int (nI 219145), .int yn]) (n := 7) (Nat.le_of_ble_eq_true rfl)
  rw [lg_entry_eq]
  generalize (lg_sl ([.int (nI 219145), .int yn]) ++ List.replicate (7 - (lg_sl ([.int (nI 219145), .int yn])).length) Slot.unset).toArray = ls at hl ⊢
  have hl : lv_has ls 7 [(0, .int (nI 219145)), (1, .int yn)] := hl
  refine lv_iload_n hx hb dX0_yearsOn_0 rfl (lv_at hl 0 rfl) ?_
  refine lv_ldc (v := 219145) hx hb hown (hts (.constant RX0 9 (219145)) qw_0) dX0_yearsOn_1 ?_
  refine lv_icmp_lt (tgt := 9) hx hb dX0_yearsOn_3 (by decide) (fun c3_1 => by exfalso; have c3_1 : ((219145 : Nat) : Int) < 219145 := (cv_lt (nI_toInt (by omega)) (by decide)).mp c3_1; omega) (fun c3_1 => ?_)
  have c3_1 : ¬ (((219145 : Nat) : Int) < 219145) := mt (cv_lt (nI_toInt (by omega)) (by decide)).mpr c3_1
  refine lv_ldc (v := 219145) hx hb hown (hts (.constant RX0 9 (219145)) qw_0) dX0_yearsOn_6 ?_
  exact W.iret (v := 219145) hx hb hr (fun t ht hW => ⟨219145, rfl, (rfl), ht⟩) (fun _ h => absurd h List.not_mem_nil) dX0_yearsOn_8
set_option maxHeartbeats 4000000 in
set_option maxRecDepth 100000 in
theorem c_ys_A (l : Launch) (dC : Nat → ClassId) (dI : Nat → Nat → Nat) (g : Gv) (d : Nat) (k : Nat) (mo : Nat) (dd : Nat) (yn : Int32) (hk : k < 600) (hm1 : 1 ≤ mo) (hm2 : mo ≤ 12) (hd1 : 1 ≤ dd) (hd2 : dd ≤ mlN (1700 + k) mo) (hd : d = Fk k + Mk (1700 + k) mo + (dd - 1)) (hn : -600 ≤ yn.toInt ∧ yn.toInt ≤ 600) (hc : ((k : Nat) : Int) + yn.toInt < 0) : Met l yX0_yearsOn (.code yX0_yearsOn cX0_yearsOn 7 (some .int) :: TBL) ({ frames := 3, cells := 0, slots := 0, locals := 120 }) (va_Pc [.int (nI d), .int yn] (fun U => va_P (dC, dI) vwCl [] U.heap ∧ va_K (dC, dI) vwCl [] U ∧ Ev g (fun _ => False) U)) (vp_Si (fun r => r = nI 0)) 0 0 (fun _ => False) := by
  refine Met.ofW (cc := cX0_yearsOn) (maxL := 7) (ret := (some .int)) (by decide) rfl ?_
  intro p e s m args below meth c s₁ B hml hv
  obtain ⟨rfl, hP, hK, hE⟩ := hv
  have hx := B.exec
  have hb := B.bytes
  have hr := B.returns
  have hts0 := atoms_spec (ws := (.code yX0_yearsOn cX0_yearsOn 7 (some .int) :: TBL)) B.pre
  have hts := fun (w : Cond) (h : w ∈ TBL) => hts0 w (List.mem_cons_of_mem _ h)
  have hown : s.vm.findClass RX0 = some m.cls := findClass_of_methodNamed B.named
  have hlocks := B.notSynchronized
  have hN := hE.1
  have hS : va_S (fun _ => False) s.heap s.heap [] := va_S.rf
  have hP : va_P (dC, dI) vwCl [] s.heap := hP
  have hl := lv_entry ([.int (nI d), .int yn]) (n := 7) (Nat.le_of_ble_eq_true rfl)
  rw [lg_entry_eq]
  generalize (lg_sl ([.int (nI d), .int yn]) ++ List.replicate (7 - (lg_sl ([.int (nI d), .int yn])).length) Slot.unset).toArray = ls at hl ⊢
  have hl : lv_has ls 7 [(0, .int (nI d)), (1, .int yn)] := hl
  have hb1 := mlN_b (1700 + k) mo
  have h1 : Fk k ≤ d := by omega
  have h2 : d < Fk (k + 1) := by
    rw [Fk_s k hk]; have q1 := Mk_le (y := 1700 + k) (a := mo + 1) (b := 13) (by omega) (by omega); rw [Mk_13, Mk_s hm1] at q1; omega
  have hd9 : d < 219145 := by have := Fk_b (k := k + 1) (by omega); omega
  refine lv_iload_n hx hb dX0_yearsOn_0 rfl (lv_at hl 0 rfl) ?_
  refine lv_ldc (v := 219145) hx hb hown (hts (.constant RX0 9 (219145)) qw_0) dX0_yearsOn_1 ?_
  refine lv_icmp_lt (tgt := 9) hx hb dX0_yearsOn_3 (by decide) (fun c3_1 => ?_) (fun c3_1 => by exfalso; have c3_1 : ¬ (((d : Nat) : Int) < 219145) := mt (cv_lt (nI_toInt (by omega)) (by decide)).mpr c3_1; omega)
  have c3_1 : ((d : Nat) : Int) < 219145 := (cv_lt (nI_toInt (by omega)) (by decide)).mp c3_1
  refine lv_iload_n hx hb dX0_yearsOn_9 rfl (lv_at hl 0 rfl) ?_
  have hPc := hP.sub (ws' := []) [] rfl
  have hKc := hK.sub (tys' := []) [] rfl
  refine vp_callSi ((va_runS (As := [.int (nI d)]) (rest := []) ⟨hx, hb, hml, hown, hts⟩ (c_yo l dC dI g (d) (k) hk h1 h2) (va_cwS 1 hts (gwS qw_10 qw_11 qw_3 qw_9) rfl rfl rfl (by decide +kernel) ⟨Nat.le_of_ble_eq_true rfl, Nat.le_of_ble_eq_true rfl⟩) ⟨fun a U g9 mk q => ⟨q.1, q.2.1, va_K.moved (u := U) (U := U.calling g9 mk a) (Vm.Alike.refl U.vm) q.2.2.1, Ev.bl q.2.2.2⟩, fun U hU hW => ⟨rfl, by rw [hU]; exact hPc, va_K.moved hW.alike hKc, hE.go hS (fun _ h => h.elim) hU hW⟩⟩ rfl rfl hl.1 rfl (lv_room (Nat.le_of_ble_eq_true rfl)) dX0_yearsOn_10 ⟨Nat.le_of_ble_eq_true rfl, Nat.le_of_ble_eq_true rfl⟩)).run (fun r2 h_r2 => ?_)
  have h_r2 : r2 = nI (1700 + k) := h_r2
  subst h_r2
  refine lv_istore_n (lv' := [(2, .int (nI (1700 + k))), (0, .int (nI d)), (1, .int yn)]) hx hb dX0_yearsOn_13 rfl hl (by decide) rfl (fun ls hl => ?_)
  refine lv_iload_n hx hb dX0_yearsOn_14 rfl (lv_at hl 0 rfl) ?_
  refine lv_iload_n hx hb dX0_yearsOn_15 rfl (lv_at hl 2 rfl) ?_
  refine lv_iadd hx hb dX0_yearsOn_16 ?_
  refine lv_topi (fun x3 e_x3 => ?_)
  have hs9 : x3.toInt = ((1700 + k : Nat) : Int) + yn.toInt := by rw [e_x3]; exact ys_add (by omega) hn
  refine lv_istore_n (lv' := [(3, .int x3), (2, .int (nI (1700 + k))), (0, .int (nI d)), (1, .int yn)]) hx hb dX0_yearsOn_17 rfl hl (by decide) rfl (fun ls hl => ?_)
  refine lv_iload_n hx hb dX0_yearsOn_18 rfl (lv_at hl 0 rfl) ?_
  refine lv_sipush (v := 1700) hx hb dX0_yearsOn_19 (by decide) ?_
  refine lv_icmp_ge (tgt := 27) hx hb dX0_yearsOn_22 (by decide) (fun c22_4 => by exfalso; have c22_4 : 1700 ≤ x3.toInt := (cv_le (by decide) rfl).mp c22_4; omega) (fun c22_4 => ?_)
  have c22_4 : ¬ (1700 ≤ x3.toInt) := mt (cv_le (by decide) rfl).mpr c22_4
  refine lv_iconst (v := 0) hx hb dX0_yearsOn_25 (by decide) ?_
  exact W.iret (v := 0) hx hb hr (fun t ht hW => ⟨0, rfl, (rfl), ht⟩) (fun _ h => absurd h List.not_mem_nil) dX0_yearsOn_26
set_option maxHeartbeats 4000000 in
set_option maxRecDepth 100000 in
theorem c_ys_B (l : Launch) (dC : Nat → ClassId) (dI : Nat → Nat → Nat) (g : Gv) (d : Nat) (k : Nat) (mo : Nat) (dd : Nat) (yn : Int32) (hk : k < 600) (hm1 : 1 ≤ mo) (hm2 : mo ≤ 12) (hd1 : 1 ≤ dd) (hd2 : dd ≤ mlN (1700 + k) mo) (hd : d = Fk k + Mk (1700 + k) mo + (dd - 1)) (hn : -600 ≤ yn.toInt ∧ yn.toInt ≤ 600) (hc : 599 < ((k : Nat) : Int) + yn.toInt) : Met l yX0_yearsOn (.code yX0_yearsOn cX0_yearsOn 7 (some .int) :: TBL) ({ frames := 3, cells := 0, slots := 0, locals := 120 }) (va_Pc [.int (nI d), .int yn] (fun U => va_P (dC, dI) vwCl [] U.heap ∧ va_K (dC, dI) vwCl [] U ∧ Ev g (fun _ => False) U)) (vp_Si (fun r => r = nI 219145)) 0 0 (fun _ => False) := by
  refine Met.ofW (cc := cX0_yearsOn) (maxL := 7) (ret := (some .int)) (by decide) rfl ?_
  intro p e s m args below meth c s₁ B hml hv
  obtain ⟨rfl, hP, hK, hE⟩ := hv
  have hx := B.exec
  have hb := B.bytes
  have hr := B.returns
  have hts0 := atoms_spec (ws := (.code yX0_yearsOn cX0_yearsOn 7 (some .int) :: TBL)) B.pre
  have hts := fun (w : Cond) (h : w ∈ TBL) => hts0 w (List.mem_cons_of_mem _ h)
  have hown : s.vm.findClass RX0 = some m.cls := findClass_of_methodNamed B.named
  have hlocks := B.notSynchronized
  have hN := hE.1
  have hS : va_S (fun _ => False) s.heap s.heap [] := va_S.rf
  have hP : va_P (dC, dI) vwCl [] s.heap := hP
  have hl := lv_entry ([.int (nI d), .int yn]) (n := 7) (Nat.le_of_ble_eq_true rfl)
  rw [lg_entry_eq]
  generalize (lg_sl ([.int (nI d), .int yn]) ++ List.replicate (7 - (lg_sl ([.int (nI d), .int yn])).length) Slot.unset).toArray = ls at hl ⊢
  have hl : lv_has ls 7 [(0, .int (nI d)), (1, .int yn)] := hl
  have hb1 := mlN_b (1700 + k) mo
  have h1 : Fk k ≤ d := by omega
  have h2 : d < Fk (k + 1) := by
    rw [Fk_s k hk]; have q1 := Mk_le (y := 1700 + k) (a := mo + 1) (b := 13) (by omega) (by omega); rw [Mk_13, Mk_s hm1] at q1; omega
  have hd9 : d < 219145 := by have := Fk_b (k := k + 1) (by omega); omega
  refine lv_iload_n hx hb dX0_yearsOn_0 rfl (lv_at hl 0 rfl) ?_
  refine lv_ldc (v := 219145) hx hb hown (hts (.constant RX0 9 (219145)) qw_0) dX0_yearsOn_1 ?_
  refine lv_icmp_lt (tgt := 9) hx hb dX0_yearsOn_3 (by decide) (fun c3_1 => ?_) (fun c3_1 => by exfalso; have c3_1 : ¬ (((d : Nat) : Int) < 219145) := mt (cv_lt (nI_toInt (by omega)) (by decide)).mpr c3_1; omega)
  have c3_1 : ((d : Nat) : Int) < 219145 := (cv_lt (nI_toInt (by omega)) (by decide)).mp c3_1
  refine lv_iload_n hx hb dX0_yearsOn_9 rfl (lv_at hl 0 rfl) ?_
  have hPc := hP.sub (ws' := []) [] rfl
  have hKc := hK.sub (tys' := []) [] rfl
  refine vp_callSi ((va_runS (As := [.int (nI d)]) (rest := []) ⟨hx, hb, hml, hown, hts⟩ (c_yo l dC dI g (d) (k) hk h1 h2) (va_cwS 1 hts (gwS qw_10 qw_11 qw_3 qw_9) rfl rfl rfl (by decide +kernel) ⟨Nat.le_of_ble_eq_true rfl, Nat.le_of_ble_eq_true rfl⟩) ⟨fun a U g9 mk q => ⟨q.1, q.2.1, va_K.moved (u := U) (U := U.calling g9 mk a) (Vm.Alike.refl U.vm) q.2.2.1, Ev.bl q.2.2.2⟩, fun U hU hW => ⟨rfl, by rw [hU]; exact hPc, va_K.moved hW.alike hKc, hE.go hS (fun _ h => h.elim) hU hW⟩⟩ rfl rfl hl.1 rfl (lv_room (Nat.le_of_ble_eq_true rfl)) dX0_yearsOn_10 ⟨Nat.le_of_ble_eq_true rfl, Nat.le_of_ble_eq_true rfl⟩)).run (fun r2 h_r2 => ?_)
  have h_r2 : r2 = nI (1700 + k) := h_r2
  subst h_r2
  refine lv_istore_n (lv' := [(2, .int (nI (1700 + k))), (0, .int (nI d)), (1, .int yn)]) hx hb dX0_yearsOn_13 rfl hl (by decide) rfl (fun ls hl => ?_)
  refine lv_iload_n hx hb dX0_yearsOn_14 rfl (lv_at hl 0 rfl) ?_
  refine lv_iload_n hx hb dX0_yearsOn_15 rfl (lv_at hl 2 rfl) ?_
  refine lv_iadd hx hb dX0_yearsOn_16 ?_
  refine lv_topi (fun x3 e_x3 => ?_)
  have hs9 : x3.toInt = ((1700 + k : Nat) : Int) + yn.toInt := by rw [e_x3]; exact ys_add (by omega) hn
  refine lv_istore_n (lv' := [(3, .int x3), (2, .int (nI (1700 + k))), (0, .int (nI d)), (1, .int yn)]) hx hb dX0_yearsOn_17 rfl hl (by decide) rfl (fun ls hl => ?_)
  refine lv_iload_n hx hb dX0_yearsOn_18 rfl (lv_at hl 0 rfl) ?_
  refine lv_sipush (v := 1700) hx hb dX0_yearsOn_19 (by decide) ?_
  refine lv_icmp_ge (tgt := 27) hx hb dX0_yearsOn_22 (by decide) (fun c22_4 => ?_) (fun c22_4 => by exfalso; have c22_4 : ¬ (1700 ≤ x3.toInt) := mt (cv_le (by decide) rfl).mpr c22_4; omega)
  have c22_4 : 1700 ≤ x3.toInt := (cv_le (by decide) rfl).mp c22_4
  refine lv_iload_n hx hb dX0_yearsOn_27 rfl (lv_at hl 0 rfl) ?_
  refine lv_sipush (v := 2299) hx hb dX0_yearsOn_28 (by decide) ?_
  refine lv_icmp_le (tgt := 37) hx hb dX0_yearsOn_31 (by decide) (fun c31_5 => by exfalso; have c31_5 : x3.toInt ≤ 2299 := (cv_le rfl (by decide)).mp c31_5; omega) (fun c31_5 => ?_)
  have c31_5 : ¬ (x3.toInt ≤ 2299) := mt (cv_le rfl (by decide)).mpr c31_5
  refine lv_ldc (v := 219145) hx hb hown (hts (.constant RX0 9 (219145)) qw_0) dX0_yearsOn_34 ?_
  exact W.iret (v := 219145) hx hb hr (fun t ht hW => ⟨219145, rfl, (rfl), ht⟩) (fun _ h => absurd h List.not_mem_nil) dX0_yearsOn_36
set_option maxHeartbeats 4000000 in
set_option maxRecDepth 100000 in
theorem c_ys_C (l : Launch) (dC : Nat → ClassId) (dI : Nat → Nat → Nat) (g : Gv) (d : Nat) (k : Nat) (mo : Nat) (dd : Nat) (yn : Int32) (k2 : Nat) (hk : k < 600) (hm1 : 1 ≤ mo) (hm2 : mo ≤ 12) (hd1 : 1 ≤ dd) (hd2 : dd ≤ mlN (1700 + k) mo) (hd : d = Fk k + Mk (1700 + k) mo + (dd - 1)) (hn : -600 ≤ yn.toInt ∧ yn.toInt ≤ 600) (hk2 : k2 < 600) (hc : ((k : Nat) : Int) + yn.toInt = k2) : Met l yX0_yearsOn (.code yX0_yearsOn cX0_yearsOn 7 (some .int) :: TBL) ({ frames := 3, cells := 0, slots := 0, locals := 120 }) (va_Pc [.int (nI d), .int yn] (fun U => va_P (dC, dI) vwCl [] U.heap ∧ va_K (dC, dI) vwCl [] U ∧ Ev g (fun _ => False) U)) (vp_Si (fun r => r = nI (Fk k2 + Mk (1700 + k2) mo + min dd (mlN (1700 + k2) mo) - 1))) 0 0 (fun _ => False) := by
  refine Met.ofW (cc := cX0_yearsOn) (maxL := 7) (ret := (some .int)) (by decide) rfl ?_
  intro p e s m args below meth c s₁ B hml hv
  obtain ⟨rfl, hP, hK, hE⟩ := hv
  have hx := B.exec
  have hb := B.bytes
  have hr := B.returns
  have hts0 := atoms_spec (ws := (.code yX0_yearsOn cX0_yearsOn 7 (some .int) :: TBL)) B.pre
  have hts := fun (w : Cond) (h : w ∈ TBL) => hts0 w (List.mem_cons_of_mem _ h)
  have hown : s.vm.findClass RX0 = some m.cls := findClass_of_methodNamed B.named
  have hlocks := B.notSynchronized
  have hN := hE.1
  have hS : va_S (fun _ => False) s.heap s.heap [] := va_S.rf
  have hP : va_P (dC, dI) vwCl [] s.heap := hP
  have hl := lv_entry ([.int (nI d), .int yn]) (n := 7) (Nat.le_of_ble_eq_true rfl)
  rw [lg_entry_eq]
  generalize (lg_sl ([.int (nI d), .int yn]) ++ List.replicate (7 - (lg_sl ([.int (nI d), .int yn])).length) Slot.unset).toArray = ls at hl ⊢
  have hl : lv_has ls 7 [(0, .int (nI d)), (1, .int yn)] := hl
  have hb1 := mlN_b (1700 + k) mo
  have h1 : Fk k ≤ d := by omega
  have h2 : d < Fk (k + 1) := by
    rw [Fk_s k hk]; have q1 := Mk_le (y := 1700 + k) (a := mo + 1) (b := 13) (by omega) (by omega); rw [Mk_13, Mk_s hm1] at q1; omega
  have hd9 : d < 219145 := by have := Fk_b (k := k + 1) (by omega); omega
  have hb4 := mlN_b (1700 + k2) mo
  refine lv_iload_n hx hb dX0_yearsOn_0 rfl (lv_at hl 0 rfl) ?_
  refine lv_ldc (v := 219145) hx hb hown (hts (.constant RX0 9 (219145)) qw_0) dX0_yearsOn_1 ?_
  refine lv_icmp_lt (tgt := 9) hx hb dX0_yearsOn_3 (by decide) (fun c3_1 => ?_) (fun c3_1 => by exfalso; have c3_1 : ¬ (((d : Nat) : Int) < 219145) := mt (cv_lt (nI_toInt (by omega)) (by decide)).mpr c3_1; omega)
  have c3_1 : ((d : Nat) : Int) < 219145 := (cv_lt (nI_toInt (by omega)) (by decide)).mp c3_1
  refine lv_iload_n hx hb dX0_yearsOn_9 rfl (lv_at hl 0 rfl) ?_
  have hPc := hP.sub (ws' := []) [] rfl
  have hKc := hK.sub (tys' := []) [] rfl
  refine vp_callSi ((va_runS (As := [.int (nI d)]) (rest := []) ⟨hx, hb, hml, hown, hts⟩ (c_yo l dC dI g (d) (k) hk h1 h2) (va_cwS 1 hts (gwS qw_10 qw_11 qw_3 qw_9) rfl rfl rfl (by decide +kernel) ⟨Nat.le_of_ble_eq_true rfl, Nat.le_of_ble_eq_true rfl⟩) ⟨fun a U g9 mk q => ⟨q.1, q.2.1, va_K.moved (u := U) (U := U.calling g9 mk a) (Vm.Alike.refl U.vm) q.2.2.1, Ev.bl q.2.2.2⟩, fun U hU hW => ⟨rfl, by rw [hU]; exact hPc, va_K.moved hW.alike hKc, hE.go hS (fun _ h => h.elim) hU hW⟩⟩ rfl rfl hl.1 rfl (lv_room (Nat.le_of_ble_eq_true rfl)) dX0_yearsOn_10 ⟨Nat.le_of_ble_eq_true rfl, Nat.le_of_ble_eq_true rfl⟩)).run (fun r2 h_r2 => ?_)
  have h_r2 : r2 = nI (1700 + k) := h_r2
  subst h_r2
  refine lv_istore_n (lv' := [(2, .int (nI (1700 + k))), (0, .int (nI d)), (1, .int yn)]) hx hb dX0_yearsOn_13 rfl hl (by decide) rfl (fun ls hl => ?_)
  refine lv_iload_n hx hb dX0_yearsOn_14 rfl (lv_at hl 0 rfl) ?_
  refine lv_iload_n hx hb dX0_yearsOn_15 rfl (lv_at hl 2 rfl) ?_
  refine lv_iadd hx hb dX0_yearsOn_16 ?_
  refine cst (v := nI (1700 + k2)) (ys_sum (by omega) hn (by omega) (by omega)) ?_
  refine lv_istore_n (lv' := [(3, .int (nI (1700 + k2))), (2, .int (nI (1700 + k))), (0, .int (nI d)), (1, .int yn)]) hx hb dX0_yearsOn_17 rfl hl (by decide) rfl (fun ls hl => ?_)
  refine lv_iload_n hx hb dX0_yearsOn_18 rfl (lv_at hl 0 rfl) ?_
  refine lv_sipush (v := 1700) hx hb dX0_yearsOn_19 (by decide) ?_
  refine lv_icmp_ge (tgt := 27) hx hb dX0_yearsOn_22 (by decide) (fun c22_3 => ?_) (fun c22_3 => by exfalso; have c22_3 : ¬ (1700 ≤ ((1700 + k2 : Nat) : Int)) := mt (cv_le (by decide) (nI_toInt (by omega))).mpr c22_3; omega)
  have c22_3 : 1700 ≤ ((1700 + k2 : Nat) : Int) := (cv_le (by decide) (nI_toInt (by omega))).mp c22_3
  refine lv_iload_n hx hb dX0_yearsOn_27 rfl (lv_at hl 0 rfl) ?_
  refine lv_sipush (v := 2299) hx hb dX0_yearsOn_28 (by decide) ?_
  refine lv_icmp_le (tgt := 37) hx hb dX0_yearsOn_31 (by decide) (fun c31_4 => ?_) (fun c31_4 => by exfalso; have c31_4 : ¬ (((1700 + k2 : Nat) : Int) ≤ 2299) := mt (cv_le (nI_toInt (by omega)) (by decide)).mpr c31_4; omega)
  have c31_4 : ((1700 + k2 : Nat) : Int) ≤ 2299 := (cv_le (nI_toInt (by omega)) (by decide)).mp c31_4
  refine lv_iload_n hx hb dX0_yearsOn_37 rfl (lv_at hl 2 rfl) ?_
  refine lv_iload_n hx hb dX0_yearsOn_38 rfl (lv_at hl 1 rfl) ?_
  have hPc := hP.sub (ws' := []) [] rfl
  have hKc := hK.sub (tys' := []) [] rfl
  refine vp_callSi ((va_runS (As := [.int (nI d), .int (nI (1700 + k))]) (rest := []) ⟨hx, hb, hml, hown, hts⟩ (c_md l dC dI g (d) (k) (mo) (dd) hk hm1 hm2 hd1 hd2 hd) (va_cwS 2 hts (gwS qw_13 qw_14 qw_3 qw_12) rfl rfl rfl (by decide +kernel) ⟨Nat.le_of_ble_eq_true rfl, Nat.le_of_ble_eq_true rfl⟩) ⟨fun a U g9 mk q => ⟨q.1, q.2.1, va_K.moved (u := U) (U := U.calling g9 mk a) (Vm.Alike.refl U.vm) q.2.2.1, Ev.bl q.2.2.2⟩, fun U hU hW => ⟨rfl, by rw [hU]; exact hPc, va_K.moved hW.alike hKc, hE.go hS (fun _ h => h.elim) hU hW⟩⟩ rfl rfl hl.1 rfl (lv_room (Nat.le_of_ble_eq_true rfl)) dX0_yearsOn_39 ⟨Nat.le_of_ble_eq_true rfl, Nat.le_of_ble_eq_true rfl⟩)).run (fun r5 h_r5 => ?_)
  have h_r5 : r5 = nI (mo * 32 + dd) := h_r5
  subst h_r5
  refine lv_istore (lv' := [(4, .int (nI (mo * 32 + dd))), (3, .int (nI (1700 + k2))), (2, .int (nI (1700 + k))), (0, .int (nI d)), (1, .int yn)]) hx hb dX0_yearsOn_42 hl (by decide) rfl (fun ls hl => ?_)
  refine lv_iload hx hb dX0_yearsOn_44 (lv_at hl 0 rfl) ?_
  refine lv_bipush (v := 32) hx hb dX0_yearsOn_46 (by decide) ?_
  refine lv_idiv hx hb dX0_yearsOn_48 (by decide) ?_
  refine cst (v := nI mo) ((pk_div (a := mo * 32 + dd) (d := 32) (by omega) (by omega) (by omega)).trans (by congr 1; omega)) ?_
  refine lv_istore (lv' := [(5, .int (nI mo)), (4, .int (nI (mo * 32 + dd))), (3, .int (nI (1700 + k2))), (2, .int (nI (1700 + k))), (0, .int (nI d)), (1, .int yn)]) hx hb dX0_yearsOn_49 hl (by decide) rfl (fun ls hl => ?_)
  refine lv_iload hx hb dX0_yearsOn_51 (lv_at hl 1 rfl) ?_
  refine lv_bipush (v := 32) hx hb dX0_yearsOn_53 (by decide) ?_
  refine lv_irem hx hb dX0_yearsOn_55 (by decide) ?_
  refine cst (v := nI dd) ((pk_rem (a := mo * 32 + dd) (d := 32) (by omega) (by omega) (by omega)).trans (by congr 1; omega)) ?_
  refine lv_iload_n hx hb dX0_yearsOn_56 rfl (lv_at hl 2 rfl) ?_
  refine lv_iload hx hb dX0_yearsOn_57 (lv_at hl 0 rfl) ?_
  have hPc := hP.sub (ws' := []) [] rfl
  have hKc := hK.sub (tys' := []) [] rfl
  refine vp_callSi ((va_runS (As := [.int (nI (1700 + k2)), .int (nI mo)]) (rest := [.int (nI dd)]) ⟨hx, hb, hml, hown, hts⟩ (c_ml l dC dI g (1700 + k2) (mo) (by omega) (by omega) (by omega)) (va_cwS 2 hts (gwS qw_4 qw_5 qw_3 qw_2) rfl rfl rfl (by decide +kernel) ⟨Nat.le_of_ble_eq_true rfl, Nat.le_of_ble_eq_true rfl⟩) ⟨fun a U g9 mk q => ⟨q.1, q.2.1, va_K.moved (u := U) (U := U.calling g9 mk a) (Vm.Alike.refl U.vm) q.2.2.1, Ev.bl q.2.2.2⟩, fun U hU hW => ⟨rfl, by rw [hU]; exact hPc, va_K.moved hW.alike hKc, hE.go hS (fun _ h => h.elim) hU hW⟩⟩ rfl rfl hl.1 rfl (lv_room (Nat.le_of_ble_eq_true rfl)) dX0_yearsOn_59 ⟨Nat.le_of_ble_eq_true rfl, Nat.le_of_ble_eq_true rfl⟩)).run (fun r6 h_r6 => ?_)
  have h_r6 : r6 = nI (mlN (1700 + k2) mo) := h_r6
  subst h_r6
  refine va_mmin hx hb (by rw [hml]; exact hl.1.symm) hown (hts (.methodLink RX0 30 Lib.Math.min.name) qw_16) (hts (.static Lib.Math.min.name) qw_17) (hts (.initialized "java/lang/Math") qw_15) (hts (.code Lib.Math.min.name Lib.Math.min.code 2 (some .int)) qw_18) (Nat.le_of_ble_eq_true rfl) (Nat.le_of_ble_eq_true rfl) (Nat.le_of_ble_eq_true rfl) (Nat.le_of_ble_eq_true rfl) dX0_yearsOn_62 ?_
  refine cst (v := nI (min dd (mlN (1700 + k2) mo))) (mn_ok (by omega) (by omega)) ?_
  refine lv_istore (lv' := [(6, .int (nI (min dd (mlN (1700 + k2) mo)))), (5, .int (nI mo)), (4, .int (nI (mo * 32 + dd))), (3, .int (nI (1700 + k2))), (2, .int (nI (1700 + k))), (0, .int (nI d)), (1, .int yn)]) hx hb dX0_yearsOn_65 hl (by decide) rfl (fun ls hl => ?_)
  refine lv_iload_n hx hb dX0_yearsOn_67 rfl (lv_at hl 3 rfl) ?_
  refine lv_iload hx hb dX0_yearsOn_68 (lv_at hl 1 rfl) ?_
  refine lv_iload hx hb dX0_yearsOn_70 (lv_at hl 0 rfl) ?_
  have hPc := hP.sub (ws' := []) [] rfl
  have hKc := hK.sub (tys' := []) [] rfl
  refine vp_callSi ((va_runS (As := [.int (nI (1700 + k2)), .int (nI mo), .int (nI (min dd (mlN (1700 + k2) mo)))]) (rest := []) ⟨hx, hb, hml, hown, hts⟩ (c_no_in l dC dI g (k2) (mo) (min dd (mlN (1700 + k2) mo)) hk2 hm1 hm2 (by omega) (by omega)) (va_cwS 3 hts (gwS qw_20 qw_21 qw_3 qw_19) rfl rfl rfl (by decide +kernel) ⟨Nat.le_of_ble_eq_true rfl, Nat.le_of_ble_eq_true rfl⟩) ⟨fun a U g9 mk q => ⟨q.1, q.2.1, va_K.moved (u := U) (U := U.calling g9 mk a) (Vm.Alike.refl U.vm) q.2.2.1, Ev.bl q.2.2.2⟩, fun U hU hW => ⟨rfl, by rw [hU]; exact hPc, va_K.moved hW.alike hKc, hE.go hS (fun _ h => h.elim) hU hW⟩⟩ rfl rfl hl.1 rfl (lv_room (Nat.le_of_ble_eq_true rfl)) dX0_yearsOn_72 ⟨Nat.le_of_ble_eq_true rfl, Nat.le_of_ble_eq_true rfl⟩)).run (fun r7 h_r7 => ?_)
  have h_r7 : r7 = nI (Fk k2 + Mk (1700 + k2) mo + (min dd (mlN (1700 + k2) mo)) - 1) := h_r7
  subst h_r7
  exact W.iret (v := (nI (Fk k2 + Mk (1700 + k2) mo + (min dd (mlN (1700 + k2) mo)) - 1))) hx hb hr (fun t ht hW => ⟨(nI (Fk k2 + Mk (1700 + k2) mo + (min dd (mlN (1700 + k2) mo)) - 1)), rfl, (rfl), ht⟩) (fun _ h => absurd h List.not_mem_nil) dX0_yearsOn_75
