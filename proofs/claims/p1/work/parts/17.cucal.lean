theorem dX8_day_0 : decode cX8_day 0 = .ok (.iload_n 1, 1) := by decide +kernel
theorem dX8_day_1 : decode cX8_day 1 = .ok (.iload_n 2, 1) := by decide +kernel
theorem dX8_day_2 : decode cX8_day 2 = .ok (.iload_n 3, 1) := by decide +kernel
theorem dX8_day_3 : decode cX8_day 3 = .ok (.invokestatic 95, 3) := by decide +kernel
theorem dX8_day_6 : decode cX8_day 6 = .ok (.ireturn, 1) := by decide +kernel
theorem dX8_date_0 : decode cX8_date 0 = .ok (.iload_n 1, 1) := by decide +kernel
theorem dX8_date_1 : decode cX8_date 1 = .ok (.invokestatic 101, 3) := by decide +kernel
theorem dX8_date_4 : decode cX8_date 4 = .ok (.ifCond .ne 5, 3) := by decide +kernel
theorem dX8_date_7 : decode cX8_date 7 = .ok (.iconst (-1), 1) := by decide +kernel
theorem dX8_date_8 : decode cX8_date 8 = .ok (.ireturn, 1) := by decide +kernel
theorem dX8_date_9 : decode cX8_date 9 = .ok (.iload_n 2, 1) := by decide +kernel
theorem dX8_date_10 : decode cX8_date 10 = .ok (.tableswitch 50 0 3 #[30, 35, 40, 45], 30) := by decide +kernel
theorem dX8_date_40 : decode cX8_date 40 = .ok (.iload_n 1, 1) := by decide +kernel
theorem dX8_date_41 : decode cX8_date 41 = .ok (.invokestatic 105, 3) := by decide +kernel
theorem dX8_date_44 : decode cX8_date 44 = .ok (.ireturn, 1) := by decide +kernel
theorem dX8_date_45 : decode cX8_date 45 = .ok (.iload_n 1, 1) := by decide +kernel
theorem dX8_date_46 : decode cX8_date 46 = .ok (.invokestatic 109, 3) := by decide +kernel
theorem dX8_date_49 : decode cX8_date 49 = .ok (.ireturn, 1) := by decide +kernel
theorem dX8_date_50 : decode cX8_date 50 = .ok (.iload_n 1, 1) := by decide +kernel
theorem dX8_date_51 : decode cX8_date 51 = .ok (.invokestatic 112, 3) := by decide +kernel
theorem dX8_date_54 : decode cX8_date 54 = .ok (.ireturn, 1) := by decide +kernel
theorem dX8_date_55 : decode cX8_date 55 = .ok (.iload_n 1, 1) := by decide +kernel
theorem dX8_date_56 : decode cX8_date 56 = .ok (.invokestatic 115, 3) := by decide +kernel
theorem dX8_date_59 : decode cX8_date 59 = .ok (.ireturn, 1) := by decide +kernel
theorem dX8_date_60 : decode cX8_date 60 = .ok (.iconst (-1), 1) := by decide +kernel
theorem dX8_date_61 : decode cX8_date 61 = .ok (.ireturn, 1) := by decide +kernel
theorem dX8_plus_0 : decode cX8_plus 0 = .ok (.iload_n 1, 1) := by decide +kernel
theorem dX8_plus_1 : decode cX8_plus 1 = .ok (.invokestatic 118, 3) := by decide +kernel
theorem dX8_plus_4 : decode cX8_plus 4 = .ok (.ifCond .eq 17, 3) := by decide +kernel
theorem dX8_plus_7 : decode cX8_plus 7 = .ok (.iload_n 2, 1) := by decide +kernel
theorem dX8_plus_8 : decode cX8_plus 8 = .ok (.sipush (-600), 3) := by decide +kernel
theorem dX8_plus_11 : decode cX8_plus 11 = .ok (.if_icmp .lt 10, 3) := by decide +kernel
theorem dX8_plus_14 : decode cX8_plus 14 = .ok (.iload_n 2, 1) := by decide +kernel
theorem dX8_plus_15 : decode cX8_plus 15 = .ok (.sipush 600, 3) := by decide +kernel
theorem dX8_plus_18 : decode cX8_plus 18 = .ok (.if_icmp .le 5, 3) := by decide +kernel
theorem dX8_plus_21 : decode cX8_plus 21 = .ok (.iconst (-1), 1) := by decide +kernel
theorem dX8_plus_22 : decode cX8_plus 22 = .ok (.ireturn, 1) := by decide +kernel
theorem dX8_plus_23 : decode cX8_plus 23 = .ok (.iload_n 1, 1) := by decide +kernel
theorem dX8_plus_24 : decode cX8_plus 24 = .ok (.iload_n 2, 1) := by decide +kernel
theorem dX8_plus_25 : decode cX8_plus 25 = .ok (.invokestatic 121, 3) := by decide +kernel
theorem dX8_plus_28 : decode cX8_plus 28 = .ok (.ireturn, 1) := by decide +kernel
theorem dX8_isDayOrLate_0 : decode cX8_isDayOrLate 0 = .ok (.iload_n 0, 1) := by decide +kernel
theorem dX8_isDayOrLate_1 : decode cX8_isDayOrLate 1 = .ok (.ifCond .lt 14, 3) := by decide +kernel
theorem dX8_isDayOrLate_4 : decode cX8_isDayOrLate 4 = .ok (.iload_n 0, 1) := by decide +kernel
theorem dX8_isDayOrLate_5 : decode cX8_isDayOrLate 5 = .ok (.ldc_w 279, 3) := by decide +kernel
theorem dX8_isDayOrLate_8 : decode cX8_isDayOrLate 8 = .ok (.if_icmp .gt 7, 3) := by decide +kernel
theorem dX8_isDayOrLate_11 : decode cX8_isDayOrLate 11 = .ok (.iconst 1, 1) := by decide +kernel
theorem dX8_isDayOrLate_12 : decode cX8_isDayOrLate 12 = .ok (.goto 4, 3) := by decide +kernel
theorem dX8_isDayOrLate_15 : decode cX8_isDayOrLate 15 = .ok (.iconst 0, 1) := by decide +kernel
theorem dX8_isDayOrLate_16 : decode cX8_isDayOrLate 16 = .ok (.ireturn, 1) := by decide +kernel
theorem dX8_areReaders_0 : decode cX8_areReaders 0 = .ok (.iload_n 0, 1) := by decide +kernel
theorem dX8_areReaders_1 : decode cX8_areReaders 1 = .ok (.ifCond .lt 13, 3) := by decide +kernel
theorem dX8_areReaders_4 : decode cX8_areReaders 4 = .ok (.iload_n 0, 1) := by decide +kernel
theorem dX8_areReaders_5 : decode cX8_areReaders 5 = .ok (.bipush 15, 2) := by decide +kernel
theorem dX8_areReaders_7 : decode cX8_areReaders 7 = .ok (.if_icmp .gt 7, 3) := by decide +kernel
theorem dX8_areReaders_10 : decode cX8_areReaders 10 = .ok (.iconst 1, 1) := by decide +kernel
theorem dX8_areReaders_11 : decode cX8_areReaders 11 = .ok (.goto 4, 3) := by decide +kernel
theorem dX8_areReaders_14 : decode cX8_areReaders 14 = .ok (.iconst 0, 1) := by decide +kernel
theorem dX8_areReaders_15 : decode cX8_areReaders 15 = .ok (.ireturn, 1) := by decide +kernel
theorem qw_59 : (Cond.code yX0_has cX0_has 1 (some .boolean) : Cond) ∈ TBL := List.mem_of_getElem? (i := 495) (by decide +kernel)
theorem qw_60 : (Cond.static yX0_has : Cond) ∈ TBL := List.mem_of_getElem? (i := 494) (by decide +kernel)
theorem qw_61 : (Cond.code yX0_monthOf cX0_monthOf 1 (some .int) : Cond) ∈ TBL := List.mem_of_getElem? (i := 500) (by decide +kernel)
theorem qw_62 : (Cond.static yX0_monthOf : Cond) ∈ TBL := List.mem_of_getElem? (i := 499) (by decide +kernel)
theorem qw_63 : (Cond.code yX0_dayOfMonth cX0_dayOfMonth 1 (some .int) : Cond) ∈ TBL := List.mem_of_getElem? (i := 506) (by decide +kernel)
theorem qw_64 : (Cond.static yX0_dayOfMonth : Cond) ∈ TBL := List.mem_of_getElem? (i := 505) (by decide +kernel)
theorem qw_65 : (Cond.code yX0_dayOfWeek cX0_dayOfWeek 1 (some .int) : Cond) ∈ TBL := List.mem_of_getElem? (i := 508) (by decide +kernel)
theorem qw_66 : (Cond.static yX0_dayOfWeek : Cond) ∈ TBL := List.mem_of_getElem? (i := 507) (by decide +kernel)
theorem qw_67 : (Cond.constant RX8 279 (219145) : Cond) ∈ TBL := List.mem_of_getElem? (i := 529) (by decide +kernel)
theorem qw_68 : (Cond.code yX8_isDayOrLate cX8_isDayOrLate 1 (some .boolean) : Cond) ∈ TBL := List.mem_of_getElem? (i := 528) (by decide +kernel)
theorem qw_69 : (Cond.initialized RX8 : Cond) ∈ TBL := List.mem_of_getElem? (i := 2) (by decide +kernel)
theorem qw_70 : (Cond.methodLink RX8 118 yX8_isDayOrLate : Cond) ∈ TBL := List.mem_of_getElem? (i := 526) (by decide +kernel)
theorem qw_71 : (Cond.static yX8_isDayOrLate : Cond) ∈ TBL := List.mem_of_getElem? (i := 527) (by decide +kernel)
theorem qw_72 : (Cond.code yX0_yearsOn cX0_yearsOn 7 (some .int) : Cond) ∈ TBL := List.mem_of_getElem? (i := 531) (by decide +kernel)
theorem qw_73 : (Cond.static yX0_yearsOn : Cond) ∈ TBL := List.mem_of_getElem? (i := 530) (by decide +kernel)
set_option maxHeartbeats 4000000 in
set_option maxRecDepth 100000 in
theorem c_8day_A (l : Launch) (dC : Nat → ClassId) (dI : Nat → Nat → Nat) (g : Gv) (x0 : Nat) (k : Nat) (mo : Nat) (d : Nat) (hk : k < 600) (hm1 : 1 ≤ mo) (hm2 : mo ≤ 12) (hd1 : 1 ≤ d) (hd2 : d ≤ mlN (1700 + k) mo) : Met l yX8_day (.code yX8_day cX8_day 4 (some .int) :: TBL) ({ frames := 3, cells := 0, slots := 0, locals := 120 }) (va_Pc [.ref x0, .int (nI (1700 + k)), .int (nI mo), .int (nI d)] (fun U => va_P (dC, dI) vwCl [] U.heap ∧ va_K (dC, dI) vwCl [] U ∧ Ev g (fun _ => False) U)) (vp_Si (fun r => r = nI (Fk k + Mk (1700 + k) mo + d - 1))) 0 0 (fun _ => False) := by
  refine Met.ofW (cc := cX8_day) (maxL := 4) (ret := (some .int)) (by decide) rfl ?_
  intro p e s m args below meth c s₁ B hml hv
  obtain ⟨rfl, hP, hK, hE⟩ := hv
  have hx := B.exec
  have hb := B.bytes
  have hr := B.returns
  have hts0 := atoms_spec (ws := (.code yX8_day cX8_day 4 (some .int) :: TBL)) B.pre
  have hts := fun (w : Cond) (h : w ∈ TBL) => hts0 w (List.mem_cons_of_mem _ h)
  have hown : s.vm.findClass RX8 = some m.cls := findClass_of_methodNamed B.named
  have hlocks := B.notSynchronized
  have hN := hE.1
  have hS : va_S (fun _ => False) s.heap s.heap [] := va_S.rf
  have hP : va_P (dC, dI) vwCl [] s.heap := hP
  have hl := lv_entry ([.ref x0, .int (nI (1700 + k)), .int (nI mo), .int (nI d)]) (n := 4) (Nat.le_of_ble_eq_true rfl)
  rw [lg_entry_eq]
  generalize (lg_sl ([.ref x0, .int (nI (1700 + k)), .int (nI mo), .int (nI d)]) ++ List.replicate (4 - (lg_sl ([.ref x0, .int (nI (1700 + k)), .int (nI mo), .int (nI d)])).length) Slot.unset).toArray = ls at hl ⊢
  have hl : lv_has ls 4 [(0, .ref x0), (1, .int (nI (1700 + k))), (2, .int (nI mo)), (3, .int (nI d))] := hl
  refine lv_iload_n hx hb dX8_day_0 rfl (lv_at hl 1 rfl) ?_
  refine lv_iload_n hx hb dX8_day_1 rfl (lv_at hl 2 rfl) ?_
  refine lv_iload_n hx hb dX8_day_2 rfl (lv_at hl 3 rfl) ?_
  have hPc := hP.sub (ws' := []) [] rfl
  have hKc := hK.sub (tys' := []) [] rfl
  refine vp_callSi ((va_runSN (As := [.int (nI (1700 + k)), .int (nI mo), .int (nI d)]) (rest := []) ⟨hx, hb, hml, hown, hts⟩ (c_no_in l dC dI g (k) (mo) (d) hk hm1 hm2 hd1 hd2) ⟨va_cnB 3 hts (gwC qw_19) rfl rfl rfl (nm_18 hN) (hts (.initialized RX0) qw_3) (by decide +kernel) ⟨Nat.le_of_ble_eq_true rfl, Nat.le_of_ble_eq_true rfl⟩, (hts (.static yX0_numberOf) qw_21), trivial⟩ ⟨fun a U g9 mk q => ⟨q.1, q.2.1, va_K.moved (u := U) (U := U.calling g9 mk a) (Vm.Alike.refl U.vm) q.2.2.1, Ev.bl q.2.2.2⟩, fun U hU hW => ⟨rfl, by rw [hU]; exact hPc, va_K.moved hW.alike hKc, hE.go hS (fun _ h => h.elim) hU hW⟩⟩ rfl rfl hl.1 rfl (lv_room (Nat.le_of_ble_eq_true rfl)) dX8_day_3 ⟨Nat.le_of_ble_eq_true rfl, Nat.le_of_ble_eq_true rfl⟩)).run (fun r1 h_r1 => ?_)
  have h_r1 : r1 = nI (Fk k + Mk (1700 + k) mo + d - 1) := h_r1
  subst h_r1
  exact W.iret (v := (nI (Fk k + Mk (1700 + k) mo + d - 1))) hx hb hr (fun t ht hW => ⟨(nI (Fk k + Mk (1700 + k) mo + d - 1)), rfl, (rfl), ht⟩) (fun _ h => absurd h List.not_mem_nil) dX8_day_6
set_option maxHeartbeats 4000000 in
set_option maxRecDepth 100000 in
theorem c_8day_B (l : Launch) (dC : Nat → ClassId) (dI : Nat → Nat → Nat) (g : Gv) (x0 : Nat) (y : Int32) (mo : Int32) (d : Int32) (hy : ¬ (1700 ≤ y.toInt ∧ y.toInt ≤ 2299)) : Met l yX8_day (.code yX8_day cX8_day 4 (some .int) :: TBL) ({ frames := 3, cells := 0, slots := 0, locals := 120 }) (va_Pc [.ref x0, .int y, .int mo, .int d] (fun U => va_P (dC, dI) vwCl [] U.heap ∧ va_K (dC, dI) vwCl [] U ∧ Ev g (fun _ => False) U)) (vp_Si (fun r => r = -1)) 0 0 (fun _ => False) := by
  refine Met.ofW (cc := cX8_day) (maxL := 4) (ret := (some .int)) (by decide) rfl ?_
  intro p e s m args below meth c s₁ B hml hv
  obtain ⟨rfl, hP, hK, hE⟩ := hv
  have hx := B.exec
  have hb := B.bytes
  have hr := B.returns
  have hts0 := atoms_spec (ws := (.code yX8_day cX8_day 4 (some .int) :: TBL)) B.pre
  have hts := fun (w : Cond) (h : w ∈ TBL) => hts0 w (List.mem_cons_of_mem _ h)
  have hown : s.vm.findClass RX8 = some m.cls := findClass_of_methodNamed B.named
  have hlocks := B.notSynchronized
  have hN := hE.1
  have hS : va_S (fun _ => False) s.heap s.heap [] := va_S.rf
  have hP : va_P (dC, dI) vwCl [] s.heap := hP
  have hl := lv_entry ([.ref x0, .int y, .int mo, .int d]) (n := 4) (Nat.le_of_ble_eq_true rfl)
  rw [lg_entry_eq]
  generalize (lg_sl ([.ref x0, .int y, .int mo, .int d]) ++ List.replicate (4 - (lg_sl ([.ref x0, .int y, .int mo, .int d])).length) Slot.unset).toArray = ls at hl ⊢
  have hl : lv_has ls 4 [(0, .ref x0), (1, .int y), (2, .int mo), (3, .int d)] := hl
  refine lv_iload_n hx hb dX8_day_0 rfl (lv_at hl 1 rfl) ?_
  refine lv_iload_n hx hb dX8_day_1 rfl (lv_at hl 2 rfl) ?_
  refine lv_iload_n hx hb dX8_day_2 rfl (lv_at hl 3 rfl) ?_
  have hPc := hP.sub (ws' := []) [] rfl
  have hKc := hK.sub (tys' := []) [] rfl
  refine vp_callSi ((va_runSN (As := [.int y, .int mo, .int d]) (rest := []) ⟨hx, hb, hml, hown, hts⟩ (c_no_B l dC dI g (y) (mo) (d) hy) ⟨va_cnB 3 hts (gwC qw_19) rfl rfl rfl (nm_18 hN) (hts (.initialized RX0) qw_3) (by decide +kernel) ⟨Nat.le_of_ble_eq_true rfl, Nat.le_of_ble_eq_true rfl⟩, (hts (.static yX0_numberOf) qw_21), trivial⟩ ⟨fun a U g9 mk q => ⟨q.1, q.2.1, va_K.moved (u := U) (U := U.calling g9 mk a) (Vm.Alike.refl U.vm) q.2.2.1, Ev.bl q.2.2.2⟩, fun U hU hW => ⟨rfl, by rw [hU]; exact hPc, va_K.moved hW.alike hKc, hE.go hS (fun _ h => h.elim) hU hW⟩⟩ rfl rfl hl.1 rfl (lv_room (Nat.le_of_ble_eq_true rfl)) dX8_day_3 ⟨Nat.le_of_ble_eq_true rfl, Nat.le_of_ble_eq_true rfl⟩)).run (fun r1 h_r1 => ?_)
  have h_r1 : r1 = (-1) := h_r1
  subst h_r1
  exact W.iret (v := (-1)) hx hb hr (fun t ht hW => ⟨(-1), rfl, (rfl), ht⟩) (fun _ h => absurd h List.not_mem_nil) dX8_day_6
set_option maxHeartbeats 4000000 in
set_option maxRecDepth 100000 in
theorem c_8day_C (l : Launch) (dC : Nat → ClassId) (dI : Nat → Nat → Nat) (g : Gv) (x0 : Nat) (k : Nat) (mo : Int32) (d : Int32) (hk : k < 600) (hd : d.toInt < 1) : Met l yX8_day (.code yX8_day cX8_day 4 (some .int) :: TBL) ({ frames := 3, cells := 0, slots := 0, locals := 120 }) (va_Pc [.ref x0, .int (nI (1700 + k)), .int mo, .int d] (fun U => va_P (dC, dI) vwCl [] U.heap ∧ va_K (dC, dI) vwCl [] U ∧ Ev g (fun _ => False) U)) (vp_Si (fun r => r = -1)) 0 0 (fun _ => False) := by
  refine Met.ofW (cc := cX8_day) (maxL := 4) (ret := (some .int)) (by decide) rfl ?_
  intro p e s m args below meth c s₁ B hml hv
  obtain ⟨rfl, hP, hK, hE⟩ := hv
  have hx := B.exec
  have hb := B.bytes
  have hr := B.returns
  have hts0 := atoms_spec (ws := (.code yX8_day cX8_day 4 (some .int) :: TBL)) B.pre
  have hts := fun (w : Cond) (h : w ∈ TBL) => hts0 w (List.mem_cons_of_mem _ h)
  have hown : s.vm.findClass RX8 = some m.cls := findClass_of_methodNamed B.named
  have hlocks := B.notSynchronized
  have hN := hE.1
  have hS : va_S (fun _ => False) s.heap s.heap [] := va_S.rf
  have hP : va_P (dC, dI) vwCl [] s.heap := hP
  have hl := lv_entry ([.ref x0, .int (nI (1700 + k)), .int mo, .int d]) (n := 4) (Nat.le_of_ble_eq_true rfl)
  rw [lg_entry_eq]
  generalize (lg_sl ([.ref x0, .int (nI (1700 + k)), .int mo, .int d]) ++ List.replicate (4 - (lg_sl ([.ref x0, .int (nI (1700 + k)), .int mo, .int d])).length) Slot.unset).toArray = ls at hl ⊢
  have hl : lv_has ls 4 [(0, .ref x0), (1, .int (nI (1700 + k))), (2, .int mo), (3, .int d)] := hl
  refine lv_iload_n hx hb dX8_day_0 rfl (lv_at hl 1 rfl) ?_
  refine lv_iload_n hx hb dX8_day_1 rfl (lv_at hl 2 rfl) ?_
  refine lv_iload_n hx hb dX8_day_2 rfl (lv_at hl 3 rfl) ?_
  have hPc := hP.sub (ws' := []) [] rfl
  have hKc := hK.sub (tys' := []) [] rfl
  refine vp_callSi ((va_runSN (As := [.int (nI (1700 + k)), .int mo, .int d]) (rest := []) ⟨hx, hb, hml, hown, hts⟩ (c_no_C l dC dI g (k) (mo) (d) hk hd) ⟨va_cnB 3 hts (gwC qw_19) rfl rfl rfl (nm_18 hN) (hts (.initialized RX0) qw_3) (by decide +kernel) ⟨Nat.le_of_ble_eq_true rfl, Nat.le_of_ble_eq_true rfl⟩, (hts (.static yX0_numberOf) qw_21), trivial⟩ ⟨fun a U g9 mk q => ⟨q.1, q.2.1, va_K.moved (u := U) (U := U.calling g9 mk a) (Vm.Alike.refl U.vm) q.2.2.1, Ev.bl q.2.2.2⟩, fun U hU hW => ⟨rfl, by rw [hU]; exact hPc, va_K.moved hW.alike hKc, hE.go hS (fun _ h => h.elim) hU hW⟩⟩ rfl rfl hl.1 rfl (lv_room (Nat.le_of_ble_eq_true rfl)) dX8_day_3 ⟨Nat.le_of_ble_eq_true rfl, Nat.le_of_ble_eq_true rfl⟩)).run (fun r1 h_r1 => ?_)
  have h_r1 : r1 = (-1) := h_r1
  subst h_r1
  exact W.iret (v := (-1)) hx hb hr (fun t ht hW => ⟨(-1), rfl, (rfl), ht⟩) (fun _ h => absurd h List.not_mem_nil) dX8_day_6
set_option maxHeartbeats 4000000 in
set_option maxRecDepth 100000 in
theorem c_8day_D (l : Launch) (dC : Nat → ClassId) (dI : Nat → Nat → Nat) (g : Gv) (x0 : Nat) (k : Nat) (mo : Int32) (d : Int32) (hk : k < 600) (hm : ¬ (1 ≤ mo.toInt ∧ mo.toInt ≤ 12)) : Met l yX8_day (.code yX8_day cX8_day 4 (some .int) :: TBL) ({ frames := 3, cells := 0, slots := 0, locals := 120 }) (va_Pc [.ref x0, .int (nI (1700 + k)), .int mo, .int d] (fun U => va_P (dC, dI) vwCl [] U.heap ∧ va_K (dC, dI) vwCl [] U ∧ Ev g (fun _ => False) U)) (vp_Si (fun r => r = -1)) 0 0 (fun _ => False) := by
  refine Met.ofW (cc := cX8_day) (maxL := 4) (ret := (some .int)) (by decide) rfl ?_
  intro p e s m args below meth c s₁ B hml hv
  obtain ⟨rfl, hP, hK, hE⟩ := hv
  have hx := B.exec
  have hb := B.bytes
  have hr := B.returns
  have hts0 := atoms_spec (ws := (.code yX8_day cX8_day 4 (some .int) :: TBL)) B.pre
  have hts := fun (w : Cond) (h : w ∈ TBL) => hts0 w (List.mem_cons_of_mem _ h)
  have hown : s.vm.findClass RX8 = some m.cls := findClass_of_methodNamed B.named
  have hlocks := B.notSynchronized
  have hN := hE.1
  have hS : va_S (fun _ => False) s.heap s.heap [] := va_S.rf
  have hP : va_P (dC, dI) vwCl [] s.heap := hP
  have hl := lv_entry ([.ref x0, .int (nI (1700 + k)), .int mo, .int d]) (n := 4) (Nat.le_of_ble_eq_true rfl)
  rw [lg_entry_eq]
  generalize (lg_sl ([.ref x0, .int (nI (1700 + k)), .int mo, .int d]) ++ List.replicate (4 - (lg_sl ([.ref x0, .int (nI (1700 + k)), .int mo, .int d])).length) Slot.unset).toArray = ls at hl ⊢
  have hl : lv_has ls 4 [(0, .ref x0), (1, .int (nI (1700 + k))), (2, .int mo), (3, .int d)] := hl
  refine lv_iload_n hx hb dX8_day_0 rfl (lv_at hl 1 rfl) ?_
  refine lv_iload_n hx hb dX8_day_1 rfl (lv_at hl 2 rfl) ?_
  refine lv_iload_n hx hb dX8_day_2 rfl (lv_at hl 3 rfl) ?_
  have hPc := hP.sub (ws' := []) [] rfl
  have hKc := hK.sub (tys' := []) [] rfl
  refine vp_callSi ((va_runSN (As := [.int (nI (1700 + k)), .int mo, .int d]) (rest := []) ⟨hx, hb, hml, hown, hts⟩ (c_no_D l dC dI g (k) (mo) (d) hk hm) ⟨va_cnB 3 hts (gwC qw_19) rfl rfl rfl (nm_18 hN) (hts (.initialized RX0) qw_3) (by decide +kernel) ⟨Nat.le_of_ble_eq_true rfl, Nat.le_of_ble_eq_true rfl⟩, (hts (.static yX0_numberOf) qw_21), trivial⟩ ⟨fun a U g9 mk q => ⟨q.1, q.2.1, va_K.moved (u := U) (U := U.calling g9 mk a) (Vm.Alike.refl U.vm) q.2.2.1, Ev.bl q.2.2.2⟩, fun U hU hW => ⟨rfl, by rw [hU]; exact hPc, va_K.moved hW.alike hKc, hE.go hS (fun _ h => h.elim) hU hW⟩⟩ rfl rfl hl.1 rfl (lv_room (Nat.le_of_ble_eq_true rfl)) dX8_day_3 ⟨Nat.le_of_ble_eq_true rfl, Nat.le_of_ble_eq_true rfl⟩)).run (fun r1 h_r1 => ?_)
  have h_r1 : r1 = (-1) := h_r1
  subst h_r1
  exact W.iret (v := (-1)) hx hb hr (fun t ht hW => ⟨(-1), rfl, (rfl), ht⟩) (fun _ h => absurd h List.not_mem_nil) dX8_day_6
set_option maxHeartbeats 4000000 in
set_option maxRecDepth 100000 in
theorem c_8day_E (l : Launch) (dC : Nat → ClassId) (dI : Nat → Nat → Nat) (g : Gv) (x0 : Nat) (k : Nat) (mo : Nat) (d : Int32) (hk : k < 600) (hm1 : 1 ≤ mo) (hm2 : mo ≤ 12) (hd : (mlN (1700 + k) mo : Int) < d.toInt) : Met l yX8_day (.code yX8_day cX8_day 4 (some .int) :: TBL) ({ frames := 3, cells := 0, slots := 0, locals := 120 }) (va_Pc [.ref x0, .int (nI (1700 + k)), .int (nI mo), .int d] (fun U => va_P (dC, dI) vwCl [] U.heap ∧ va_K (dC, dI) vwCl [] U ∧ Ev g (fun _ => False) U)) (vp_Si (fun r => r = -1)) 0 0 (fun _ => False) := by
  refine Met.ofW (cc := cX8_day) (maxL := 4) (ret := (some .int)) (by decide) rfl ?_
  intro p e s m args below meth c s₁ B hml hv
  obtain ⟨rfl, hP, hK, hE⟩ := hv
  have hx := B.exec
  have hb := B.bytes
  have hr := B.returns
  have hts0 := atoms_spec (ws := (.code yX8_day cX8_day 4 (some .int) :: TBL)) B.pre
  have hts := fun (w : Cond) (h : w ∈ TBL) => hts0 w (List.mem_cons_of_mem _ h)
  have hown : s.vm.findClass RX8 = some m.cls := findClass_of_methodNamed B.named
  have hlocks := B.notSynchronized
  have hN := hE.1
  have hS : va_S (fun _ => False) s.heap s.heap [] := va_S.rf
  have hP : va_P (dC, dI) vwCl [] s.heap := hP
  have hl := lv_entry ([.ref x0, .int (nI (1700 + k)), .int (nI mo), .int d]) (n := 4) (Nat.le_of_ble_eq_true rfl)
  rw [lg_entry_eq]
  generalize (lg_sl ([.ref x0, .int (nI (1700 + k)), .int (nI mo), .int d]) ++ List.replicate (4 - (lg_sl ([.ref x0, .int (nI (1700 + k)), .int (nI mo), .int d])).length) Slot.unset).toArray = ls at hl ⊢
  have hl : lv_has ls 4 [(0, .ref x0), (1, .int (nI (1700 + k))), (2, .int (nI mo)), (3, .int d)] := hl
  refine lv_iload_n hx hb dX8_day_0 rfl (lv_at hl 1 rfl) ?_
  refine lv_iload_n hx hb dX8_day_1 rfl (lv_at hl 2 rfl) ?_
  refine lv_iload_n hx hb dX8_day_2 rfl (lv_at hl 3 rfl) ?_
  have hPc := hP.sub (ws' := []) [] rfl
  have hKc := hK.sub (tys' := []) [] rfl
  refine vp_callSi ((va_runSN (As := [.int (nI (1700 + k)), .int (nI mo), .int d]) (rest := []) ⟨hx, hb, hml, hown, hts⟩ (c_no_E l dC dI g (k) (mo) (d) hk hm1 hm2 hd) ⟨va_cnB 3 hts (gwC qw_19) rfl rfl rfl (nm_18 hN) (hts (.initialized RX0) qw_3) (by decide +kernel) ⟨Nat.le_of_ble_eq_true rfl, Nat.le_of_ble_eq_true rfl⟩, (hts (.static yX0_numberOf) qw_21), trivial⟩ ⟨fun a U g9 mk q => ⟨q.1, q.2.1, va_K.moved (u := U) (U := U.calling g9 mk a) (Vm.Alike.refl U.vm) q.2.2.1, Ev.bl q.2.2.2⟩, fun U hU hW => ⟨rfl, by rw [hU]; exact hPc, va_K.moved hW.alike hKc, hE.go hS (fun _ h => h.elim) hU hW⟩⟩ rfl rfl hl.1 rfl (lv_room (Nat.le_of_ble_eq_true rfl)) dX8_day_3 ⟨Nat.le_of_ble_eq_true rfl, Nat.le_of_ble_eq_true rfl⟩)).run (fun r1 h_r1 => ?_)
  have h_r1 : r1 = (-1) := h_r1
  subst h_r1
  exact W.iret (v := (-1)) hx hb hr (fun t ht hW => ⟨(-1), rfl, (rfl), ht⟩) (fun _ h => absurd h List.not_mem_nil) dX8_day_6
set_option maxHeartbeats 4000000 in
set_option maxRecDepth 100000 in
theorem c_8date_B (l : Launch) (dC : Nat → ClassId) (dI : Nat → Nat → Nat) (g : Gv) (x0 : Nat) (d : Int32) (wh : Int32) (hd : ¬ (0 ≤ d.toInt ∧ d.toInt < 219145)) : Met l yX8_date (.code yX8_date cX8_date 3 (some .int) :: TBL) ({ frames := 3, cells := 0, slots := 0, locals := 120 }) (va_Pc [.ref x0, .int d, .int wh] (fun U => va_P (dC, dI) vwCl [] U.heap ∧ va_K (dC, dI) vwCl [] U ∧ Ev g (fun _ => False) U)) (vp_Si (fun r => r = -1)) 0 0 (fun _ => False) := by
  refine Met.ofW (cc := cX8_date) (maxL := 3) (ret := (some .int)) (by decide) rfl ?_
  intro p e s m args below meth c s₁ B hml hv
  obtain ⟨rfl, hP, hK, hE⟩ := hv
  have hx := B.exec
  have hb := B.bytes
  have hr := B.returns
  have hts0 := atoms_spec (ws := (.code yX8_date cX8_date 3 (some .int) :: TBL)) B.pre
  have hts := fun (w : Cond) (h : w ∈ TBL) => hts0 w (List.mem_cons_of_mem _ h)
  have hown : s.vm.findClass RX8 = some m.cls := findClass_of_methodNamed B.named
  have hlocks := B.notSynchronized
  have hN := hE.1
  have hS : va_S (fun _ => False) s.heap s.heap [] := va_S.rf
  have hP : va_P (dC, dI) vwCl [] s.heap := hP
  have hl := lv_entry ([.ref x0, .int d, .int wh]) (n := 3) (Nat.le_of_ble_eq_true rfl)
  rw [lg_entry_eq]
  generalize (lg_sl ([.ref x0, .int d, .int wh]) ++ List.replicate (3 - (lg_sl ([.ref x0, .int d, .int wh])).length) Slot.unset).toArray = ls at hl ⊢
  have hl : lv_has ls 3 [(0, .ref x0), (1, .int d), (2, .int wh)] := hl
  refine lv_iload_n hx hb dX8_date_0 rfl (lv_at hl 1 rfl) ?_
  have hPc := hP.sub (ws' := []) [] rfl
  have hKc := hK.sub (tys' := []) [] rfl
  refine vp_callSi ((va_runSN (As := [.int d]) (rest := []) ⟨hx, hb, hml, hown, hts⟩ (c_has_out l dC dI g (d) hd) ⟨va_cnB 1 hts (gwC qw_59) rfl rfl rfl (nm_19 hN) (hts (.initialized RX0) qw_3) (by decide +kernel) ⟨Nat.le_of_ble_eq_true rfl, Nat.le_of_ble_eq_true rfl⟩, (hts (.static yX0_has) qw_60), trivial⟩ ⟨fun a U g9 mk q => ⟨q.1, q.2.1, va_K.moved (u := U) (U := U.calling g9 mk a) (Vm.Alike.refl U.vm) q.2.2.1, Ev.bl q.2.2.2⟩, fun U hU hW => ⟨rfl, by rw [hU]; exact hPc, va_K.moved hW.alike hKc, hE.go hS (fun _ h => h.elim) hU hW⟩⟩ rfl rfl hl.1 rfl (lv_room (Nat.le_of_ble_eq_true rfl)) dX8_date_1 ⟨Nat.le_of_ble_eq_true rfl, Nat.le_of_ble_eq_true rfl⟩)).run (fun r1 h_r1 => ?_)
  have h_r1 : r1 = 0 := h_r1
  subst h_r1
  refine lv_if_ne (tgt := 9) hx hb dX8_date_4 (by decide) (fun c4_2 => by exfalso; exact absurd c4_2 (by decide)) (fun c4_2 => ?_)
  refine lv_iconst (v := (-1)) hx hb dX8_date_7 (by decide) ?_
  exact W.iret (v := (-1)) hx hb hr (fun t ht hW => ⟨(-1), rfl, (rfl), ht⟩) (fun _ h => absurd h List.not_mem_nil) dX8_date_8
set_option maxHeartbeats 4000000 in
set_option maxRecDepth 100000 in
theorem c_8date_W (l : Launch) (dC : Nat → ClassId) (dI : Nat → Nat → Nat) (g : Gv) (x0 : Nat) (d : Nat) (wh : Int32) (hd : d < 219145) (hw : ¬ (0 ≤ wh.toInt ∧ wh.toInt ≤ 3)) : Met l yX8_date (.code yX8_date cX8_date 3 (some .int) :: TBL) ({ frames := 3, cells := 0, slots := 0, locals := 120 }) (va_Pc [.ref x0, .int (nI d), .int wh] (fun U => va_P (dC, dI) vwCl [] U.heap ∧ va_K (dC, dI) vwCl [] U ∧ Ev g (fun _ => False) U)) (vp_Si (fun r => r = -1)) 0 0 (fun _ => False) := by
  refine Met.ofW (cc := cX8_date) (maxL := 3) (ret := (some .int)) (by decide) rfl ?_
  intro p e s m args below meth c s₁ B hml hv
  obtain ⟨rfl, hP, hK, hE⟩ := hv
  have hx := B.exec
  have hb := B.bytes
  have hr := B.returns
  have hts0 := atoms_spec (ws := (.code yX8_date cX8_date 3 (some .int) :: TBL)) B.pre
  have hts := fun (w : Cond) (h : w ∈ TBL) => hts0 w (List.mem_cons_of_mem _ h)
  have hown : s.vm.findClass RX8 = some m.cls := findClass_of_methodNamed B.named
  have hlocks := B.notSynchronized
  have hN := hE.1
  have hS : va_S (fun _ => False) s.heap s.heap [] := va_S.rf
  have hP : va_P (dC, dI) vwCl [] s.heap := hP
  have hl := lv_entry ([.ref x0, .int (nI d), .int wh]) (n := 3) (Nat.le_of_ble_eq_true rfl)
  rw [lg_entry_eq]
  generalize (lg_sl ([.ref x0, .int (nI d), .int wh]) ++ List.replicate (3 - (lg_sl ([.ref x0, .int (nI d), .int wh])).length) Slot.unset).toArray = ls at hl ⊢
  have hl : lv_has ls 3 [(0, .ref x0), (1, .int (nI d)), (2, .int wh)] := hl
  refine lv_iload_n hx hb dX8_date_0 rfl (lv_at hl 1 rfl) ?_
  have hPc := hP.sub (ws' := []) [] rfl
  have hKc := hK.sub (tys' := []) [] rfl
  refine vp_callSi ((va_runSN (As := [.int (nI d)]) (rest := []) ⟨hx, hb, hml, hown, hts⟩ (c_has_in l dC dI g (d) (by omega)) ⟨va_cnB 1 hts (gwC qw_59) rfl rfl rfl (nm_19 hN) (hts (.initialized RX0) qw_3) (by decide +kernel) ⟨Nat.le_of_ble_eq_true rfl, Nat.le_of_ble_eq_true rfl⟩, (hts (.static yX0_has) qw_60), trivial⟩ ⟨fun a U g9 mk q => ⟨q.1, q.2.1, va_K.moved (u := U) (U := U.calling g9 mk a) (Vm.Alike.refl U.vm) q.2.2.1, Ev.bl q.2.2.2⟩, fun U hU hW => ⟨rfl, by rw [hU]; exact hPc, va_K.moved hW.alike hKc, hE.go hS (fun _ h => h.elim) hU hW⟩⟩ rfl rfl hl.1 rfl (lv_room (Nat.le_of_ble_eq_true rfl)) dX8_date_1 ⟨Nat.le_of_ble_eq_true rfl, Nat.le_of_ble_eq_true rfl⟩)).run (fun r1 h_r1 => ?_)
  have h_r1 : r1 = 1 := h_r1
  subst h_r1
  refine lv_if_ne (tgt := 9) hx hb dX8_date_4 (by decide) (fun c4_2 => ?_) (fun c4_2 => by exfalso; exact absurd c4_2 (by decide))
  refine lv_iload_n hx hb dX8_date_9 rfl (lv_at hl 2 rfl) ?_
  refine lv_tableOut (tgt := 60) hx hb dX8_date_10 (by omega) (by decide) ?_
  refine lv_iconst (v := (-1)) hx hb dX8_date_60 (by decide) ?_
  exact W.iret (v := (-1)) hx hb hr (fun t ht hW => ⟨(-1), rfl, (rfl), ht⟩) (fun _ h => absurd h List.not_mem_nil) dX8_date_61
set_option maxHeartbeats 4000000 in
set_option maxRecDepth 100000 in
theorem c_8date_0 (l : Launch) (dC : Nat → ClassId) (dI : Nat → Nat → Nat) (g : Gv) (x0 : Nat) (d : Nat) (k : Nat) (mo : Nat) (dd : Nat) (hk : k < 600) (hm1 : 1 ≤ mo) (hm2 : mo ≤ 12) (hd1 : 1 ≤ dd) (hd2 : dd ≤ mlN (1700 + k) mo) (hd : d = Fk k + Mk (1700 + k) mo + (dd - 1)) : Met l yX8_date (.code yX8_date cX8_date 3 (some .int) :: TBL) ({ frames := 3, cells := 0, slots := 0, locals := 120 }) (va_Pc [.ref x0, .int (nI d), .int 0] (fun U => va_P (dC, dI) vwCl [] U.heap ∧ va_K (dC, dI) vwCl [] U ∧ Ev g (fun _ => False) U)) (vp_Si (fun r => r = nI (1700 + k))) 0 0 (fun _ => False) := by
  refine Met.ofW (cc := cX8_date) (maxL := 3) (ret := (some .int)) (by decide) rfl ?_
  intro p e s m args below meth c s₁ B hml hv
  obtain ⟨rfl, hP, hK, hE⟩ := hv
  have hx := B.exec
  have hb := B.bytes
  have hr := B.returns
  have hts0 := atoms_spec (ws := (.code yX8_date cX8_date 3 (some .int) :: TBL)) B.pre
  have hts := fun (w : Cond) (h : w ∈ TBL) => hts0 w (List.mem_cons_of_mem _ h)
  have hown : s.vm.findClass RX8 = some m.cls := findClass_of_methodNamed B.named
  have hlocks := B.notSynchronized
  have hN := hE.1
  have hS : va_S (fun _ => False) s.heap s.heap [] := va_S.rf
  have hP : va_P (dC, dI) vwCl [] s.heap := hP
  have hl := lv_entry ([.ref x0, .int (nI d), .int 0]) (n := 3) (Nat.le_of_ble_eq_true rfl)
  rw [lg_entry_eq]
  generalize (lg_sl ([.ref x0, .int (nI d), .int 0]) ++ List.replicate (3 - (lg_sl ([.ref x0, .int (nI d), .int 0])).length) Slot.unset).toArray = ls at hl ⊢
  have hl : lv_has ls 3 [(0, .ref x0), (1, .int (nI d)), (2, .int 0)] := hl
  have hb1 := mlN_b (1700 + k) mo
  have h1 : Fk k ≤ d := by omega
  have h2 : d < Fk (k + 1) := by
    rw [Fk_s k hk]; have q1 := Mk_le (y := 1700 + k) (a := mo + 1) (b := 13) (by omega) (by omega); rw [Mk_13, Mk_s hm1] at q1; omega
  have hd9 : d < 219145 := by have := Fk_b (k := k + 1) (by omega); omega
  refine lv_iload_n hx hb dX8_date_0 rfl (lv_at hl 1 rfl) ?_
  have hPc := hP.sub (ws' := []) [] rfl
  have hKc := hK.sub (tys' := []) [] rfl
  refine vp_callSi ((va_runSN (As := [.int (nI d)]) (rest := []) ⟨hx, hb, hml, hown, hts⟩ (c_has_in l dC dI g (d) (by omega)) ⟨va_cnB 1 hts (gwC qw_59) rfl rfl rfl (nm_19 hN) (hts (.initialized RX0) qw_3) (by decide +kernel) ⟨Nat.le_of_ble_eq_true rfl, Nat.le_of_ble_eq_true rfl⟩, (hts (.static yX0_has) qw_60), trivial⟩ ⟨fun a U g9 mk q => ⟨q.1, q.2.1, va_K.moved (u := U) (U := U.calling g9 mk a) (Vm.Alike.refl U.vm) q.2.2.1, Ev.bl q.2.2.2⟩, fun U hU hW => ⟨rfl, by rw [hU]; exact hPc, va_K.moved hW.alike hKc, hE.go hS (fun _ h => h.elim) hU hW⟩⟩ rfl rfl hl.1 rfl (lv_room (Nat.le_of_ble_eq_true rfl)) dX8_date_1 ⟨Nat.le_of_ble_eq_true rfl, Nat.le_of_ble_eq_true rfl⟩)).run (fun r1 h_r1 => ?_)
  have h_r1 : r1 = 1 := h_r1
  subst h_r1
  refine lv_if_ne (tgt := 9) hx hb dX8_date_4 (by decide) (fun c4_2 => ?_) (fun c4_2 => by exfalso; exact absurd c4_2 (by decide))
  refine lv_iload_n hx hb dX8_date_9 rfl (lv_at hl 2 rfl) ?_
  refine lv_tableIn (tgt := 40) hx hb dX8_date_10 (by decide) (by decide) rfl (by decide) ?_
  refine lv_iload_n hx hb dX8_date_40 rfl (lv_at hl 1 rfl) ?_
  have hPc := hP.sub (ws' := []) [] rfl
  have hKc := hK.sub (tys' := []) [] rfl
  refine vp_callSi ((va_runSN (As := [.int (nI d)]) (rest := []) ⟨hx, hb, hml, hown, hts⟩ (c_yo l dC dI g (d) (k) hk h1 h2) ⟨va_cnB 1 hts (gwC qw_9) rfl rfl rfl (nm_20 hN) (hts (.initialized RX0) qw_3) (by decide +kernel) ⟨Nat.le_of_ble_eq_true rfl, Nat.le_of_ble_eq_true rfl⟩, (hts (.static yX0_yearOf) qw_11), trivial⟩ ⟨fun a U g9 mk q => ⟨q.1, q.2.1, va_K.moved (u := U) (U := U.calling g9 mk a) (Vm.Alike.refl U.vm) q.2.2.1, Ev.bl q.2.2.2⟩, fun U hU hW => ⟨rfl, by rw [hU]; exact hPc, va_K.moved hW.alike hKc, hE.go hS (fun _ h => h.elim) hU hW⟩⟩ rfl rfl hl.1 rfl (lv_room (Nat.le_of_ble_eq_true rfl)) dX8_date_41 ⟨Nat.le_of_ble_eq_true rfl, Nat.le_of_ble_eq_true rfl⟩)).run (fun r3 h_r3 => ?_)
  have h_r3 : r3 = nI (1700 + k) := h_r3
  subst h_r3
  exact W.iret (v := (nI (1700 + k))) hx hb hr (fun t ht hW => ⟨(nI (1700 + k)), rfl, (rfl), ht⟩) (fun _ h => absurd h List.not_mem_nil) dX8_date_44
set_option maxHeartbeats 4000000 in
set_option maxRecDepth 100000 in
theorem c_8date_1 (l : Launch) (dC : Nat → ClassId) (dI : Nat → Nat → Nat) (g : Gv) (x0 : Nat) (d : Nat) (k : Nat) (mo : Nat) (dd : Nat) (hk : k < 600) (hm1 : 1 ≤ mo) (hm2 : mo ≤ 12) (hd1 : 1 ≤ dd) (hd2 : dd ≤ mlN (1700 + k) mo) (hd : d = Fk k + Mk (1700 + k) mo + (dd - 1)) : Met l yX8_date (.code yX8_date cX8_date 3 (some .int) :: TBL) ({ frames := 3, cells := 0, slots := 0, locals := 120 }) (va_Pc [.ref x0, .int (nI d), .int 1] (fun U => va_P (dC, dI) vwCl [] U.heap ∧ va_K (dC, dI) vwCl [] U ∧ Ev g (fun _ => False) U)) (vp_Si (fun r => r = nI mo)) 0 0 (fun _ => False) := by
  refine Met.ofW (cc := cX8_date) (maxL := 3) (ret := (some .int)) (by decide) rfl ?_
  intro p e s m args below meth c s₁ B hml hv
  obtain ⟨rfl, hP, hK, hE⟩ := hv
  have hx := B.exec
  have hb := B.bytes
  have hr := B.returns
  have hts0 := atoms_spec (ws := (.code yX8_date cX8_date 3 (some .int) :: TBL)) B.pre
  have hts := fun (w : Cond) (h : w ∈ TBL) => hts0 w (List.mem_cons_of_mem _ h)
  have hown : s.vm.findClass RX8 = some m.cls := findClass_of_methodNamed B.named
  have hlocks := B.notSynchronized
  have hN := hE.1
  have hS : va_S (fun _ => False) s.heap s.heap [] := va_S.rf
  have hP : va_P (dC, dI) vwCl [] s.heap := hP
  have hl := lv_entry ([.ref x0, .int (nI d), .int 1]) (n := 3) (Nat.le_of_ble_eq_true rfl)
  rw [lg_entry_eq]
  generalize (lg_sl ([.ref x0, .int (nI d), .int 1]) ++ List.replicate (3 - (lg_sl ([.ref x0, .int (nI d), .int 1])).length) Slot.unset).toArray = ls at hl ⊢
  have hl : lv_has ls 3 [(0, .ref x0), (1, .int (nI d)), (2, .int 1)] := hl
  have hb1 := mlN_b (1700 + k) mo
  have h1 : Fk k ≤ d := by omega
  have h2 : d < Fk (k + 1) := by
    rw [Fk_s k hk]; have q1 := Mk_le (y := 1700 + k) (a := mo + 1) (b := 13) (by omega) (by omega); rw [Mk_13, Mk_s hm1] at q1; omega
  have hd9 : d < 219145 := by have := Fk_b (k := k + 1) (by omega); omega
  refine lv_iload_n hx hb dX8_date_0 rfl (lv_at hl 1 rfl) ?_
  have hPc := hP.sub (ws' := []) [] rfl
  have hKc := hK.sub (tys' := []) [] rfl
  refine vp_callSi ((va_runSN (As := [.int (nI d)]) (rest := []) ⟨hx, hb, hml, hown, hts⟩ (c_has_in l dC dI g (d) (by omega)) ⟨va_cnB 1 hts (gwC qw_59) rfl rfl rfl (nm_19 hN) (hts (.initialized RX0) qw_3) (by decide +kernel) ⟨Nat.le_of_ble_eq_true rfl, Nat.le_of_ble_eq_true rfl⟩, (hts (.static yX0_has) qw_60), trivial⟩ ⟨fun a U g9 mk q => ⟨q.1, q.2.1, va_K.moved (u := U) (U := U.calling g9 mk a) (Vm.Alike.refl U.vm) q.2.2.1, Ev.bl q.2.2.2⟩, fun U hU hW => ⟨rfl, by rw [hU]; exact hPc, va_K.moved hW.alike hKc, hE.go hS (fun _ h => h.elim) hU hW⟩⟩ rfl rfl hl.1 rfl (lv_room (Nat.le_of_ble_eq_true rfl)) dX8_date_1 ⟨Nat.le_of_ble_eq_true rfl, Nat.le_of_ble_eq_true rfl⟩)).run (fun r1 h_r1 => ?_)
  have h_r1 : r1 = 1 := h_r1
  subst h_r1
  refine lv_if_ne (tgt := 9) hx hb dX8_date_4 (by decide) (fun c4_2 => ?_) (fun c4_2 => by exfalso; exact absurd c4_2 (by decide))
  refine lv_iload_n hx hb dX8_date_9 rfl (lv_at hl 2 rfl) ?_
  refine lv_tableIn (tgt := 45) hx hb dX8_date_10 (by decide) (by decide) rfl (by decide) ?_
  refine lv_iload_n hx hb dX8_date_45 rfl (lv_at hl 1 rfl) ?_
  have hPc := hP.sub (ws' := []) [] rfl
  have hKc := hK.sub (tys' := []) [] rfl
  refine vp_callSi ((va_runSN (As := [.int (nI d)]) (rest := []) ⟨hx, hb, hml, hown, hts⟩ (c_mof l dC dI g (d) (k) (mo) (dd) hk hm1 hm2 hd1 hd2 hd) ⟨va_cnB 1 hts (gwC qw_61) rfl rfl rfl (nm_21 hN) (hts (.initialized RX0) qw_3) (by decide +kernel) ⟨Nat.le_of_ble_eq_true rfl, Nat.le_of_ble_eq_true rfl⟩, (hts (.static yX0_monthOf) qw_62), trivial⟩ ⟨fun a U g9 mk q => ⟨q.1, q.2.1, va_K.moved (u := U) (U := U.calling g9 mk a) (Vm.Alike.refl U.vm) q.2.2.1, Ev.bl q.2.2.2⟩, fun U hU hW => ⟨rfl, by rw [hU]; exact hPc, va_K.moved hW.alike hKc, hE.go hS (fun _ h => h.elim) hU hW⟩⟩ rfl rfl hl.1 rfl (lv_room (Nat.le_of_ble_eq_true rfl)) dX8_date_46 ⟨Nat.le_of_ble_eq_true rfl, Nat.le_of_ble_eq_true rfl⟩)).run (fun r3 h_r3 => ?_)
  have h_r3 : r3 = nI (mo) := h_r3
  subst h_r3
  exact W.iret (v := (nI mo)) hx hb hr (fun t ht hW => ⟨(nI mo), rfl, (rfl), ht⟩) (fun _ h => absurd h List.not_mem_nil) dX8_date_49
set_option maxHeartbeats 4000000 in
set_option maxRecDepth 100000 in
theorem c_8date_2 (l : Launch) (dC : Nat → ClassId) (dI : Nat → Nat → Nat) (g : Gv) (x0 : Nat) (d : Nat) (k : Nat) (mo : Nat) (dd : Nat) (hk : k < 600) (hm1 : 1 ≤ mo) (hm2 : mo ≤ 12) (hd1 : 1 ≤ dd) (hd2 : dd ≤ mlN (1700 + k) mo) (hd : d = Fk k + Mk (1700 + k) mo + (dd - 1)) : Met l yX8_date (.code yX8_date cX8_date 3 (some .int) :: TBL) ({ frames := 3, cells := 0, slots := 0, locals := 120 }) (va_Pc [.ref x0, .int (nI d), .int 2] (fun U => va_P (dC, dI) vwCl [] U.heap ∧ va_K (dC, dI) vwCl [] U ∧ Ev g (fun _ => False) U)) (vp_Si (fun r => r = nI dd)) 0 0 (fun _ => False) := by
  refine Met.ofW (cc := cX8_date) (maxL := 3) (ret := (some .int)) (by decide) rfl ?_
  intro p e s m args below meth c s₁ B hml hv
  obtain ⟨rfl, hP, hK, hE⟩ := hv
  have hx := B.exec
  have hb := B.bytes
  have hr := B.returns
  have hts0 := atoms_spec (ws := (.code yX8_date cX8_date 3 (some .int) :: TBL)) B.pre
  have hts := fun (w : Cond) (h : w ∈ TBL) => hts0 w (List.mem_cons_of_mem _ h)
  have hown : s.vm.findClass RX8 = some m.cls := findClass_of_methodNamed B.named
  have hlocks := B.notSynchronized
  have hN := hE.1
  have hS : va_S (fun _ => False) s.heap s.heap [] := va_S.rf
  have hP : va_P (dC, dI) vwCl [] s.heap := hP
  have hl := lv_entry ([.ref x0, .int (nI d), .int 2]) (n := 3) (Nat.le_of_ble_eq_true rfl)
  rw [lg_entry_eq]
  generalize (lg_sl ([.ref x0, .int (nI d), .int 2]) ++ List.replicate (3 - (lg_sl ([.ref x0, .int (nI d), .int 2])).length) Slot.unset).toArray = ls at hl ⊢
  have hl : lv_has ls 3 [(0, .ref x0), (1, .int (nI d)), (2, .int 2)] := hl
  have hb1 := mlN_b (1700 + k) mo
  have h1 : Fk k ≤ d := by omega
  have h2 : d < Fk (k + 1) := by
    rw [Fk_s k hk]; have q1 := Mk_le (y := 1700 + k) (a := mo + 1) (b := 13) (by omega) (by omega); rw [Mk_13, Mk_s hm1] at q1; omega
  have hd9 : d < 219145 := by have := Fk_b (k := k + 1) (by omega); omega
  refine lv_iload_n hx hb dX8_date_0 rfl (lv_at hl 1 rfl) ?_
  have hPc := hP.sub (ws' := []) [] rfl
  have hKc := hK.sub (tys' := []) [] rfl
  refine vp_callSi ((va_runSN (As := [.int (nI d)]) (rest := []) ⟨hx, hb, hml, hown, hts⟩ (c_has_in l dC dI g (d) (by omega)) ⟨va_cnB 1 hts (gwC qw_59) rfl rfl rfl (nm_19 hN) (hts (.initialized RX0) qw_3) (by decide +kernel) ⟨Nat.le_of_ble_eq_true rfl, Nat.le_of_ble_eq_true rfl⟩, (hts (.static yX0_has) qw_60), trivial⟩ ⟨fun a U g9 mk q => ⟨q.1, q.2.1, va_K.moved (u := U) (U := U.calling g9 mk a) (Vm.Alike.refl U.vm) q.2.2.1, Ev.bl q.2.2.2⟩, fun U hU hW => ⟨rfl, by rw [hU]; exact hPc, va_K.moved hW.alike hKc, hE.go hS (fun _ h => h.elim) hU hW⟩⟩ rfl rfl hl.1 rfl (lv_room (Nat.le_of_ble_eq_true rfl)) dX8_date_1 ⟨Nat.le_of_ble_eq_true rfl, Nat.le_of_ble_eq_true rfl⟩)).run (fun r1 h_r1 => ?_)
  have h_r1 : r1 = 1 := h_r1
  subst h_r1
  refine lv_if_ne (tgt := 9) hx hb dX8_date_4 (by decide) (fun c4_2 => ?_) (fun c4_2 => by exfalso; exact absurd c4_2 (by decide))
  refine lv_iload_n hx hb dX8_date_9 rfl (lv_at hl 2 rfl) ?_
  refine lv_tableIn (tgt := 50) hx hb dX8_date_10 (by decide) (by decide) rfl (by decide) ?_
  refine lv_iload_n hx hb dX8_date_50 rfl (lv_at hl 1 rfl) ?_
  have hPc := hP.sub (ws' := []) [] rfl
  have hKc := hK.sub (tys' := []) [] rfl
  refine vp_callSi ((va_runSN (As := [.int (nI d)]) (rest := []) ⟨hx, hb, hml, hown, hts⟩ (c_dom l dC dI g (d) (k) (mo) (dd) hk hm1 hm2 hd1 hd2 hd) ⟨va_cnB 1 hts (gwC qw_63) rfl rfl rfl (nm_22 hN) (hts (.initialized RX0) qw_3) (by decide +kernel) ⟨Nat.le_of_ble_eq_true rfl, Nat.le_of_ble_eq_true rfl⟩, (hts (.static yX0_dayOfMonth) qw_64), trivial⟩ ⟨fun a U g9 mk q => ⟨q.1, q.2.1, va_K.moved (u := U) (U := U.calling g9 mk a) (Vm.Alike.refl U.vm) q.2.2.1, Ev.bl q.2.2.2⟩, fun U hU hW => ⟨rfl, by rw [hU]; exact hPc, va_K.moved hW.alike hKc, hE.go hS (fun _ h => h.elim) hU hW⟩⟩ rfl rfl hl.1 rfl (lv_room (Nat.le_of_ble_eq_true rfl)) dX8_date_51 ⟨Nat.le_of_ble_eq_true rfl, Nat.le_of_ble_eq_true rfl⟩)).run (fun r3 h_r3 => ?_)
  have h_r3 : r3 = nI (dd) := h_r3
  subst h_r3
  exact W.iret (v := (nI dd)) hx hb hr (fun t ht hW => ⟨(nI dd), rfl, (rfl), ht⟩) (fun _ h => absurd h List.not_mem_nil) dX8_date_54
set_option maxHeartbeats 4000000 in
set_option maxRecDepth 100000 in
theorem c_8date_3 (l : Launch) (dC : Nat → ClassId) (dI : Nat → Nat → Nat) (g : Gv) (x0 : Nat) (d : Nat) (k : Nat) (mo : Nat) (dd : Nat) (hk : k < 600) (hm1 : 1 ≤ mo) (hm2 : mo ≤ 12) (hd1 : 1 ≤ dd) (hd2 : dd ≤ mlN (1700 + k) mo) (hd : d = Fk k + Mk (1700 + k) mo + (dd - 1)) : Met l yX8_date (.code yX8_date cX8_date 3 (some .int) :: TBL) ({ frames := 3, cells := 0, slots := 0, locals := 120 }) (va_Pc [.ref x0, .int (nI d), .int 3] (fun U => va_P (dC, dI) vwCl [] U.heap ∧ va_K (dC, dI) vwCl [] U ∧ Ev g (fun _ => False) U)) (vp_Si (fun r => r = nI ((d + 4) % 7))) 0 0 (fun _ => False) := by
  refine Met.ofW (cc := cX8_date) (maxL := 3) (ret := (some .int)) (by decide) rfl ?_
  intro p e s m args below meth c s₁ B hml hv
  obtain ⟨rfl, hP, hK, hE⟩ := hv
  have hx := B.exec
  have hb := B.bytes
  have hr := B.returns
  have hts0 := atoms_spec (ws := (.code yX8_date cX8_date 3 (some .int) :: TBL)) B.pre
  have hts := fun (w : Cond) (h : w ∈ TBL) => hts0 w (List.mem_cons_of_mem _ h)
  have hown : s.vm.findClass RX8 = some m.cls := findClass_of_methodNamed B.named
  have hlocks := B.notSynchronized
  have hN := hE.1
  have hS : va_S (fun _ => False) s.heap s.heap [] := va_S.rf
  have hP : va_P (dC, dI) vwCl [] s.heap := hP
  have hl := lv_entry ([.ref x0, .int (nI d), .int 3]) (n := 3) (Nat.le_of_ble_eq_true rfl)
  rw [lg_entry_eq]
  generalize (lg_sl ([.ref x0, .int (nI d), .int 3]) ++ List.replicate (3 - (lg_sl ([.ref x0, .int (nI d), .int 3])).length) Slot.unset).toArray = ls at hl ⊢
  have hl : lv_has ls 3 [(0, .ref x0), (1, .int (nI d)), (2, .int 3)] := hl
  have hb1 := mlN_b (1700 + k) mo
  have h1 : Fk k ≤ d := by omega
  have h2 : d < Fk (k + 1) := by
    rw [Fk_s k hk]; have q1 := Mk_le (y := 1700 + k) (a := mo + 1) (b := 13) (by omega) (by omega); rw [Mk_13, Mk_s hm1] at q1; omega
  have hd9 : d < 219145 := by have := Fk_b (k := k + 1) (by omega); omega
  refine lv_iload_n hx hb dX8_date_0 rfl (lv_at hl 1 rfl) ?_
  have hPc := hP.sub (ws' := []) [] rfl
  have hKc := hK.sub (tys' := []) [] rfl
  refine vp_callSi ((va_runSN (As := [.int (nI d)]) (rest := []) ⟨hx, hb, hml, hown, hts⟩ (c_has_in l dC dI g (d) (by omega)) ⟨va_cnB 1 hts (gwC qw_59) rfl rfl rfl (nm_19 hN) (hts (.initialized RX0) qw_3) (by decide +kernel) ⟨Nat.le_of_ble_eq_true rfl, Nat.le_of_ble_eq_true rfl⟩, (hts (.static yX0_has) qw_60), trivial⟩ ⟨fun a U g9 mk q => ⟨q.1, q.2.1, va_K.moved (u := U) (U := U.calling g9 mk a) (Vm.Alike.refl U.vm) q.2.2.1, Ev.bl q.2.2.2⟩, fun U hU hW => ⟨rfl, by rw [hU]; exact hPc, va_K.moved hW.alike hKc, hE.go hS (fun _ h => h.elim) hU hW⟩⟩ rfl rfl hl.1 rfl (lv_room (Nat.le_of_ble_eq_true rfl)) dX8_date_1 ⟨Nat.le_of_ble_eq_true rfl, Nat.le_of_ble_eq_true rfl⟩)).run (fun r1 h_r1 => ?_)
  have h_r1 : r1 = 1 := h_r1
  subst h_r1
  refine lv_if_ne (tgt := 9) hx hb dX8_date_4 (by decide) (fun c4_2 => ?_) (fun c4_2 => by exfalso; exact absurd c4_2 (by decide))
  refine lv_iload_n hx hb dX8_date_9 rfl (lv_at hl 2 rfl) ?_
  refine lv_tableIn (tgt := 55) hx hb dX8_date_10 (by decide) (by decide) rfl (by decide) ?_
  refine lv_iload_n hx hb dX8_date_55 rfl (lv_at hl 1 rfl) ?_
  have hPc := hP.sub (ws' := []) [] rfl
  have hKc := hK.sub (tys' := []) [] rfl
  refine vp_callSi ((va_runSN (As := [.int (nI d)]) (rest := []) ⟨hx, hb, hml, hown, hts⟩ (c_dow l dC dI g (d) hd9) ⟨va_cnB 1 hts (gwC qw_65) rfl rfl rfl (nm_23 hN) (hts (.initialized RX0) qw_3) (by decide +kernel) ⟨Nat.le_of_ble_eq_true rfl, Nat.le_of_ble_eq_true rfl⟩, (hts (.static yX0_dayOfWeek) qw_66), trivial⟩ ⟨fun a U g9 mk q => ⟨q.1, q.2.1, va_K.moved (u := U) (U := U.calling g9 mk a) (Vm.Alike.refl U.vm) q.2.2.1, Ev.bl q.2.2.2⟩, fun U hU hW => ⟨rfl, by rw [hU]; exact hPc, va_K.moved hW.alike hKc, hE.go hS (fun _ h => h.elim) hU hW⟩⟩ rfl rfl hl.1 rfl (lv_room (Nat.le_of_ble_eq_true rfl)) dX8_date_56 ⟨Nat.le_of_ble_eq_true rfl, Nat.le_of_ble_eq_true rfl⟩)).run (fun r3 h_r3 => ?_)
  have h_r3 : r3 = nI ((d + 4) % 7) := h_r3
  subst h_r3
  exact W.iret (v := (nI ((d + 4) % 7))) hx hb hr (fun t ht hW => ⟨(nI ((d + 4) % 7)), rfl, (rfl), ht⟩) (fun _ h => absurd h List.not_mem_nil) dX8_date_59
set_option maxHeartbeats 4000000 in
set_option maxRecDepth 100000 in
theorem c_dl_in (l : Launch) (dC : Nat → ClassId) (dI : Nat → Nat → Nat) (g : Gv) (d : Nat) (hd : d ≤ 219145) : Met l yX8_isDayOrLate (.code yX8_isDayOrLate cX8_isDayOrLate 1 (some .boolean) :: TBL) ({ frames := 0, cells := 0, slots := 0, locals := 0 }) (va_Pc [.int (nI d)] (fun U => va_P (dC, dI) vwCl [] U.heap ∧ va_K (dC, dI) vwCl [] U ∧ Ev g (fun _ => False) U)) (vp_Si (fun r => r = 1)) 0 0 (fun _ => False) := by
  refine Met.ofW (cc := cX8_isDayOrLate) (maxL := 1) (ret := (some .boolean)) (by decide) rfl ?_
  intro p e s m args below meth c s₁ B hml hv
  obtain ⟨rfl, hP, hK, hE⟩ := hv
  have hx := B.exec
  have hb := B.bytes
  have hr := B.returns
  have hts0 := atoms_spec (ws := (.code yX8_isDayOrLate cX8_isDayOrLate 1 (some .boolean) :: TBL)) B.pre
  have hts := fun (w : Cond) (h : w ∈ TBL) => hts0 w (List.mem_cons_of_mem _ h)
  have hown : s.vm.findClass RX8 = some m.cls := findClass_of_methodNamed B.named
  have hlocks := B.notSynchronized
  have hN := hE.1
  have hS : va_S (fun _ => False) s.heap s.heap [] := va_S.rf
  have hP : va_P (dC, dI) vwCl [] s.heap := hP
  have hl := lv_entry ([.int (nI d)]) (n := 1) (Nat.le_of_ble_eq_true rfl)
  rw [lg_entry_eq]
  generalize (lg_sl ([.int (nI d)]) ++ List.replicate (1 - (lg_sl ([.int (nI d)])).length) Slot.unset).toArray = ls at hl ⊢
  have hl : lv_has ls 1 [(0, .int (nI d))] := hl
  refine lv_iload_n hx hb dX8_isDayOrLate_0 rfl (lv_at hl 0 rfl) ?_
  refine lv_if_lt (tgt := 15) hx hb dX8_isDayOrLate_1 (by decide) (fun c1_1 => by exfalso; have c1_1 : ((d : Nat) : Int) < 0 := (cv_lt (nI_toInt (by omega)) (by decide)).mp c1_1; omega) (fun c1_1 => ?_)
  have c1_1 : ¬ (((d : Nat) : Int) < 0) := mt (cv_lt (nI_toInt (by omega)) (by decide)).mpr c1_1
  refine lv_iload_n hx hb dX8_isDayOrLate_4 rfl (lv_at hl 0 rfl) ?_
  refine lv_ldcw (v := 219145) hx hb hown (hts (.constant RX8 279 (219145)) qw_67) dX8_isDayOrLate_5 ?_
  refine lv_icmp_gt (tgt := 15) hx hb dX8_isDayOrLate_8 (by decide) (fun c8_2 => by exfalso; have c8_2 : 219145 < ((d : Nat) : Int) := (cv_lt (by decide) (nI_toInt (by omega))).mp c8_2; omega) (fun c8_2 => ?_)
  have c8_2 : ¬ (219145 < ((d : Nat) : Int)) := mt (cv_lt (by decide) (nI_toInt (by omega))).mpr c8_2
  refine lv_iconst (v := 1) hx hb dX8_isDayOrLate_11 (by decide) ?_
  refine lv_goto (tgt := 16) hx hb dX8_isDayOrLate_12 (by decide) ?_
  exact W.zret (v := 1) hx hb hr rfl (fun t ht hW => ⟨1, rfl, (rfl), ht⟩) (fun _ h => absurd h List.not_mem_nil) dX8_isDayOrLate_16
set_option maxHeartbeats 4000000 in
set_option maxRecDepth 100000 in
theorem c_dl_out (l : Launch) (dC : Nat → ClassId) (dI : Nat → Nat → Nat) (g : Gv) (d : Int32) (hd : ¬ (0 ≤ d.toInt ∧ d.toInt ≤ 219145)) : Met l yX8_isDayOrLate (.code yX8_isDayOrLate cX8_isDayOrLate 1 (some .boolean) :: TBL) ({ frames := 0, cells := 0, slots := 0, locals := 0 }) (va_Pc [.int d] (fun U => va_P (dC, dI) vwCl [] U.heap ∧ va_K (dC, dI) vwCl [] U ∧ Ev g (fun _ => False) U)) (vp_Si (fun r => r = 0)) 0 0 (fun _ => False) := by
  refine Met.ofW (cc := cX8_isDayOrLate) (maxL := 1) (ret := (some .boolean)) (by decide) rfl ?_
  intro p e s m args below meth c s₁ B hml hv
  obtain ⟨rfl, hP, hK, hE⟩ := hv
  have hx := B.exec
  have hb := B.bytes
  have hr := B.returns
  have hts0 := atoms_spec (ws := (.code yX8_isDayOrLate cX8_isDayOrLate 1 (some .boolean) :: TBL)) B.pre
  have hts := fun (w : Cond) (h : w ∈ TBL) => hts0 w (List.mem_cons_of_mem _ h)
  have hown : s.vm.findClass RX8 = some m.cls := findClass_of_methodNamed B.named
  have hlocks := B.notSynchronized
  have hN := hE.1
  have hS : va_S (fun _ => False) s.heap s.heap [] := va_S.rf
  have hP : va_P (dC, dI) vwCl [] s.heap := hP
  have hl := lv_entry ([.int d]) (n := 1) (Nat.le_of_ble_eq_true rfl)
  rw [lg_entry_eq]
  generalize (lg_sl ([.int d]) ++ List.replicate (1 - (lg_sl ([.int d])).length) Slot.unset).toArray = ls at hl ⊢
  have hl : lv_has ls 1 [(0, .int d)] := hl
  refine lv_iload_n hx hb dX8_isDayOrLate_0 rfl (lv_at hl 0 rfl) ?_
  refine lv_if_lt (tgt := 15) hx hb dX8_isDayOrLate_1 (by decide) (fun c1_1 => ?_) (fun c1_1 => ?_)
  · have c1_1 : d.toInt < 0 := (cv_lt rfl (by decide)).mp c1_1
    refine lv_iconst (v := 0) hx hb dX8_isDayOrLate_15 (by decide) ?_
    exact W.zret (v := 0) hx hb hr rfl (fun t ht hW => ⟨0, rfl, (rfl), ht⟩) (fun _ h => absurd h List.not_mem_nil) dX8_isDayOrLate_16
  · have c1_1 : ¬ (d.toInt < 0) := mt (cv_lt rfl (by decide)).mpr c1_1
    refine lv_iload_n hx hb dX8_isDayOrLate_4 rfl (lv_at hl 0 rfl) ?_
    refine lv_ldcw (v := 219145) hx hb hown (hts (.constant RX8 279 (219145)) qw_67) dX8_isDayOrLate_5 ?_
    refine lv_icmp_gt (tgt := 15) hx hb dX8_isDayOrLate_8 (by decide) (fun c8_2 => ?_) (fun c8_2 => by exfalso; have c8_2 : ¬ (219145 < d.toInt) := mt (cv_lt (by decide) rfl).mpr c8_2; omega)
    have c8_2 : 219145 < d.toInt := (cv_lt (by decide) rfl).mp c8_2
    refine lv_iconst (v := 0) hx hb dX8_isDayOrLate_15 (by decide) ?_
    exact W.zret (v := 0) hx hb hr rfl (fun t ht hW => ⟨0, rfl, (rfl), ht⟩) (fun _ h => absurd h List.not_mem_nil) dX8_isDayOrLate_16
set_option maxHeartbeats 4000000 in
set_option maxRecDepth 100000 in
theorem c_ar_in (l : Launch) (dC : Nat → ClassId) (dI : Nat → Nat → Nat) (g : Gv) (d : Nat) (hd : d ≤ 15) : Met l yX8_areReaders (.code yX8_areReaders cX8_areReaders 1 (some .boolean) :: TBL) ({ frames := 0, cells := 0, slots := 0, locals := 0 }) (va_Pc [.int (nI d)] (fun U => va_P (dC, dI) vwCl [] U.heap ∧ va_K (dC, dI) vwCl [] U ∧ Ev g (fun _ => False) U)) (vp_Si (fun r => r = 1)) 0 0 (fun _ => False) := by
  refine Met.ofW (cc := cX8_areReaders) (maxL := 1) (ret := (some .boolean)) (by decide) rfl ?_
  intro p e s m args below meth c s₁ B hml hv
  obtain ⟨rfl, hP, hK, hE⟩ := hv
  have hx := B.exec
  have hb := B.bytes
  have hr := B.returns
  have hts0 := atoms_spec (ws := (.code yX8_areReaders cX8_areReaders 1 (some .boolean) :: TBL)) B.pre
  have hts := fun (w : Cond) (h : w ∈ TBL) => hts0 w (List.mem_cons_of_mem _ h)
  have hown : s.vm.findClass RX8 = some m.cls := findClass_of_methodNamed B.named
  have hlocks := B.notSynchronized
  have hN := hE.1
  have hS : va_S (fun _ => False) s.heap s.heap [] := va_S.rf
  have hP : va_P (dC, dI) vwCl [] s.heap := hP
  have hl := lv_entry ([.int (nI d)]) (n := 1) (Nat.le_of_ble_eq_true rfl)
  rw [lg_entry_eq]
  generalize (lg_sl ([.int (nI d)]) ++ List.replicate (1 - (lg_sl ([.int (nI d)])).length) Slot.unset).toArray = ls at hl ⊢
  have hl : lv_has ls 1 [(0, .int (nI d))] := hl
  refine lv_iload_n hx hb dX8_areReaders_0 rfl (lv_at hl 0 rfl) ?_
  refine lv_if_lt (tgt := 14) hx hb dX8_areReaders_1 (by decide) (fun c1_1 => by exfalso; have c1_1 : ((d : Nat) : Int) < 0 := (cv_lt (nI_toInt (by omega)) (by decide)).mp c1_1; omega) (fun c1_1 => ?_)
  have c1_1 : ¬ (((d : Nat) : Int) < 0) := mt (cv_lt (nI_toInt (by omega)) (by decide)).mpr c1_1
  refine lv_iload_n hx hb dX8_areReaders_4 rfl (lv_at hl 0 rfl) ?_
  refine lv_bipush (v := 15) hx hb dX8_areReaders_5 (by decide) ?_
  refine lv_icmp_gt (tgt := 14) hx hb dX8_areReaders_7 (by decide) (fun c7_2 => by exfalso; have c7_2 : 15 < ((d : Nat) : Int) := (cv_lt (by decide) (nI_toInt (by omega))).mp c7_2; omega) (fun c7_2 => ?_)
  have c7_2 : ¬ (15 < ((d : Nat) : Int)) := mt (cv_lt (by decide) (nI_toInt (by omega))).mpr c7_2
  refine lv_iconst (v := 1) hx hb dX8_areReaders_10 (by decide) ?_
  refine lv_goto (tgt := 15) hx hb dX8_areReaders_11 (by decide) ?_
  exact W.zret (v := 1) hx hb hr rfl (fun t ht hW => ⟨1, rfl, (rfl), ht⟩) (fun _ h => absurd h List.not_mem_nil) dX8_areReaders_15
set_option maxHeartbeats 4000000 in
set_option maxRecDepth 100000 in
theorem c_ar_out (l : Launch) (dC : Nat → ClassId) (dI : Nat → Nat → Nat) (g : Gv) (d : Int32) (hd : ¬ (0 ≤ d.toInt ∧ d.toInt ≤ 15)) : Met l yX8_areReaders (.code yX8_areReaders cX8_areReaders 1 (some .boolean) :: TBL) ({ frames := 0, cells := 0, slots := 0, locals := 0 }) (va_Pc [.int d] (fun U => va_P (dC, dI) vwCl [] U.heap ∧ va_K (dC, dI) vwCl [] U ∧ Ev g (fun _ => False) U)) (vp_Si (fun r => r = 0)) 0 0 (fun _ => False) := by
  refine Met.ofW (cc := cX8_areReaders) (maxL := 1) (ret := (some .boolean)) (by decide) rfl ?_
  intro p e s m args below meth c s₁ B hml hv
  obtain ⟨rfl, hP, hK, hE⟩ := hv
  have hx := B.exec
  have hb := B.bytes
  have hr := B.returns
  have hts0 := atoms_spec (ws := (.code yX8_areReaders cX8_areReaders 1 (some .boolean) :: TBL)) B.pre
  have hts := fun (w : Cond) (h : w ∈ TBL) => hts0 w (List.mem_cons_of_mem _ h)
  have hown : s.vm.findClass RX8 = some m.cls := findClass_of_methodNamed B.named
  have hlocks := B.notSynchronized
  have hN := hE.1
  have hS : va_S (fun _ => False) s.heap s.heap [] := va_S.rf
  have hP : va_P (dC, dI) vwCl [] s.heap := hP
  have hl := lv_entry ([.int d]) (n := 1) (Nat.le_of_ble_eq_true rfl)
  rw [lg_entry_eq]
  generalize (lg_sl ([.int d]) ++ List.replicate (1 - (lg_sl ([.int d])).length) Slot.unset).toArray = ls at hl ⊢
  have hl : lv_has ls 1 [(0, .int d)] := hl
  refine lv_iload_n hx hb dX8_areReaders_0 rfl (lv_at hl 0 rfl) ?_
  refine lv_if_lt (tgt := 14) hx hb dX8_areReaders_1 (by decide) (fun c1_1 => ?_) (fun c1_1 => ?_)
  · have c1_1 : d.toInt < 0 := (cv_lt rfl (by decide)).mp c1_1
    refine lv_iconst (v := 0) hx hb dX8_areReaders_14 (by decide) ?_
    exact W.zret (v := 0) hx hb hr rfl (fun t ht hW => ⟨0, rfl, (rfl), ht⟩) (fun _ h => absurd h List.not_mem_nil) dX8_areReaders_15
  · have c1_1 : ¬ (d.toInt < 0) := mt (cv_lt rfl (by decide)).mpr c1_1
    refine lv_iload_n hx hb dX8_areReaders_4 rfl (lv_at hl 0 rfl) ?_
    refine lv_bipush (v := 15) hx hb dX8_areReaders_5 (by decide) ?_
    refine lv_icmp_gt (tgt := 14) hx hb dX8_areReaders_7 (by decide) (fun c7_2 => ?_) (fun c7_2 => by exfalso; have c7_2 : ¬ (15 < d.toInt) := mt (cv_lt (by decide) rfl).mpr c7_2; omega)
    have c7_2 : 15 < d.toInt := (cv_lt (by decide) rfl).mp c7_2
    refine lv_iconst (v := 0) hx hb dX8_areReaders_14 (by decide) ?_
    exact W.zret (v := 0) hx hb hr rfl (fun t ht hW => ⟨0, rfl, (rfl), ht⟩) (fun _ h => absurd h List.not_mem_nil) dX8_areReaders_15
set_option maxHeartbeats 4000000 in
set_option maxRecDepth 100000 in
theorem c_8plus_O (l : Launch) (dC : Nat → ClassId) (dI : Nat → Nat → Nat) (g : Gv) (x0 : Nat) (d : Int32) (yn : Int32) (hd : ¬ (0 ≤ d.toInt ∧ d.toInt ≤ 219145)) : Met l yX8_plus (.code yX8_plus cX8_plus 3 (some .int) :: TBL) ({ frames := 4, cells := 0, slots := 0, locals := 160 }) (va_Pc [.ref x0, .int d, .int yn] (fun U => va_P (dC, dI) vwCl [] U.heap ∧ va_K (dC, dI) vwCl [] U ∧ Ev g (fun _ => False) U)) (vp_Si (fun r => r = -1)) 0 0 (fun _ => False) := by
  refine Met.ofW (cc := cX8_plus) (maxL := 3) (ret := (some .int)) (by decide) rfl ?_
  intro p e s m args below meth c s₁ B hml hv
  obtain ⟨rfl, hP, hK, hE⟩ := hv
  have hx := B.exec
  have hb := B.bytes
  have hr := B.returns
  have hts0 := atoms_spec (ws := (.code yX8_plus cX8_plus 3 (some .int) :: TBL)) B.pre
  have hts := fun (w : Cond) (h : w ∈ TBL) => hts0 w (List.mem_cons_of_mem _ h)
  have hown : s.vm.findClass RX8 = some m.cls := findClass_of_methodNamed B.named
  have hlocks := B.notSynchronized
  have hN := hE.1
  have hS : va_S (fun _ => False) s.heap s.heap [] := va_S.rf
  have hP : va_P (dC, dI) vwCl [] s.heap := hP
  have hl := lv_entry ([.ref x0, .int d, .int yn]) (n := 3) (Nat.le_of_ble_eq_true rfl)
  rw [lg_entry_eq]
  generalize (lg_sl ([.ref x0, .int d, .int yn]) ++ List.replicate (3 - (lg_sl ([.ref x0, .int d, .int yn])).length) Slot.unset).toArray = ls at hl ⊢
  have hl : lv_has ls 3 [(0, .ref x0), (1, .int d), (2, .int yn)] := hl
  refine lv_iload_n hx hb dX8_plus_0 rfl (lv_at hl 1 rfl) ?_
  have hPc := hP.sub (ws' := []) [] rfl
  have hKc := hK.sub (tys' := []) [] rfl
  refine vp_callSi ((va_runS (As := [.int d]) (rest := []) ⟨hx, hb, hml, hown, hts⟩ (c_dl_out l dC dI g (d) hd) (va_cwS 1 hts (gwS qw_70 qw_71 qw_69 qw_68) rfl rfl rfl (by decide +kernel) ⟨Nat.le_of_ble_eq_true rfl, Nat.le_of_ble_eq_true rfl⟩) ⟨fun a U g9 mk q => ⟨q.1, q.2.1, va_K.moved (u := U) (U := U.calling g9 mk a) (Vm.Alike.refl U.vm) q.2.2.1, Ev.bl q.2.2.2⟩, fun U hU hW => ⟨rfl, by rw [hU]; exact hPc, va_K.moved hW.alike hKc, hE.go hS (fun _ h => h.elim) hU hW⟩⟩ rfl rfl hl.1 rfl (lv_room (Nat.le_of_ble_eq_true rfl)) dX8_plus_1 ⟨Nat.le_of_ble_eq_true rfl, Nat.le_of_ble_eq_true rfl⟩)).run (fun r1 h_r1 => ?_)
  have h_r1 : r1 = 0 := h_r1
  subst h_r1
  refine lv_if_eq (tgt := 21) hx hb dX8_plus_4 (by decide) (fun c4_2 => ?_) (fun c4_2 => by exfalso; exact absurd c4_2 (by decide))
  refine lv_iconst (v := (-1)) hx hb dX8_plus_21 (by decide) ?_
  exact W.iret (v := (-1)) hx hb hr (fun t ht hW => ⟨(-1), rfl, (rfl), ht⟩) (fun _ h => absurd h List.not_mem_nil) dX8_plus_22
set_option maxHeartbeats 4000000 in
set_option maxRecDepth 100000 in
theorem c_8plus_W (l : Launch) (dC : Nat → ClassId) (dI : Nat → Nat → Nat) (g : Gv) (x0 : Nat) (d : Nat) (yn : Int32) (hd : d ≤ 219145) (hw : ¬ (-600 ≤ yn.toInt ∧ yn.toInt ≤ 600)) : Met l yX8_plus (.code yX8_plus cX8_plus 3 (some .int) :: TBL) ({ frames := 4, cells := 0, slots := 0, locals := 160 }) (va_Pc [.ref x0, .int (nI d), .int yn] (fun U => va_P (dC, dI) vwCl [] U.heap ∧ va_K (dC, dI) vwCl [] U ∧ Ev g (fun _ => False) U)) (vp_Si (fun r => r = -1)) 0 0 (fun _ => False) := by
  refine Met.ofW (cc := cX8_plus) (maxL := 3) (ret := (some .int)) (by decide) rfl ?_
  intro p e s m args below meth c s₁ B hml hv
  obtain ⟨rfl, hP, hK, hE⟩ := hv
  have hx := B.exec
  have hb := B.bytes
  have hr := B.returns
  have hts0 := atoms_spec (ws := (.code yX8_plus cX8_plus 3 (some .int) :: TBL)) B.pre
  have hts := fun (w : Cond) (h : w ∈ TBL) => hts0 w (List.mem_cons_of_mem _ h)
  have hown : s.vm.findClass RX8 = some m.cls := findClass_of_methodNamed B.named
  have hlocks := B.notSynchronized
  have hN := hE.1
  have hS : va_S (fun _ => False) s.heap s.heap [] := va_S.rf
  have hP : va_P (dC, dI) vwCl [] s.heap := hP
  have hl := lv_entry ([.ref x0, .int (nI d), .int yn]) (n := 3) (Nat.le_of_ble_eq_true rfl)
  rw [lg_entry_eq]
  generalize (lg_sl ([.ref x0, .int (nI d), .int yn]) ++ List.replicate (3 - (lg_sl ([.ref x0, .int (nI d), .int yn])).length) Slot.unset).toArray = ls at hl ⊢
  have hl : lv_has ls 3 [(0, .ref x0), (1, .int (nI d)), (2, .int yn)] := hl
  refine lv_iload_n hx hb dX8_plus_0 rfl (lv_at hl 1 rfl) ?_
  have hPc := hP.sub (ws' := []) [] rfl
  have hKc := hK.sub (tys' := []) [] rfl
  refine vp_callSi ((va_runS (As := [.int (nI d)]) (rest := []) ⟨hx, hb, hml, hown, hts⟩ (c_dl_in l dC dI g (d) (by omega)) (va_cwS 1 hts (gwS qw_70 qw_71 qw_69 qw_68) rfl rfl rfl (by decide +kernel) ⟨Nat.le_of_ble_eq_true rfl, Nat.le_of_ble_eq_true rfl⟩) ⟨fun a U g9 mk q => ⟨q.1, q.2.1, va_K.moved (u := U) (U := U.calling g9 mk a) (Vm.Alike.refl U.vm) q.2.2.1, Ev.bl q.2.2.2⟩, fun U hU hW => ⟨rfl, by rw [hU]; exact hPc, va_K.moved hW.alike hKc, hE.go hS (fun _ h => h.elim) hU hW⟩⟩ rfl rfl hl.1 rfl (lv_room (Nat.le_of_ble_eq_true rfl)) dX8_plus_1 ⟨Nat.le_of_ble_eq_true rfl, Nat.le_of_ble_eq_true rfl⟩)).run (fun r1 h_r1 => ?_)
  have h_r1 : r1 = 1 := h_r1
  subst h_r1
  refine lv_if_eq (tgt := 21) hx hb dX8_plus_4 (by decide) (fun c4_2 => by exfalso; exact absurd c4_2 (by decide)) (fun c4_2 => ?_)
  refine lv_iload_n hx hb dX8_plus_7 rfl (lv_at hl 2 rfl) ?_
  refine lv_sipush (v := (-600)) hx hb dX8_plus_8 (by decide) ?_
  refine lv_icmp_lt (tgt := 21) hx hb dX8_plus_11 (by decide) (fun c11_3 => ?_) (fun c11_3 => ?_)
  · have c11_3 : yn.toInt < (-600) := (cv_lt rfl (by decide)).mp c11_3
    refine lv_iconst (v := (-1)) hx hb dX8_plus_21 (by decide) ?_
    exact W.iret (v := (-1)) hx hb hr (fun t ht hW => ⟨(-1), rfl, (rfl), ht⟩) (fun _ h => absurd h List.not_mem_nil) dX8_plus_22
  · have c11_3 : ¬ (yn.toInt < (-600)) := mt (cv_lt rfl (by decide)).mpr c11_3
    refine lv_iload_n hx hb dX8_plus_14 rfl (lv_at hl 2 rfl) ?_
    refine lv_sipush (v := 600) hx hb dX8_plus_15 (by decide) ?_
    refine lv_icmp_le (tgt := 23) hx hb dX8_plus_18 (by decide) (fun c18_4 => by exfalso; have c18_4 : yn.toInt ≤ 600 := (cv_le rfl (by decide)).mp c18_4; omega) (fun c18_4 => ?_)
    have c18_4 : ¬ (yn.toInt ≤ 600) := mt (cv_le rfl (by decide)).mpr c18_4
    refine lv_iconst (v := (-1)) hx hb dX8_plus_21 (by decide) ?_
    exact W.iret (v := (-1)) hx hb hr (fun t ht hW => ⟨(-1), rfl, (rfl), ht⟩) (fun _ h => absurd h List.not_mem_nil) dX8_plus_22
set_option maxHeartbeats 4000000 in
set_option maxRecDepth 100000 in
theorem c_8plus_L (l : Launch) (dC : Nat → ClassId) (dI : Nat → Nat → Nat) (g : Gv) (x0 : Nat) (yn : Int32) (hn : -600 ≤ yn.toInt ∧ yn.toInt ≤ 600) : Met l yX8_plus (.code yX8_plus cX8_plus 3 (some .int) :: TBL) ({ frames := 4, cells := 0, slots := 0, locals := 160 }) (va_Pc [.ref x0, .int (nI 219145), .int yn] (fun U => va_P (dC, dI) vwCl [] U.heap ∧ va_K (dC, dI) vwCl [] U ∧ Ev g (fun _ => False) U)) (vp_Si (fun r => r = nI 219145)) 0 0 (fun _ => False) := by
  refine Met.ofW (cc := cX8_plus) (maxL := 3) (ret := (some .int)) (by decide) rfl ?_
  intro p e s m args below meth c s₁ B hml hv
  obtain ⟨rfl, hP, hK, hE⟩ := hv
  have hx := B.exec
  have hb := B.bytes
  have hr := B.returns
  have hts0 := atoms_spec (ws := (.code yX8_plus cX8_plus 3 (some .int) :: TBL)) B.pre
  have hts := fun (w : Cond) (h : w ∈ TBL) => hts0 w (List.mem_cons_of_mem _ h)
  have hown : s.vm.findClass RX8 = some m.cls := findClass_of_methodNamed B.named
  have hlocks := B.notSynchronized
  have hN := hE.1
  have hS : va_S (fun _ => False) s.heap s.heap [] := va_S.rf
  have hP : va_P (dC, dI) vwCl [] s.heap := hP
  have hl := lv_entry ([.ref x0, .int (nI 219145), .int yn]) (n := 3) (Nat.le_of_ble_eq_true rfl)
  rw [lg_entry_eq]
  generalize (lg_sl ([.ref x0, .int (nI 219145), .int yn]) ++ List.replicate (3 - (lg_sl ([.ref x0, .int (nI 219145), .int yn])).length) Slot.unset).toArray = ls at hl ⊢
  have hl : lv_has ls 3 [(0, .ref x0), (1, .int (nI 219145)), (2, .int yn)] := hl
  refine lv_iload_n hx hb dX8_plus_0 rfl (lv_at hl 1 rfl) ?_
  have hPc := hP.sub (ws' := []) [] rfl
  have hKc := hK.sub (tys' := []) [] rfl
  refine vp_callSi ((va_runS (As := [.int (nI 219145)]) (rest := []) ⟨hx, hb, hml, hown, hts⟩ (c_dl_in l dC dI g (219145) (by omega)) (va_cwS 1 hts (gwS qw_70 qw_71 qw_69 qw_68) rfl rfl rfl (by decide +kernel) ⟨Nat.le_of_ble_eq_true rfl, Nat.le_of_ble_eq_true rfl⟩) ⟨fun a U g9 mk q => ⟨q.1, q.2.1, va_K.moved (u := U) (U := U.calling g9 mk a) (Vm.Alike.refl U.vm) q.2.2.1, Ev.bl q.2.2.2⟩, fun U hU hW => ⟨rfl, by rw [hU]; exact hPc, va_K.moved hW.alike hKc, hE.go hS (fun _ h => h.elim) hU hW⟩⟩ rfl rfl hl.1 rfl (lv_room (Nat.le_of_ble_eq_true rfl)) dX8_plus_1 ⟨Nat.le_of_ble_eq_true rfl, Nat.le_of_ble_eq_true rfl⟩)).run (fun r1 h_r1 => ?_)
  have h_r1 : r1 = 1 := h_r1
  subst h_r1
  refine lv_if_eq (tgt := 21) hx hb dX8_plus_4 (by decide) (fun c4_2 => by exfalso; exact absurd c4_2 (by decide)) (fun c4_2 => ?_)
  refine lv_iload_n hx hb dX8_plus_7 rfl (lv_at hl 2 rfl) ?_
  refine lv_sipush (v := (-600)) hx hb dX8_plus_8 (by decide) ?_
  refine lv_icmp_lt (tgt := 21) hx hb dX8_plus_11 (by decide) (fun c11_3 => by exfalso; have c11_3 : yn.toInt < (-600) := (cv_lt rfl (by decide)).mp c11_3; omega) (fun c11_3 => ?_)
  have c11_3 : ¬ (yn.toInt < (-600)) := mt (cv_lt rfl (by decide)).mpr c11_3
  refine lv_iload_n hx hb dX8_plus_14 rfl (lv_at hl 2 rfl) ?_
  refine lv_sipush (v := 600) hx hb dX8_plus_15 (by decide) ?_
  refine lv_icmp_le (tgt := 23) hx hb dX8_plus_18 (by decide) (fun c18_4 => ?_) (fun c18_4 => by exfalso; have c18_4 : ¬ (yn.toInt ≤ 600) := mt (cv_le rfl (by decide)).mpr c18_4; omega)
  have c18_4 : yn.toInt ≤ 600 := (cv_le rfl (by decide)).mp c18_4
  refine lv_iload_n hx hb dX8_plus_23 rfl (lv_at hl 1 rfl) ?_
  refine lv_iload_n hx hb dX8_plus_24 rfl (lv_at hl 2 rfl) ?_
  have hPc := hP.sub (ws' := []) [] rfl
  have hKc := hK.sub (tys' := []) [] rfl
  refine vp_callSi ((va_runSN (As := [.int (nI 219145), .int yn]) (rest := []) ⟨hx, hb, hml, hown, hts⟩ (c_ys_L l dC dI g (yn) ) ⟨va_cnB 2 hts (gwC qw_72) rfl rfl rfl (nm_24 hN) (hts (.initialized RX0) qw_3) (by decide +kernel) ⟨Nat.le_of_ble_eq_true rfl, Nat.le_of_ble_eq_true rfl⟩, (hts (.static yX0_yearsOn) qw_73), trivial⟩ ⟨fun a U g9 mk q => ⟨q.1, q.2.1, va_K.moved (u := U) (U := U.calling g9 mk a) (Vm.Alike.refl U.vm) q.2.2.1, Ev.bl q.2.2.2⟩, fun U hU hW => ⟨rfl, by rw [hU]; exact hPc, va_K.moved hW.alike hKc, hE.go hS (fun _ h => h.elim) hU hW⟩⟩ rfl rfl hl.1 rfl (lv_room (Nat.le_of_ble_eq_true rfl)) dX8_plus_25 ⟨Nat.le_of_ble_eq_true rfl, Nat.le_of_ble_eq_true rfl⟩)).run (fun r5 h_r5 => ?_)
  have h_r5 : r5 = nI (219145) := h_r5
  subst h_r5
  exact W.iret (v := (nI 219145)) hx hb hr (fun t ht hW => ⟨(nI 219145), rfl, (rfl), ht⟩) (fun _ h => absurd h List.not_mem_nil) dX8_plus_28
set_option maxHeartbeats 4000000 in
set_option maxRecDepth 100000 in
theorem c_8plus_A (l : Launch) (dC : Nat → ClassId) (dI : Nat → Nat → Nat) (g : Gv) (x0 : Nat) (d : Nat) (k : Nat) (mo : Nat) (dd : Nat) (yn : Int32) (hk : k < 600) (hm1 : 1 ≤ mo) (hm2 : mo ≤ 12) (hd1 : 1 ≤ dd) (hd2 : dd ≤ mlN (1700 + k) mo) (hd : d = Fk k + Mk (1700 + k) mo + (dd - 1)) (hn : -600 ≤ yn.toInt ∧ yn.toInt ≤ 600) (hc : ((k : Nat) : Int) + yn.toInt < 0) : Met l yX8_plus (.code yX8_plus cX8_plus 3 (some .int) :: TBL) ({ frames := 4, cells := 0, slots := 0, locals := 160 }) (va_Pc [.ref x0, .int (nI d), .int yn] (fun U => va_P (dC, dI) vwCl [] U.heap ∧ va_K (dC, dI) vwCl [] U ∧ Ev g (fun _ => False) U)) (vp_Si (fun r => r = nI 0)) 0 0 (fun _ => False) := by
  refine Met.ofW (cc := cX8_plus) (maxL := 3) (ret := (some .int)) (by decide) rfl ?_
  intro p e s m args below meth c s₁ B hml hv
  obtain ⟨rfl, hP, hK, hE⟩ := hv
  have hx := B.exec
  have hb := B.bytes
  have hr := B.returns
  have hts0 := atoms_spec (ws := (.code yX8_plus cX8_plus 3 (some .int) :: TBL)) B.pre
  have hts := fun (w : Cond) (h : w ∈ TBL) => hts0 w (List.mem_cons_of_mem _ h)
  have hown : s.vm.findClass RX8 = some m.cls := findClass_of_methodNamed B.named
  have hlocks := B.notSynchronized
  have hN := hE.1
  have hS : va_S (fun _ => False) s.heap s.heap [] := va_S.rf
  have hP : va_P (dC, dI) vwCl [] s.heap := hP
  have hl := lv_entry ([.ref x0, .int (nI d), .int yn]) (n := 3) (Nat.le_of_ble_eq_true rfl)
  rw [lg_entry_eq]
  generalize (lg_sl ([.ref x0, .int (nI d), .int yn]) ++ List.replicate (3 - (lg_sl ([.ref x0, .int (nI d), .int yn])).length) Slot.unset).toArray = ls at hl ⊢
  have hl : lv_has ls 3 [(0, .ref x0), (1, .int (nI d)), (2, .int yn)] := hl
  have hb1 := mlN_b (1700 + k) mo
  have h1 : Fk k ≤ d := by omega
  have h2 : d < Fk (k + 1) := by
    rw [Fk_s k hk]; have q1 := Mk_le (y := 1700 + k) (a := mo + 1) (b := 13) (by omega) (by omega); rw [Mk_13, Mk_s hm1] at q1; omega
  have hd9 : d < 219145 := by have := Fk_b (k := k + 1) (by omega); omega
  refine lv_iload_n hx hb dX8_plus_0 rfl (lv_at hl 1 rfl) ?_
  have hPc := hP.sub (ws' := []) [] rfl
  have hKc := hK.sub (tys' := []) [] rfl
  refine vp_callSi ((va_runS (As := [.int (nI d)]) (rest := []) ⟨hx, hb, hml, hown, hts⟩ (c_dl_in l dC dI g (d) (by omega)) (va_cwS 1 hts (gwS qw_70 qw_71 qw_69 qw_68) rfl rfl rfl (by decide +kernel) ⟨Nat.le_of_ble_eq_true rfl, Nat.le_of_ble_eq_true rfl⟩) ⟨fun a U g9 mk q => ⟨q.1, q.2.1, va_K.moved (u := U) (U := U.calling g9 mk a) (Vm.Alike.refl U.vm) q.2.2.1, Ev.bl q.2.2.2⟩, fun U hU hW => ⟨rfl, by rw [hU]; exact hPc, va_K.moved hW.alike hKc, hE.go hS (fun _ h => h.elim) hU hW⟩⟩ rfl rfl hl.1 rfl (lv_room (Nat.le_of_ble_eq_true rfl)) dX8_plus_1 ⟨Nat.le_of_ble_eq_true rfl, Nat.le_of_ble_eq_true rfl⟩)).run (fun r1 h_r1 => ?_)
  have h_r1 : r1 = 1 := h_r1
  subst h_r1
  refine lv_if_eq (tgt := 21) hx hb dX8_plus_4 (by decide) (fun c4_2 => by exfalso; exact absurd c4_2 (by decide)) (fun c4_2 => ?_)
  refine lv_iload_n hx hb dX8_plus_7 rfl (lv_at hl 2 rfl) ?_
  refine lv_sipush (v := (-600)) hx hb dX8_plus_8 (by decide) ?_
  refine lv_icmp_lt (tgt := 21) hx hb dX8_plus_11 (by decide) (fun c11_3 => by exfalso; have c11_3 : yn.toInt < (-600) := (cv_lt rfl (by decide)).mp c11_3; omega) (fun c11_3 => ?_)
  have c11_3 : ¬ (yn.toInt < (-600)) := mt (cv_lt rfl (by decide)).mpr c11_3
  refine lv_iload_n hx hb dX8_plus_14 rfl (lv_at hl 2 rfl) ?_
  refine lv_sipush (v := 600) hx hb dX8_plus_15 (by decide) ?_
  refine lv_icmp_le (tgt := 23) hx hb dX8_plus_18 (by decide) (fun c18_4 => ?_) (fun c18_4 => by exfalso; have c18_4 : ¬ (yn.toInt ≤ 600) := mt (cv_le rfl (by decide)).mpr c18_4; omega)
  have c18_4 : yn.toInt ≤ 600 := (cv_le rfl (by decide)).mp c18_4
  refine lv_iload_n hx hb dX8_plus_23 rfl (lv_at hl 1 rfl) ?_
  refine lv_iload_n hx hb dX8_plus_24 rfl (lv_at hl 2 rfl) ?_
  have hPc := hP.sub (ws' := []) [] rfl
  have hKc := hK.sub (tys' := []) [] rfl
  refine vp_callSi ((va_runSN (As := [.int (nI d), .int yn]) (rest := []) ⟨hx, hb, hml, hown, hts⟩ (c_ys_A l dC dI g (d) (k) (mo) (dd) (yn) hk hm1 hm2 hd1 hd2 hd hn hc) ⟨va_cnB 2 hts (gwC qw_72) rfl rfl rfl (nm_24 hN) (hts (.initialized RX0) qw_3) (by decide +kernel) ⟨Nat.le_of_ble_eq_true rfl, Nat.le_of_ble_eq_true rfl⟩, (hts (.static yX0_yearsOn) qw_73), trivial⟩ ⟨fun a U g9 mk q => ⟨q.1, q.2.1, va_K.moved (u := U) (U := U.calling g9 mk a) (Vm.Alike.refl U.vm) q.2.2.1, Ev.bl q.2.2.2⟩, fun U hU hW => ⟨rfl, by rw [hU]; exact hPc, va_K.moved hW.alike hKc, hE.go hS (fun _ h => h.elim) hU hW⟩⟩ rfl rfl hl.1 rfl (lv_room (Nat.le_of_ble_eq_true rfl)) dX8_plus_25 ⟨Nat.le_of_ble_eq_true rfl, Nat.le_of_ble_eq_true rfl⟩)).run (fun r5 h_r5 => ?_)
  have h_r5 : r5 = nI (0) := h_r5
  subst h_r5
  exact W.iret (v := (nI 0)) hx hb hr (fun t ht hW => ⟨(nI 0), rfl, (rfl), ht⟩) (fun _ h => absurd h List.not_mem_nil) dX8_plus_28
set_option maxHeartbeats 4000000 in
set_option maxRecDepth 100000 in
theorem c_8plus_B (l : Launch) (dC : Nat → ClassId) (dI : Nat → Nat → Nat) (g : Gv) (x0 : Nat) (d : Nat) (k : Nat) (mo : Nat) (dd : Nat) (yn : Int32) (hk : k < 600) (hm1 : 1 ≤ mo) (hm2 : mo ≤ 12) (hd1 : 1 ≤ dd) (hd2 : dd ≤ mlN (1700 + k) mo) (hd : d = Fk k + Mk (1700 + k) mo + (dd - 1)) (hn : -600 ≤ yn.toInt ∧ yn.toInt ≤ 600) (hc : 599 < ((k : Nat) : Int) + yn.toInt) : Met l yX8_plus (.code yX8_plus cX8_plus 3 (some .int) :: TBL) ({ frames := 4, cells := 0, slots := 0, locals := 160 }) (va_Pc [.ref x0, .int (nI d), .int yn] (fun U => va_P (dC, dI) vwCl [] U.heap ∧ va_K (dC, dI) vwCl [] U ∧ Ev g (fun _ => False) U)) (vp_Si (fun r => r = nI 219145)) 0 0 (fun _ => False) := by
  refine Met.ofW (cc := cX8_plus) (maxL := 3) (ret := (some .int)) (by decide) rfl ?_
  intro p e s m args below meth c s₁ B hml hv
  obtain ⟨rfl, hP, hK, hE⟩ := hv
  have hx := B.exec
  have hb := B.bytes
  have hr := B.returns
  have hts0 := atoms_spec (ws := (.code yX8_plus cX8_plus 3 (some .int) :: TBL)) B.pre
  have hts := fun (w : Cond) (h : w ∈ TBL) => hts0 w (List.mem_cons_of_mem _ h)
  have hown : s.vm.findClass RX8 = some m.cls := findClass_of_methodNamed B.named
  have hlocks := B.notSynchronized
  have hN := hE.1
  have hS : va_S (fun _ => False) s.heap s.heap [] := va_S.rf
  have hP : va_P (dC, dI) vwCl [] s.heap := hP
  have hl := lv_entry ([.ref x0, .int (nI d), .int yn]) (n := 3) (Nat.le_of_ble_eq_true rfl)
  rw [lg_entry_eq]
  generalize (lg_sl ([.ref x0, .int (nI d), .int yn]) ++ List.replicate (3 - (lg_sl ([.ref x0, .int (nI d), .int yn])).length) Slot.unset).toArray = ls at hl ⊢
  have hl : lv_has ls 3 [(0, .ref x0), (1, .int (nI d)), (2, .int yn)] := hl
  have hb1 := mlN_b (1700 + k) mo
  have h1 : Fk k ≤ d := by omega
  have h2 : d < Fk (k + 1) := by
    rw [Fk_s k hk]; have q1 := Mk_le (y := 1700 + k) (a := mo + 1) (b := 13) (by omega) (by omega); rw [Mk_13, Mk_s hm1] at q1; omega
  have hd9 : d < 219145 := by have := Fk_b (k := k + 1) (by omega); omega
  refine lv_iload_n hx hb dX8_plus_0 rfl (lv_at hl 1 rfl) ?_
  have hPc := hP.sub (ws' := []) [] rfl
  have hKc := hK.sub (tys' := []) [] rfl
  refine vp_callSi ((va_runS (As := [.int (nI d)]) (rest := []) ⟨hx, hb, hml, hown, hts⟩ (c_dl_in l dC dI g (d) (by omega)) (va_cwS 1 hts (gwS qw_70 qw_71 qw_69 qw_68) rfl rfl rfl (by decide +kernel) ⟨Nat.le_of_ble_eq_true rfl, Nat.le_of_ble_eq_true rfl⟩) ⟨fun a U g9 mk q => ⟨q.1, q.2.1, va_K.moved (u := U) (U := U.calling g9 mk a) (Vm.Alike.refl U.vm) q.2.2.1, Ev.bl q.2.2.2⟩, fun U hU hW => ⟨rfl, by rw [hU]; exact hPc, va_K.moved hW.alike hKc, hE.go hS (fun _ h => h.elim) hU hW⟩⟩ rfl rfl hl.1 rfl (lv_room (Nat.le_of_ble_eq_true rfl)) dX8_plus_1 ⟨Nat.le_of_ble_eq_true rfl, Nat.le_of_ble_eq_true rfl⟩)).run (fun r1 h_r1 => ?_)
  have h_r1 : r1 = 1 := h_r1
  subst h_r1
  refine lv_if_eq (tgt := 21) hx hb dX8_plus_4 (by decide) (fun c4_2 => by exfalso; exact absurd c4_2 (by decide)) (fun c4_2 => ?_)
  refine lv_iload_n hx hb dX8_plus_7 rfl (lv_at hl 2 rfl) ?_
  refine lv_sipush (v := (-600)) hx hb dX8_plus_8 (by decide) ?_
  refine lv_icmp_lt (tgt := 21) hx hb dX8_plus_11 (by decide) (fun c11_3 => by exfalso; have c11_3 : yn.toInt < (-600) := (cv_lt rfl (by decide)).mp c11_3; omega) (fun c11_3 => ?_)
  have c11_3 : ¬ (yn.toInt < (-600)) := mt (cv_lt rfl (by decide)).mpr c11_3
  refine lv_iload_n hx hb dX8_plus_14 rfl (lv_at hl 2 rfl) ?_
  refine lv_sipush (v := 600) hx hb dX8_plus_15 (by decide) ?_
  refine lv_icmp_le (tgt := 23) hx hb dX8_plus_18 (by decide) (fun c18_4 => ?_) (fun c18_4 => by exfalso; have c18_4 : ¬ (yn.toInt ≤ 600) := mt (cv_le rfl (by decide)).mpr c18_4; omega)
  have c18_4 : yn.toInt ≤ 600 := (cv_le rfl (by decide)).mp c18_4
  refine lv_iload_n hx hb dX8_plus_23 rfl (lv_at hl 1 rfl) ?_
  refine lv_iload_n hx hb dX8_plus_24 rfl (lv_at hl 2 rfl) ?_
  have hPc := hP.sub (ws' := []) [] rfl
  have hKc := hK.sub (tys' := []) [] rfl
  refine vp_callSi ((va_runSN (As := [.int (nI d), .int yn]) (rest := []) ⟨hx, hb, hml, hown, hts⟩ (c_ys_B l dC dI g (d) (k) (mo) (dd) (yn) hk hm1 hm2 hd1 hd2 hd hn hc) ⟨va_cnB 2 hts (gwC qw_72) rfl rfl rfl (nm_24 hN) (hts (.initialized RX0) qw_3) (by decide +kernel) ⟨Nat.le_of_ble_eq_true rfl, Nat.le_of_ble_eq_true rfl⟩, (hts (.static yX0_yearsOn) qw_73), trivial⟩ ⟨fun a U g9 mk q => ⟨q.1, q.2.1, va_K.moved (u := U) (U := U.calling g9 mk a) (Vm.Alike.refl U.vm) q.2.2.1, Ev.bl q.2.2.2⟩, fun U hU hW => ⟨rfl, by rw [hU]; exact hPc, va_K.moved hW.alike hKc, hE.go hS (fun _ h => h.elim) hU hW⟩⟩ rfl rfl hl.1 rfl (lv_room (Nat.le_of_ble_eq_true rfl)) dX8_plus_25 ⟨Nat.le_of_ble_eq_true rfl, Nat.le_of_ble_eq_true rfl⟩)).run (fun r5 h_r5 => ?_)
  have h_r5 : r5 = nI (219145) := h_r5
  subst h_r5
  exact W.iret (v := (nI 219145)) hx hb hr (fun t ht hW => ⟨(nI 219145), rfl, (rfl), ht⟩) (fun _ h => absurd h List.not_mem_nil) dX8_plus_28
set_option maxHeartbeats 4000000 in
set_option maxRecDepth 100000 in
theorem c_8plus_C (l : Launch) (dC : Nat → ClassId) (dI : Nat → Nat → Nat) (g : Gv) (x0 : Nat) (d : Nat) (k : Nat) (mo : Nat) (dd : Nat) (yn : Int32) (k2 : Nat) (hk : k < 600) (hm1 : 1 ≤ mo) (hm2 : mo ≤ 12) (hd1 : 1 ≤ dd) (hd2 : dd ≤ mlN (1700 + k) mo) (hd : d = Fk k + Mk (1700 + k) mo + (dd - 1)) (hn : -600 ≤ yn.toInt ∧ yn.toInt ≤ 600) (hk2 : k2 < 600) (hc : ((k : Nat) : Int) + yn.toInt = k2) : Met l yX8_plus (.code yX8_plus cX8_plus 3 (some .int) :: TBL) ({ frames := 4, cells := 0, slots := 0, locals := 160 }) (va_Pc [.ref x0, .int (nI d), .int yn] (fun U => va_P (dC, dI) vwCl [] U.heap ∧ va_K (dC, dI) vwCl [] U ∧ Ev g (fun _ => False) U)) (vp_Si (fun r => r = nI (Fk k2 + Mk (1700 + k2) mo + min dd (mlN (1700 + k2) mo) - 1))) 0 0 (fun _ => False) := by
  refine Met.ofW (cc := cX8_plus) (maxL := 3) (ret := (some .int)) (by decide) rfl ?_
  intro p e s m args below meth c s₁ B hml hv
  obtain ⟨rfl, hP, hK, hE⟩ := hv
  have hx := B.exec
  have hb := B.bytes
  have hr := B.returns
  have hts0 := atoms_spec (ws := (.code yX8_plus cX8_plus 3 (some .int) :: TBL)) B.pre
  have hts := fun (w : Cond) (h : w ∈ TBL) => hts0 w (List.mem_cons_of_mem _ h)
  have hown : s.vm.findClass RX8 = some m.cls := findClass_of_methodNamed B.named
  have hlocks := B.notSynchronized
  have hN := hE.1
  have hS : va_S (fun _ => False) s.heap s.heap [] := va_S.rf
  have hP : va_P (dC, dI) vwCl [] s.heap := hP
  have hl := lv_entry ([.ref x0, .int (nI d), .int yn]) (n := 3) (Nat.le_of_ble_eq_true rfl)
  rw [lg_entry_eq]
  generalize (lg_sl ([.ref x0, .int (nI d), .int yn]) ++ List.replicate (3 - (lg_sl ([.ref x0, .int (nI d), .int yn])).length) Slot.unset).toArray = ls at hl ⊢
  have hl : lv_has ls 3 [(0, .ref x0), (1, .int (nI d)), (2, .int yn)] := hl
  have hb1 := mlN_b (1700 + k) mo
  have h1 : Fk k ≤ d := by omega
  have h2 : d < Fk (k + 1) := by
    rw [Fk_s k hk]; have q1 := Mk_le (y := 1700 + k) (a := mo + 1) (b := 13) (by omega) (by omega); rw [Mk_13, Mk_s hm1] at q1; omega
  have hd9 : d < 219145 := by have := Fk_b (k := k + 1) (by omega); omega
  refine lv_iload_n hx hb dX8_plus_0 rfl (lv_at hl 1 rfl) ?_
  have hPc := hP.sub (ws' := []) [] rfl
  have hKc := hK.sub (tys' := []) [] rfl
  refine vp_callSi ((va_runS (As := [.int (nI d)]) (rest := []) ⟨hx, hb, hml, hown, hts⟩ (c_dl_in l dC dI g (d) (by omega)) (va_cwS 1 hts (gwS qw_70 qw_71 qw_69 qw_68) rfl rfl rfl (by decide +kernel) ⟨Nat.le_of_ble_eq_true rfl, Nat.le_of_ble_eq_true rfl⟩) ⟨fun a U g9 mk q => ⟨q.1, q.2.1, va_K.moved (u := U) (U := U.calling g9 mk a) (Vm.Alike.refl U.vm) q.2.2.1, Ev.bl q.2.2.2⟩, fun U hU hW => ⟨rfl, by rw [hU]; exact hPc, va_K.moved hW.alike hKc, hE.go hS (fun _ h => h.elim) hU hW⟩⟩ rfl rfl hl.1 rfl (lv_room (Nat.le_of_ble_eq_true rfl)) dX8_plus_1 ⟨Nat.le_of_ble_eq_true rfl, Nat.le_of_ble_eq_true rfl⟩)).run (fun r1 h_r1 => ?_)
  have h_r1 : r1 = 1 := h_r1
  subst h_r1
  refine lv_if_eq (tgt := 21) hx hb dX8_plus_4 (by decide) (fun c4_2 => by exfalso; exact absurd c4_2 (by decide)) (fun c4_2 => ?_)
  refine lv_iload_n hx hb dX8_plus_7 rfl (lv_at hl 2 rfl) ?_
  refine lv_sipush (v := (-600)) hx hb dX8_plus_8 (by decide) ?_
  refine lv_icmp_lt (tgt := 21) hx hb dX8_plus_11 (by decide) (fun c11_3 => by exfalso; have c11_3 : yn.toInt < (-600) := (cv_lt rfl (by decide)).mp c11_3; omega) (fun c11_3 => ?_)
  have c11_3 : ¬ (yn.toInt < (-600)) := mt (cv_lt rfl (by decide)).mpr c11_3
  refine lv_iload_n hx hb dX8_plus_14 rfl (lv_at hl 2 rfl) ?_
  refine lv_sipush (v := 600) hx hb dX8_plus_15 (by decide) ?_
  refine lv_icmp_le (tgt := 23) hx hb dX8_plus_18 (by decide) (fun c18_4 => ?_) (fun c18_4 => by exfalso; have c18_4 : ¬ (yn.toInt ≤ 600) := mt (cv_le rfl (by decide)).mpr c18_4; omega)
  have c18_4 : yn.toInt ≤ 600 := (cv_le rfl (by decide)).mp c18_4
  refine lv_iload_n hx hb dX8_plus_23 rfl (lv_at hl 1 rfl) ?_
  refine lv_iload_n hx hb dX8_plus_24 rfl (lv_at hl 2 rfl) ?_
  have hPc := hP.sub (ws' := []) [] rfl
  have hKc := hK.sub (tys' := []) [] rfl
  refine vp_callSi ((va_runSN (As := [.int (nI d), .int yn]) (rest := []) ⟨hx, hb, hml, hown, hts⟩ (c_ys_C l dC dI g (d) (k) (mo) (dd) (yn) (k2) hk hm1 hm2 hd1 hd2 hd hn hk2 hc) ⟨va_cnB 2 hts (gwC qw_72) rfl rfl rfl (nm_24 hN) (hts (.initialized RX0) qw_3) (by decide +kernel) ⟨Nat.le_of_ble_eq_true rfl, Nat.le_of_ble_eq_true rfl⟩, (hts (.static yX0_yearsOn) qw_73), trivial⟩ ⟨fun a U g9 mk q => ⟨q.1, q.2.1, va_K.moved (u := U) (U := U.calling g9 mk a) (Vm.Alike.refl U.vm) q.2.2.1, Ev.bl q.2.2.2⟩, fun U hU hW => ⟨rfl, by rw [hU]; exact hPc, va_K.moved hW.alike hKc, hE.go hS (fun _ h => h.elim) hU hW⟩⟩ rfl rfl hl.1 rfl (lv_room (Nat.le_of_ble_eq_true rfl)) dX8_plus_25 ⟨Nat.le_of_ble_eq_true rfl, Nat.le_of_ble_eq_true rfl⟩)).run (fun r5 h_r5 => ?_)
  have h_r5 : r5 = nI (Fk k2 + Mk (1700 + k2) mo + min dd (mlN (1700 + k2) mo) - 1) := h_r5
  subst h_r5
  exact W.iret (v := (nI (Fk k2 + Mk (1700 + k2) mo + min dd (mlN (1700 + k2) mo) - 1))) hx hb hr (fun t ht hW => ⟨(nI (Fk k2 + Mk (1700 + k2) mo + min dd (mlN (1700 + k2) mo) - 1)), rfl, (rfl), ht⟩) (fun _ h => absurd h List.not_mem_nil) dX8_plus_28
