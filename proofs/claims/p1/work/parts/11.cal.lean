theorem dX0_has_0 : decode cX0_has 0 = .ok (.iload_n 0, 1) := by decide +kernel
theorem dX0_has_1 : decode cX0_has 1 = .ok (.ifCond .lt 13, 3) := by decide +kernel
theorem dX0_has_4 : decode cX0_has 4 = .ok (.iload_n 0, 1) := by decide +kernel
theorem dX0_has_5 : decode cX0_has 5 = .ok (.ldc 9, 2) := by decide +kernel
theorem dX0_has_7 : decode cX0_has 7 = .ok (.if_icmp .ge 7, 3) := by decide +kernel
theorem dX0_has_10 : decode cX0_has 10 = .ok (.iconst 1, 1) := by decide +kernel
theorem dX0_has_11 : decode cX0_has 11 = .ok (.goto 4, 3) := by decide +kernel
theorem dX0_has_14 : decode cX0_has 14 = .ok (.iconst 0, 1) := by decide +kernel
theorem dX0_has_15 : decode cX0_has 15 = .ok (.ireturn, 1) := by decide +kernel
theorem dX0_monthLength_0 : decode cX0_monthLength 0 = .ok (.iload_n 1, 1) := by decide +kernel
theorem dX0_monthLength_1 : decode cX0_monthLength 1 = .ok (.iconst 1, 1) := by decide +kernel
theorem dX0_monthLength_2 : decode cX0_monthLength 2 = .ok (.if_icmp .lt 11, 3) := by decide +kernel
theorem dX0_monthLength_5 : decode cX0_monthLength 5 = .ok (.iload_n 1, 1) := by decide +kernel
theorem dX0_monthLength_6 : decode cX0_monthLength 6 = .ok (.getstatic 10, 3) := by decide +kernel
theorem dX0_monthLength_9 : decode cX0_monthLength 9 = .ok (.arraylength, 1) := by decide +kernel
theorem dX0_monthLength_10 : decode cX0_monthLength 10 = .ok (.if_icmp .le 5, 3) := by decide +kernel
theorem dX0_monthLength_13 : decode cX0_monthLength 13 = .ok (.iconst 0, 1) := by decide +kernel
theorem dX0_monthLength_14 : decode cX0_monthLength 14 = .ok (.ireturn, 1) := by decide +kernel
theorem dX0_monthLength_15 : decode cX0_monthLength 15 = .ok (.iload_n 0, 1) := by decide +kernel
theorem dX0_monthLength_16 : decode cX0_monthLength 16 = .ok (.iconst 4, 1) := by decide +kernel
theorem dX0_monthLength_17 : decode cX0_monthLength 17 = .ok (.irem, 1) := by decide +kernel
theorem dX0_monthLength_18 : decode cX0_monthLength 18 = .ok (.ifCond .ne 22, 3) := by decide +kernel
theorem dX0_monthLength_21 : decode cX0_monthLength 21 = .ok (.iload_n 0, 1) := by decide +kernel
theorem dX0_monthLength_22 : decode cX0_monthLength 22 = .ok (.bipush 100, 2) := by decide +kernel
theorem dX0_monthLength_24 : decode cX0_monthLength 24 = .ok (.irem, 1) := by decide +kernel
theorem dX0_monthLength_25 : decode cX0_monthLength 25 = .ok (.ifCond .ne 11, 3) := by decide +kernel
theorem dX0_monthLength_28 : decode cX0_monthLength 28 = .ok (.iload_n 0, 1) := by decide +kernel
theorem dX0_monthLength_29 : decode cX0_monthLength 29 = .ok (.sipush 400, 3) := by decide +kernel
theorem dX0_monthLength_32 : decode cX0_monthLength 32 = .ok (.irem, 1) := by decide +kernel
theorem dX0_monthLength_33 : decode cX0_monthLength 33 = .ok (.ifCond .ne 7, 3) := by decide +kernel
theorem dX0_monthLength_36 : decode cX0_monthLength 36 = .ok (.iconst 1, 1) := by decide +kernel
theorem dX0_monthLength_37 : decode cX0_monthLength 37 = .ok (.goto 4, 3) := by decide +kernel
theorem dX0_monthLength_40 : decode cX0_monthLength 40 = .ok (.iconst 0, 1) := by decide +kernel
theorem dX0_monthLength_41 : decode cX0_monthLength 41 = .ok (.istore_n 2, 1) := by decide +kernel
theorem dX0_monthLength_42 : decode cX0_monthLength 42 = .ok (.getstatic 10, 3) := by decide +kernel
theorem dX0_monthLength_45 : decode cX0_monthLength 45 = .ok (.iload_n 1, 1) := by decide +kernel
theorem dX0_monthLength_46 : decode cX0_monthLength 46 = .ok (.iconst 1, 1) := by decide +kernel
theorem dX0_monthLength_47 : decode cX0_monthLength 47 = .ok (.isub, 1) := by decide +kernel
theorem dX0_monthLength_48 : decode cX0_monthLength 48 = .ok (.iaload, 1) := by decide +kernel
theorem dX0_monthLength_49 : decode cX0_monthLength 49 = .ok (.istore_n 3, 1) := by decide +kernel
theorem dX0_monthLength_50 : decode cX0_monthLength 50 = .ok (.iload_n 1, 1) := by decide +kernel
theorem dX0_monthLength_51 : decode cX0_monthLength 51 = .ok (.iconst 2, 1) := by decide +kernel
theorem dX0_monthLength_52 : decode cX0_monthLength 52 = .ok (.if_icmp .ne 13, 3) := by decide +kernel
theorem dX0_monthLength_55 : decode cX0_monthLength 55 = .ok (.iload_n 2, 1) := by decide +kernel
theorem dX0_monthLength_56 : decode cX0_monthLength 56 = .ok (.ifCond .eq 9, 3) := by decide +kernel
theorem dX0_monthLength_59 : decode cX0_monthLength 59 = .ok (.iload_n 3, 1) := by decide +kernel
theorem dX0_monthLength_60 : decode cX0_monthLength 60 = .ok (.iconst 1, 1) := by decide +kernel
theorem dX0_monthLength_61 : decode cX0_monthLength 61 = .ok (.iadd, 1) := by decide +kernel
theorem dX0_monthLength_62 : decode cX0_monthLength 62 = .ok (.goto 4, 3) := by decide +kernel
theorem dX0_monthLength_65 : decode cX0_monthLength 65 = .ok (.iload_n 3, 1) := by decide +kernel
theorem dX0_monthLength_66 : decode cX0_monthLength 66 = .ok (.ireturn, 1) := by decide +kernel
theorem dX0_startOf_0 : decode cX0_startOf 0 = .ok (.iload_n 0, 1) := by decide +kernel
theorem dX0_startOf_1 : decode cX0_startOf 1 = .ok (.iconst 1, 1) := by decide +kernel
theorem dX0_startOf_2 : decode cX0_startOf 2 = .ok (.isub, 1) := by decide +kernel
theorem dX0_startOf_3 : decode cX0_startOf 3 = .ok (.istore_n 1, 1) := by decide +kernel
theorem dX0_startOf_4 : decode cX0_startOf 4 = .ok (.iload_n 1, 1) := by decide +kernel
theorem dX0_startOf_5 : decode cX0_startOf 5 = .ok (.iconst 4, 1) := by decide +kernel
theorem dX0_startOf_6 : decode cX0_startOf 6 = .ok (.idiv, 1) := by decide +kernel
theorem dX0_startOf_7 : decode cX0_startOf 7 = .ok (.iload_n 1, 1) := by decide +kernel
theorem dX0_startOf_8 : decode cX0_startOf 8 = .ok (.bipush 100, 2) := by decide +kernel
theorem dX0_startOf_10 : decode cX0_startOf 10 = .ok (.idiv, 1) := by decide +kernel
theorem dX0_startOf_11 : decode cX0_startOf 11 = .ok (.isub, 1) := by decide +kernel
theorem dX0_startOf_12 : decode cX0_startOf 12 = .ok (.iload_n 1, 1) := by decide +kernel
theorem dX0_startOf_13 : decode cX0_startOf 13 = .ok (.sipush 400, 3) := by decide +kernel
theorem dX0_startOf_16 : decode cX0_startOf 16 = .ok (.idiv, 1) := by decide +kernel
theorem dX0_startOf_17 : decode cX0_startOf 17 = .ok (.iadd, 1) := by decide +kernel
theorem dX0_startOf_18 : decode cX0_startOf 18 = .ok (.sipush 412, 3) := by decide +kernel
theorem dX0_startOf_21 : decode cX0_startOf 21 = .ok (.isub, 1) := by decide +kernel
theorem dX0_startOf_22 : decode cX0_startOf 22 = .ok (.istore_n 2, 1) := by decide +kernel
theorem dX0_startOf_23 : decode cX0_startOf 23 = .ok (.sipush 365, 3) := by decide +kernel
theorem dX0_startOf_26 : decode cX0_startOf 26 = .ok (.iload_n 0, 1) := by decide +kernel
theorem dX0_startOf_27 : decode cX0_startOf 27 = .ok (.sipush 1700, 3) := by decide +kernel
theorem dX0_startOf_30 : decode cX0_startOf 30 = .ok (.isub, 1) := by decide +kernel
theorem dX0_startOf_31 : decode cX0_startOf 31 = .ok (.imul, 1) := by decide +kernel
theorem dX0_startOf_32 : decode cX0_startOf 32 = .ok (.iload_n 2, 1) := by decide +kernel
theorem dX0_startOf_33 : decode cX0_startOf 33 = .ok (.iadd, 1) := by decide +kernel
theorem dX0_startOf_34 : decode cX0_startOf 34 = .ok (.ireturn, 1) := by decide +kernel
theorem qw_0 : (Cond.constant RX0 9 (219145) : Cond) ∈ TBL := List.mem_of_getElem? (i := 496) (by decide +kernel)
theorem qw_1 : (Cond.fieldLink RX0 10 "ClosedUntil$Calendar" "MONTH_LENGTHS" "[I" : Cond) ∈ TBL := List.mem_of_getElem? (i := 293) (by decide +kernel)
set_option maxHeartbeats 4000000 in
set_option maxRecDepth 100000 in
theorem c_has_in (l : Launch) (dC : Nat → ClassId) (dI : Nat → Nat → Nat) (g : Gv) (d : Nat) (hd : d < 219145) : Met l yX0_has (.code yX0_has cX0_has 1 (some .boolean) :: TBL) ({ frames := 0, cells := 0, slots := 0, locals := 0 }) (va_Pc [.int (nI d)] (fun U => va_P (dC, dI) vwCl [] U.heap ∧ va_K (dC, dI) vwCl [] U ∧ Ev g (fun _ => False) U)) (vp_Si (fun r => r = 1)) 0 0 (fun _ => False) := by
  refine Met.ofW (cc := cX0_has) (maxL := 1) (ret := (some .boolean)) (by decide) rfl ?_
  intro p e s m args below meth c s₁ B hml hv
  obtain ⟨rfl, hP, hK, hE⟩ := hv
  have hx := B.exec
  have hb := B.bytes
  have hr := B.returns
  have hts0 := atoms_spec (ws := (.code yX0_has cX0_has 1 (some .boolean) :: TBL)) B.pre
  have hts := fun (w : Cond) (h : w ∈ TBL) => hts0 w (List.mem_cons_of_mem _ h)
  have hown : s.vm.findClass RX0 = some m.cls := findClass_of_methodNamed B.named
  have hlocks := B.notSynchronized
  have hN := hE.1
  have hS : va_S (fun _ => False) s.heap s.heap [] := va_S.rf
  have hP : va_P (dC, dI) vwCl [] s.heap := hP
  have hl := lv_entry ([.int (nI d)]) (n := 1) (Nat.le_of_ble_eq_true rfl)
  rw [lg_entry_eq]
  generalize (lg_sl ([.int (nI d)]) ++ List.replicate (1 - (lg_sl ([.int (nI d)])).length) Slot.unset).toArray = ls at hl ⊢
  have hl : lv_has ls 1 [(0, .int (nI d))] := hl
  refine lv_iload_n hx hb dX0_has_0 rfl (lv_at hl 0 rfl) ?_
  refine lv_if_lt (tgt := 14) hx hb dX0_has_1 (by decide) (fun c1_1 => by exfalso; have c1_1 : ((d : Nat) : Int) < 0 := (cv_lt (nI_toInt (by omega)) (by decide)).mp c1_1; omega) (fun c1_1 => ?_)
  have c1_1 : ¬ (((d : Nat) : Int) < 0) := mt (cv_lt (nI_toInt (by omega)) (by decide)).mpr c1_1
  refine lv_iload_n hx hb dX0_has_4 rfl (lv_at hl 0 rfl) ?_
  refine lv_ldc (v := 219145) hx hb hown (hts (.constant RX0 9 (219145)) qw_0) dX0_has_5 ?_
  refine lv_icmp_ge (tgt := 14) hx hb dX0_has_7 (by decide) (fun c7_2 => by exfalso; have c7_2 : 219145 ≤ ((d : Nat) : Int) := (cv_le (by decide) (nI_toInt (by omega))).mp c7_2; omega) (fun c7_2 => ?_)
  have c7_2 : ¬ (219145 ≤ ((d : Nat) : Int)) := mt (cv_le (by decide) (nI_toInt (by omega))).mpr c7_2
  refine lv_iconst (v := 1) hx hb dX0_has_10 (by decide) ?_
  refine lv_goto (tgt := 15) hx hb dX0_has_11 (by decide) ?_
  exact W.zret (v := 1) hx hb hr rfl (fun t ht hW => ⟨1, rfl, (rfl), ht⟩) (fun _ h => absurd h List.not_mem_nil) dX0_has_15
set_option maxHeartbeats 4000000 in
set_option maxRecDepth 100000 in
theorem c_has_out (l : Launch) (dC : Nat → ClassId) (dI : Nat → Nat → Nat) (g : Gv) (d : Int32) (hd : ¬ (0 ≤ d.toInt ∧ d.toInt < 219145)) : Met l yX0_has (.code yX0_has cX0_has 1 (some .boolean) :: TBL) ({ frames := 0, cells := 0, slots := 0, locals := 0 }) (va_Pc [.int d] (fun U => va_P (dC, dI) vwCl [] U.heap ∧ va_K (dC, dI) vwCl [] U ∧ Ev g (fun _ => False) U)) (vp_Si (fun r => r = 0)) 0 0 (fun _ => False) := by
  refine Met.ofW (cc := cX0_has) (maxL := 1) (ret := (some .boolean)) (by decide) rfl ?_
  intro p e s m args below meth c s₁ B hml hv
  obtain ⟨rfl, hP, hK, hE⟩ := hv
  have hx := B.exec
  have hb := B.bytes
  have hr := B.returns
  have hts0 := atoms_spec (ws := (.code yX0_has cX0_has 1 (some .boolean) :: TBL)) B.pre
  have hts := fun (w : Cond) (h : w ∈ TBL) => hts0 w (List.mem_cons_of_mem _ h)
  have hown : s.vm.findClass RX0 = some m.cls := findClass_of_methodNamed B.named
  have hlocks := B.notSynchronized
  have hN := hE.1
  have hS : va_S (fun _ => False) s.heap s.heap [] := va_S.rf
  have hP : va_P (dC, dI) vwCl [] s.heap := hP
  have hl := lv_entry ([.int d]) (n := 1) (Nat.le_of_ble_eq_true rfl)
  rw [lg_entry_eq]
  generalize (lg_sl ([.int d]) ++ List.replicate (1 - (lg_sl ([.int d])).length) Slot.unset).toArray = ls at hl ⊢
  have hl : lv_has ls 1 [(0, .int d)] := hl
  refine lv_iload_n hx hb dX0_has_0 rfl (lv_at hl 0 rfl) ?_
  refine lv_if_lt (tgt := 14) hx hb dX0_has_1 (by decide) (fun c1_1 => ?_) (fun c1_1 => ?_)
  · have c1_1 : d.toInt < 0 := (cv_lt rfl (by decide)).mp c1_1
    refine lv_iconst (v := 0) hx hb dX0_has_14 (by decide) ?_
    exact W.zret (v := 0) hx hb hr rfl (fun t ht hW => ⟨0, rfl, (rfl), ht⟩) (fun _ h => absurd h List.not_mem_nil) dX0_has_15
  · have c1_1 : ¬ (d.toInt < 0) := mt (cv_lt rfl (by decide)).mpr c1_1
    refine lv_iload_n hx hb dX0_has_4 rfl (lv_at hl 0 rfl) ?_
    refine lv_ldc (v := 219145) hx hb hown (hts (.constant RX0 9 (219145)) qw_0) dX0_has_5 ?_
    refine lv_icmp_ge (tgt := 14) hx hb dX0_has_7 (by decide) (fun c7_2 => ?_) (fun c7_2 => by exfalso; have c7_2 : ¬ (219145 ≤ d.toInt) := mt (cv_le (by decide) rfl).mpr c7_2; omega)
    have c7_2 : 219145 ≤ d.toInt := (cv_le (by decide) rfl).mp c7_2
    refine lv_iconst (v := 0) hx hb dX0_has_14 (by decide) ?_
    exact W.zret (v := 0) hx hb hr rfl (fun t ht hW => ⟨0, rfl, (rfl), ht⟩) (fun _ h => absurd h List.not_mem_nil) dX0_has_15
set_option maxHeartbeats 4000000 in
set_option maxRecDepth 100000 in
theorem c_ml (l : Launch) (dC : Nat → ClassId) (dI : Nat → Nat → Nat) (g : Gv) (y : Nat) (m : Nat) (hy : y < 3000) (hm1 : 1 ≤ m) (hm2 : m ≤ 12) : Met l yX0_monthLength (.code yX0_monthLength cX0_monthLength 4 (some .int) :: TBL) ({ frames := 0, cells := 0, slots := 0, locals := 0 }) (va_Pc [.int (nI y), .int (nI m)] (fun U => va_P (dC, dI) vwCl [] U.heap ∧ va_K (dC, dI) vwCl [] U ∧ Ev g (fun _ => False) U)) (vp_Si (fun r => r = nI (mlN y m))) 0 0 (fun _ => False) := by
  refine Met.ofW (cc := cX0_monthLength) (maxL := 4) (ret := (some .int)) (by decide) rfl ?_
  intro p e s m args below meth c s₁ B hml hv
  obtain ⟨rfl, hP, hK, hE⟩ := hv
  have hx := B.exec
  have hb := B.bytes
  have hr := B.returns
  have hts0 := atoms_spec (ws := (.code yX0_monthLength cX0_monthLength 4 (some .int) :: TBL)) B.pre
  have hts := fun (w : Cond) (h : w ∈ TBL) => hts0 w (List.mem_cons_of_mem _ h)
  have hown : s.vm.findClass RX0 = some m.cls := findClass_of_methodNamed B.named
  have hlocks := B.notSynchronized
  have hN := hE.1
  have hS : va_S (fun _ => False) s.heap s.heap [] := va_S.rf
  have hP : va_P (dC, dI) vwCl [] s.heap := hP
  have hl := lv_entry ([.int (nI y), .int (nI m)]) (n := 4) (Nat.le_of_ble_eq_true rfl)
  rw [lg_entry_eq]
  generalize (lg_sl ([.int (nI y), .int (nI m)]) ++ List.replicate (4 - (lg_sl ([.int (nI y), .int (nI m)])).length) Slot.unset).toArray = ls at hl ⊢
  have hl : lv_has ls 4 [(0, .int (nI y)), (1, .int (nI m))] := hl
  refine lv_iload_n hx hb dX0_monthLength_0 rfl (lv_at hl 1 rfl) ?_
  refine lv_iconst (v := 1) hx hb dX0_monthLength_1 (by decide) ?_
  refine lv_icmp_lt (tgt := 13) hx hb dX0_monthLength_2 (by decide) (fun c2_1 => by exfalso; have c2_1 : ((m : Nat) : Int) < 1 := (cv_lt (nI_toInt (by omega)) (by decide)).mp c2_1; omega) (fun c2_1 => ?_)
  have c2_1 : ¬ (((m : Nat) : Int) < 1) := mt (cv_lt (nI_toInt (by omega)) (by decide)).mpr c2_1
  refine lv_iload_n hx hb dX0_monthLength_5 rfl (lv_at hl 1 rfl) ?_
  refine va_gets hx hb hE.2.1 hS hown (hts (.fieldLink RX0 10 "ClosedUntil$Calendar" "MONTH_LENGTHS" "[I") qw_1) (fun _ h9 => h9) dX0_monthLength_6 ?_
  refine va_tlen hx hb hE.2.2.1 hS (v := 12) (by decide) dX0_monthLength_9 ?_
  refine lv_icmp_le (tgt := 15) hx hb dX0_monthLength_10 (by decide) (fun c10_2 => ?_) (fun c10_2 => by exfalso; have c10_2 : ¬ (((m : Nat) : Int) ≤ 12) := mt (cv_le (nI_toInt (by omega)) (by decide)).mpr c10_2; omega)
  have c10_2 : ((m : Nat) : Int) ≤ 12 := (cv_le (nI_toInt (by omega)) (by decide)).mp c10_2
  refine lv_iload_n hx hb dX0_monthLength_15 rfl (lv_at hl 0 rfl) ?_
  refine lv_iconst (v := 4) hx hb dX0_monthLength_16 (by decide) ?_
  refine lv_irem hx hb dX0_monthLength_17 (by decide) ?_
  refine cst (v := nI (y % 4)) (pk_rem (by omega) (by omega) (by omega)) ?_
  refine lv_if_ne (tgt := 40) hx hb dX0_monthLength_18 (by decide) (fun c18_3 => ?_) (fun c18_3 => ?_)
  · have c18_3 : ¬ (((y % 4 : Nat) : Int) = 0) := mt (cv_eq (nI_toInt (by omega)) (by decide)).mpr c18_3
    refine lv_iconst (v := 0) hx hb dX0_monthLength_40 (by decide) ?_
    refine lv_istore_n (lv' := [(2, .int 0), (0, .int (nI y)), (1, .int (nI m))]) hx hb dX0_monthLength_41 rfl hl (by decide) rfl (fun ls hl => ?_)
    refine va_gets hx hb hE.2.1 hS hown (hts (.fieldLink RX0 10 "ClosedUntil$Calendar" "MONTH_LENGTHS" "[I") qw_1) (fun _ h9 => h9) dX0_monthLength_42 ?_
    refine lv_iload_n hx hb dX0_monthLength_45 rfl (lv_at hl 2 rfl) ?_
    refine lv_iconst (v := 1) hx hb dX0_monthLength_46 (by decide) ?_
    refine lv_isub hx hb dX0_monthLength_47 ?_
    refine cst (v := nI (m - 1)) (pk_sub (by omega)) ?_
    refine va_ti hx hb hE.2.2.1 hS (vp_in_nI (by omega) (by omega)) (v := .int (mlL.getD (nI (m - 1)).toNatClampNeg 0)) rfl dX0_monthLength_48 ?_
    refine cst (v := nI (mlB m)) (ml_at m (by omega) (by omega)) ?_
    have hmb := mlB_b m
    refine lv_istore_n (lv' := [(3, .int (nI (mlB m))), (2, .int 0), (0, .int (nI y)), (1, .int (nI m))]) hx hb dX0_monthLength_49 rfl hl (by decide) rfl (fun ls hl => ?_)
    refine lv_iload_n hx hb dX0_monthLength_50 rfl (lv_at hl 3 rfl) ?_
    refine lv_iconst (v := 2) hx hb dX0_monthLength_51 (by decide) ?_
    refine lv_icmp_ne (tgt := 65) hx hb dX0_monthLength_52 (by decide) (fun c52_4 => ?_) (fun c52_4 => ?_)
    · have c52_4 : ¬ (((m : Nat) : Int) = 2) := mt (cv_eq (nI_toInt (by omega)) (by decide)).mpr c52_4
      refine lv_iload_n hx hb dX0_monthLength_65 rfl (lv_at hl 0 rfl) ?_
      exact W.iret (v := (nI (mlB m))) hx hb hr (fun t ht hW => ⟨(nI (mlB m)), rfl, (by first | exact ml_a (by omega) | exact ml_b (by omega) (by omega) | exact ml_c (by omega) (by omega)), ht⟩) (fun _ h => absurd h List.not_mem_nil) dX0_monthLength_66
    · have c52_4 : ((m : Nat) : Int) = 2 := (cv_eq (nI_toInt (by omega)) (by decide)).mp c52_4
      refine lv_iload_n hx hb dX0_monthLength_55 rfl (lv_at hl 1 rfl) ?_
      refine lv_if_eq (tgt := 65) hx hb dX0_monthLength_56 (by decide) (fun c56_5 => ?_) (fun c56_5 => by exfalso; exact absurd c56_5 (by decide))
      refine lv_iload_n hx hb dX0_monthLength_65 rfl (lv_at hl 0 rfl) ?_
      exact W.iret (v := (nI (mlB m))) hx hb hr (fun t ht hW => ⟨(nI (mlB m)), rfl, (by first | exact ml_a (by omega) | exact ml_b (by omega) (by omega) | exact ml_c (by omega) (by omega)), ht⟩) (fun _ h => absurd h List.not_mem_nil) dX0_monthLength_66
  · have c18_3 : ((y % 4 : Nat) : Int) = 0 := (cv_eq (nI_toInt (by omega)) (by decide)).mp c18_3
    refine lv_iload_n hx hb dX0_monthLength_21 rfl (lv_at hl 0 rfl) ?_
    refine lv_bipush (v := 100) hx hb dX0_monthLength_22 (by decide) ?_
    refine lv_irem hx hb dX0_monthLength_24 (by decide) ?_
    refine cst (v := nI (y % 100)) (pk_rem (by omega) (by omega) (by omega)) ?_
    refine lv_if_ne (tgt := 36) hx hb dX0_monthLength_25 (by decide) (fun c25_6 => ?_) (fun c25_6 => ?_)
    · have c25_6 : ¬ (((y % 100 : Nat) : Int) = 0) := mt (cv_eq (nI_toInt (by omega)) (by decide)).mpr c25_6
      refine lv_iconst (v := 1) hx hb dX0_monthLength_36 (by decide) ?_
      refine lv_goto (tgt := 41) hx hb dX0_monthLength_37 (by decide) ?_
      refine lv_istore_n (lv' := [(2, .int 1), (0, .int (nI y)), (1, .int (nI m))]) hx hb dX0_monthLength_41 rfl hl (by decide) rfl (fun ls hl => ?_)
      refine va_gets hx hb hE.2.1 hS hown (hts (.fieldLink RX0 10 "ClosedUntil$Calendar" "MONTH_LENGTHS" "[I") qw_1) (fun _ h9 => h9) dX0_monthLength_42 ?_
      refine lv_iload_n hx hb dX0_monthLength_45 rfl (lv_at hl 2 rfl) ?_
      refine lv_iconst (v := 1) hx hb dX0_monthLength_46 (by decide) ?_
      refine lv_isub hx hb dX0_monthLength_47 ?_
      refine cst (v := nI (m - 1)) (pk_sub (by omega)) ?_
      refine va_ti hx hb hE.2.2.1 hS (vp_in_nI (by omega) (by omega)) (v := .int (mlL.getD (nI (m - 1)).toNatClampNeg 0)) rfl dX0_monthLength_48 ?_
      refine cst (v := nI (mlB m)) (ml_at m (by omega) (by omega)) ?_
      have hmb := mlB_b m
      refine lv_istore_n (lv' := [(3, .int (nI (mlB m))), (2, .int 1), (0, .int (nI y)), (1, .int (nI m))]) hx hb dX0_monthLength_49 rfl hl (by decide) rfl (fun ls hl => ?_)
      refine lv_iload_n hx hb dX0_monthLength_50 rfl (lv_at hl 3 rfl) ?_
      refine lv_iconst (v := 2) hx hb dX0_monthLength_51 (by decide) ?_
      refine lv_icmp_ne (tgt := 65) hx hb dX0_monthLength_52 (by decide) (fun c52_7 => ?_) (fun c52_7 => ?_)
      · have c52_7 : ¬ (((m : Nat) : Int) = 2) := mt (cv_eq (nI_toInt (by omega)) (by decide)).mpr c52_7
        refine lv_iload_n hx hb dX0_monthLength_65 rfl (lv_at hl 0 rfl) ?_
        exact W.iret (v := (nI (mlB m))) hx hb hr (fun t ht hW => ⟨(nI (mlB m)), rfl, (by first | exact ml_a (by omega) | exact ml_b (by omega) (by omega) | exact ml_c (by omega) (by omega)), ht⟩) (fun _ h => absurd h List.not_mem_nil) dX0_monthLength_66
      · have c52_7 : ((m : Nat) : Int) = 2 := (cv_eq (nI_toInt (by omega)) (by decide)).mp c52_7
        refine lv_iload_n hx hb dX0_monthLength_55 rfl (lv_at hl 1 rfl) ?_
        refine lv_if_eq (tgt := 65) hx hb dX0_monthLength_56 (by decide) (fun c56_8 => by exfalso; exact absurd c56_8 (by decide)) (fun c56_8 => ?_)
        refine lv_iload_n hx hb dX0_monthLength_59 rfl (lv_at hl 0 rfl) ?_
        refine lv_iconst (v := 1) hx hb dX0_monthLength_60 (by decide) ?_
        refine lv_iadd hx hb dX0_monthLength_61 ?_
        refine cst (v := nI ((mlB m) + 1)) (nI_add (mlB m) 1) ?_
        refine lv_goto (tgt := 66) hx hb dX0_monthLength_62 (by decide) ?_
        exact W.iret (v := (nI ((mlB m) + 1))) hx hb hr (fun t ht hW => ⟨(nI ((mlB m) + 1)), rfl, (by first | exact ml_a (by omega) | exact ml_b (by omega) (by omega) | exact ml_c (by omega) (by omega)), ht⟩) (fun _ h => absurd h List.not_mem_nil) dX0_monthLength_66
    · have c25_6 : ((y % 100 : Nat) : Int) = 0 := (cv_eq (nI_toInt (by omega)) (by decide)).mp c25_6
      refine lv_iload_n hx hb dX0_monthLength_28 rfl (lv_at hl 0 rfl) ?_
      refine lv_sipush (v := 400) hx hb dX0_monthLength_29 (by decide) ?_
      refine lv_irem hx hb dX0_monthLength_32 (by decide) ?_
      refine cst (v := nI (y % 400)) (pk_rem (by omega) (by omega) (by omega)) ?_
      refine lv_if_ne (tgt := 40) hx hb dX0_monthLength_33 (by decide) (fun c33_9 => ?_) (fun c33_9 => ?_)
      · have c33_9 : ¬ (((y % 400 : Nat) : Int) = 0) := mt (cv_eq (nI_toInt (by omega)) (by decide)).mpr c33_9
        refine lv_iconst (v := 0) hx hb dX0_monthLength_40 (by decide) ?_
        refine lv_istore_n (lv' := [(2, .int 0), (0, .int (nI y)), (1, .int (nI m))]) hx hb dX0_monthLength_41 rfl hl (by decide) rfl (fun ls hl => ?_)
        refine va_gets hx hb hE.2.1 hS hown (hts (.fieldLink RX0 10 "ClosedUntil$Calendar" "MONTH_LENGTHS" "[I") qw_1) (fun _ h9 => h9) dX0_monthLength_42 ?_
        refine lv_iload_n hx hb dX0_monthLength_45 rfl (lv_at hl 2 rfl) ?_
        refine lv_iconst (v := 1) hx hb dX0_monthLength_46 (by decide) ?_
        refine lv_isub hx hb dX0_monthLength_47 ?_
        refine cst (v := nI (m - 1)) (pk_sub (by omega)) ?_
        refine va_ti hx hb hE.2.2.1 hS (vp_in_nI (by omega) (by omega)) (v := .int (mlL.getD (nI (m - 1)).toNatClampNeg 0)) rfl dX0_monthLength_48 ?_
        refine cst (v := nI (mlB m)) (ml_at m (by omega) (by omega)) ?_
        have hmb := mlB_b m
        refine lv_istore_n (lv' := [(3, .int (nI (mlB m))), (2, .int 0), (0, .int (nI y)), (1, .int (nI m))]) hx hb dX0_monthLength_49 rfl hl (by decide) rfl (fun ls hl => ?_)
        refine lv_iload_n hx hb dX0_monthLength_50 rfl (lv_at hl 3 rfl) ?_
        refine lv_iconst (v := 2) hx hb dX0_monthLength_51 (by decide) ?_
        refine lv_icmp_ne (tgt := 65) hx hb dX0_monthLength_52 (by decide) (fun c52_10 => ?_) (fun c52_10 => ?_)
        · have c52_10 : ¬ (((m : Nat) : Int) = 2) := mt (cv_eq (nI_toInt (by omega)) (by decide)).mpr c52_10
          refine lv_iload_n hx hb dX0_monthLength_65 rfl (lv_at hl 0 rfl) ?_
          exact W.iret (v := (nI (mlB m))) hx hb hr (fun t ht hW => ⟨(nI (mlB m)), rfl, (by first | exact ml_a (by omega) | exact ml_b (by omega) (by omega) | exact ml_c (by omega) (by omega)), ht⟩) (fun _ h => absurd h List.not_mem_nil) dX0_monthLength_66
        · have c52_10 : ((m : Nat) : Int) = 2 := (cv_eq (nI_toInt (by omega)) (by decide)).mp c52_10
          refine lv_iload_n hx hb dX0_monthLength_55 rfl (lv_at hl 1 rfl) ?_
          refine lv_if_eq (tgt := 65) hx hb dX0_monthLength_56 (by decide) (fun c56_11 => ?_) (fun c56_11 => by exfalso; exact absurd c56_11 (by decide))
          refine lv_iload_n hx hb dX0_monthLength_65 rfl (lv_at hl 0 rfl) ?_
          exact W.iret (v := (nI (mlB m))) hx hb hr (fun t ht hW => ⟨(nI (mlB m)), rfl, (by first | exact ml_a (by omega) | exact ml_b (by omega) (by omega) | exact ml_c (by omega) (by omega)), ht⟩) (fun _ h => absurd h List.not_mem_nil) dX0_monthLength_66
      · have c33_9 : ((y % 400 : Nat) : Int) = 0 := (cv_eq (nI_toInt (by omega)) (by decide)).mp c33_9
        refine lv_iconst (v := 1) hx hb dX0_monthLength_36 (by decide) ?_
        refine lv_goto (tgt := 41) hx hb dX0_monthLength_37 (by decide) ?_
        refine lv_istore_n (lv' := [(2, .int 1), (0, .int (nI y)), (1, .int (nI m))]) hx hb dX0_monthLength_41 rfl hl (by decide) rfl (fun ls hl => ?_)
        refine va_gets hx hb hE.2.1 hS hown (hts (.fieldLink RX0 10 "ClosedUntil$Calendar" "MONTH_LENGTHS" "[I") qw_1) (fun _ h9 => h9) dX0_monthLength_42 ?_
        refine lv_iload_n hx hb dX0_monthLength_45 rfl (lv_at hl 2 rfl) ?_
        refine lv_iconst (v := 1) hx hb dX0_monthLength_46 (by decide) ?_
        refine lv_isub hx hb dX0_monthLength_47 ?_
        refine cst (v := nI (m - 1)) (pk_sub (by omega)) ?_
        refine va_ti hx hb hE.2.2.1 hS (vp_in_nI (by omega) (by omega)) (v := .int (mlL.getD (nI (m - 1)).toNatClampNeg 0)) rfl dX0_monthLength_48 ?_
        refine cst (v := nI (mlB m)) (ml_at m (by omega) (by omega)) ?_
        have hmb := mlB_b m
        refine lv_istore_n (lv' := [(3, .int (nI (mlB m))), (2, .int 1), (0, .int (nI y)), (1, .int (nI m))]) hx hb dX0_monthLength_49 rfl hl (by decide) rfl (fun ls hl => ?_)
        refine lv_iload_n hx hb dX0_monthLength_50 rfl (lv_at hl 3 rfl) ?_
        refine lv_iconst (v := 2) hx hb dX0_monthLength_51 (by decide) ?_
        refine lv_icmp_ne (tgt := 65) hx hb dX0_monthLength_52 (by decide) (fun c52_12 => ?_) (fun c52_12 => ?_)
        · have c52_12 : ¬ (((m : Nat) : Int) = 2) := mt (cv_eq (nI_toInt (by omega)) (by decide)).mpr c52_12
          refine lv_iload_n hx hb dX0_monthLength_65 rfl (lv_at hl 0 rfl) ?_
          exact W.iret (v := (nI (mlB m))) hx hb hr (fun t ht hW => ⟨(nI (mlB m)), rfl, (by first | exact ml_a (by omega) | exact ml_b (by omega) (by omega) | exact ml_c (by omega) (by omega)), ht⟩) (fun _ h => absurd h List.not_mem_nil) dX0_monthLength_66
        · have c52_12 : ((m : Nat) : Int) = 2 := (cv_eq (nI_toInt (by omega)) (by decide)).mp c52_12
          refine lv_iload_n hx hb dX0_monthLength_55 rfl (lv_at hl 1 rfl) ?_
          refine lv_if_eq (tgt := 65) hx hb dX0_monthLength_56 (by decide) (fun c56_13 => by exfalso; exact absurd c56_13 (by decide)) (fun c56_13 => ?_)
          refine lv_iload_n hx hb dX0_monthLength_59 rfl (lv_at hl 0 rfl) ?_
          refine lv_iconst (v := 1) hx hb dX0_monthLength_60 (by decide) ?_
          refine lv_iadd hx hb dX0_monthLength_61 ?_
          refine cst (v := nI ((mlB m) + 1)) (nI_add (mlB m) 1) ?_
          refine lv_goto (tgt := 66) hx hb dX0_monthLength_62 (by decide) ?_
          exact W.iret (v := (nI ((mlB m) + 1))) hx hb hr (fun t ht hW => ⟨(nI ((mlB m) + 1)), rfl, (by first | exact ml_a (by omega) | exact ml_b (by omega) (by omega) | exact ml_c (by omega) (by omega)), ht⟩) (fun _ h => absurd h List.not_mem_nil) dX0_monthLength_66
set_option maxHeartbeats 4000000 in
set_option maxRecDepth 100000 in
theorem c_ml_out (l : Launch) (dC : Nat → ClassId) (dI : Nat → Nat → Nat) (g : Gv) (y : Int32) (m : Int32) (hm : ¬ (1 ≤ m.toInt ∧ m.toInt ≤ 12)) : Met l yX0_monthLength (.code yX0_monthLength cX0_monthLength 4 (some .int) :: TBL) ({ frames := 0, cells := 0, slots := 0, locals := 0 }) (va_Pc [.int y, .int m] (fun U => va_P (dC, dI) vwCl [] U.heap ∧ va_K (dC, dI) vwCl [] U ∧ Ev g (fun _ => False) U)) (vp_Si (fun r => r = 0)) 0 0 (fun _ => False) := by
  refine Met.ofW (cc := cX0_monthLength) (maxL := 4) (ret := (some .int)) (by decide) rfl ?_
  intro p e s m args below meth c s₁ B hml hv
  obtain ⟨rfl, hP, hK, hE⟩ := hv
  have hx := B.exec
  have hb := B.bytes
  have hr := B.returns
  have hts0 := atoms_spec (ws := (.code yX0_monthLength cX0_monthLength 4 (some .int) :: TBL)) B.pre
  have hts := fun (w : Cond) (h : w ∈ TBL) => hts0 w (List.mem_cons_of_mem _ h)
  have hown : s.vm.findClass RX0 = some m.cls := findClass_of_methodNamed B.named
  have hlocks := B.notSynchronized
  have hN := hE.1
  have hS : va_S (fun _ => False) s.heap s.heap [] := va_S.rf
  have hP : va_P (dC, dI) vwCl [] s.heap := hP
  have hl := lv_entry ([.int y, .int m]) (n := 4) (Nat.le_of_ble_eq_true rfl)
  rw [lg_entry_eq]
  generalize (lg_sl ([.int y, .int m]) ++ List.replicate (4 - (lg_sl ([.int y, .int m])).length) Slot.unset).toArray = ls at hl ⊢
  have hl : lv_has ls 4 [(0, .int y), (1, .int m)] := hl
  refine lv_iload_n hx hb dX0_monthLength_0 rfl (lv_at hl 1 rfl) ?_
  refine lv_iconst (v := 1) hx hb dX0_monthLength_1 (by decide) ?_
  refine lv_icmp_lt (tgt := 13) hx hb dX0_monthLength_2 (by decide) (fun c2_1 => ?_) (fun c2_1 => ?_)
  · have c2_1 : m.toInt < 1 := (cv_lt rfl (by decide)).mp c2_1
    refine lv_iconst (v := 0) hx hb dX0_monthLength_13 (by decide) ?_
    exact W.iret (v := 0) hx hb hr (fun t ht hW => ⟨0, rfl, (rfl), ht⟩) (fun _ h => absurd h List.not_mem_nil) dX0_monthLength_14
  · have c2_1 : ¬ (m.toInt < 1) := mt (cv_lt rfl (by decide)).mpr c2_1
    refine lv_iload_n hx hb dX0_monthLength_5 rfl (lv_at hl 1 rfl) ?_
    refine va_gets hx hb hE.2.1 hS hown (hts (.fieldLink RX0 10 "ClosedUntil$Calendar" "MONTH_LENGTHS" "[I") qw_1) (fun _ h9 => h9) dX0_monthLength_6 ?_
    refine va_tlen hx hb hE.2.2.1 hS (v := 12) (by decide) dX0_monthLength_9 ?_
    refine lv_icmp_le (tgt := 15) hx hb dX0_monthLength_10 (by decide) (fun c10_2 => by exfalso; have c10_2 : m.toInt ≤ 12 := (cv_le rfl (by decide)).mp c10_2; omega) (fun c10_2 => ?_)
    have c10_2 : ¬ (m.toInt ≤ 12) := mt (cv_le rfl (by decide)).mpr c10_2
    refine lv_iconst (v := 0) hx hb dX0_monthLength_13 (by decide) ?_
    exact W.iret (v := 0) hx hb hr (fun t ht hW => ⟨0, rfl, (rfl), ht⟩) (fun _ h => absurd h List.not_mem_nil) dX0_monthLength_14
set_option maxHeartbeats 4000000 in
set_option maxRecDepth 100000 in
theorem c_so (l : Launch) (dC : Nat → ClassId) (dI : Nat → Nat → Nat) (g : Gv) (k : Nat) (hk : k ≤ 600) : Met l yX0_startOf (.code yX0_startOf cX0_startOf 3 (some .int) :: TBL) ({ frames := 0, cells := 0, slots := 0, locals := 0 }) (va_Pc [.int (nI (1700 + k))] (fun U => va_P (dC, dI) vwCl [] U.heap ∧ va_K (dC, dI) vwCl [] U ∧ Ev g (fun _ => False) U)) (vp_Si (fun r => r = nI (Fk k))) 0 0 (fun _ => False) := by
  refine Met.ofW (cc := cX0_startOf) (maxL := 3) (ret := (some .int)) (by decide) rfl ?_
  intro p e s m args below meth c s₁ B hml hv
  obtain ⟨rfl, hP, hK, hE⟩ := hv
  have hx := B.exec
  have hb := B.bytes
  have hr := B.returns
  have hts0 := atoms_spec (ws := (.code yX0_startOf cX0_startOf 3 (some .int) :: TBL)) B.pre
  have hts := fun (w : Cond) (h : w ∈ TBL) => hts0 w (List.mem_cons_of_mem _ h)
  have hown : s.vm.findClass RX0 = some m.cls := findClass_of_methodNamed B.named
  have hlocks := B.notSynchronized
  have hN := hE.1
  have hS : va_S (fun _ => False) s.heap s.heap [] := va_S.rf
  have hP : va_P (dC, dI) vwCl [] s.heap := hP
  have hl := lv_entry ([.int (nI (1700 + k))]) (n := 3) (Nat.le_of_ble_eq_true rfl)
  rw [lg_entry_eq]
  generalize (lg_sl ([.int (nI (1700 + k))]) ++ List.replicate (3 - (lg_sl ([.int (nI (1700 + k))])).length) Slot.unset).toArray = ls at hl ⊢
  have hl : lv_has ls 3 [(0, .int (nI (1700 + k)))] := hl
  refine lv_iload_n hx hb dX0_startOf_0 rfl (lv_at hl 0 rfl) ?_
  refine lv_iconst (v := 1) hx hb dX0_startOf_1 (by decide) ?_
  refine lv_isub hx hb dX0_startOf_2 ?_
  refine cst (v := nI ((1700 + k) - 1)) (pk_sub (by omega)) ?_
  refine lv_istore_n (lv' := [(1, .int (nI ((1700 + k) - 1))), (0, .int (nI (1700 + k)))]) hx hb dX0_startOf_3 rfl hl (by decide) rfl (fun ls hl => ?_)
  refine lv_iload_n hx hb dX0_startOf_4 rfl (lv_at hl 0 rfl) ?_
  refine lv_iconst (v := 4) hx hb dX0_startOf_5 (by decide) ?_
  refine lv_idiv hx hb dX0_startOf_6 (by decide) ?_
  refine cst (v := nI (((1700 + k) - 1) / 4)) (pk_div (by omega) (by omega) (by omega)) ?_
  refine lv_iload_n hx hb dX0_startOf_7 rfl (lv_at hl 0 rfl) ?_
  refine lv_bipush (v := 100) hx hb dX0_startOf_8 (by decide) ?_
  refine lv_idiv hx hb dX0_startOf_10 (by decide) ?_
  refine cst (v := nI (((1700 + k) - 1) / 100)) (pk_div (by omega) (by omega) (by omega)) ?_
  refine lv_isub hx hb dX0_startOf_11 ?_
  refine cst (v := nI ((((1700 + k) - 1) / 4) - (((1700 + k) - 1) / 100))) (pk_sub (by omega)) ?_
  refine lv_iload_n hx hb dX0_startOf_12 rfl (lv_at hl 0 rfl) ?_
  refine lv_sipush (v := 400) hx hb dX0_startOf_13 (by decide) ?_
  refine lv_idiv hx hb dX0_startOf_16 (by decide) ?_
  refine cst (v := nI (((1700 + k) - 1) / 400)) (pk_div (by omega) (by omega) (by omega)) ?_
  refine lv_iadd hx hb dX0_startOf_17 ?_
  refine cst (v := nI (((((1700 + k) - 1) / 4) - (((1700 + k) - 1) / 100)) + (((1700 + k) - 1) / 400))) (nI_add ((((1700 + k) - 1) / 4) - (((1700 + k) - 1) / 100)) (((1700 + k) - 1) / 400)) ?_
  refine lv_sipush (v := 412) hx hb dX0_startOf_18 (by decide) ?_
  refine lv_isub hx hb dX0_startOf_21 ?_
  refine cst (v := nI ((((((1700 + k) - 1) / 4) - (((1700 + k) - 1) / 100)) + (((1700 + k) - 1) / 400)) - 412)) (pk_sub (by omega)) ?_
  refine lv_istore_n (lv' := [(2, .int (nI ((((((1700 + k) - 1) / 4) - (((1700 + k) - 1) / 100)) + (((1700 + k) - 1) / 400)) - 412))), (1, .int (nI ((1700 + k) - 1))), (0, .int (nI (1700 + k)))]) hx hb dX0_startOf_22 rfl hl (by decide) rfl (fun ls hl => ?_)
  refine lv_sipush (v := 365) hx hb dX0_startOf_23 (by decide) ?_
  refine lv_iload_n hx hb dX0_startOf_26 rfl (lv_at hl 2 rfl) ?_
  refine lv_sipush (v := 1700) hx hb dX0_startOf_27 (by decide) ?_
  refine lv_isub hx hb dX0_startOf_30 ?_
  refine cst (v := nI ((1700 + k) - 1700)) (pk_sub (by omega)) ?_
  refine lv_imul hx hb dX0_startOf_31 ?_
  refine cst (v := nI (365 * ((1700 + k) - 1700))) (pk_mul 365 ((1700 + k) - 1700)) ?_
  refine lv_iload_n hx hb dX0_startOf_32 rfl (lv_at hl 0 rfl) ?_
  refine lv_iadd hx hb dX0_startOf_33 ?_
  refine cst (v := nI ((365 * ((1700 + k) - 1700)) + ((((((1700 + k) - 1) / 4) - (((1700 + k) - 1) / 100)) + (((1700 + k) - 1) / 400)) - 412))) (nI_add (365 * ((1700 + k) - 1700)) ((((((1700 + k) - 1) / 4) - (((1700 + k) - 1) / 100)) + (((1700 + k) - 1) / 400)) - 412)) ?_
  exact W.iret (v := (nI ((365 * ((1700 + k) - 1700)) + ((((((1700 + k) - 1) / 4) - (((1700 + k) - 1) / 100)) + (((1700 + k) - 1) / 400)) - 412)))) hx hb hr (fun t ht hW => ⟨(nI ((365 * ((1700 + k) - 1700)) + ((((((1700 + k) - 1) / 4) - (((1700 + k) - 1) / 100)) + (((1700 + k) - 1) / 400)) - 412))), rfl, (by congr 1; unfold Fk; omega), ht⟩) (fun _ h => absurd h List.not_mem_nil) dX0_startOf_34
