theorem ys_add {a : Nat} {n : Int32} (ha : a < 5000) (hn : -600 ≤ n.toInt ∧ n.toInt ≤ 600) : (nI a + n).toInt = (a : Int) + n.toInt := by
  rw [Int32.toInt_add, nI_toInt (by omega)]
  apply Int.bmod_eq_of_le <;> omega
theorem ys_sum {a b : Nat} {n : Int32} (ha : a < 5000) (hn : -600 ≤ n.toInt ∧ n.toInt ≤ 600) (hb : b < 5000) (h : (a : Int) + n.toInt = b) : nI a + n = nI b := by
  apply Int32.toInt_inj.mp
  rw [ys_add ha hn, nI_toInt (by omega)]; exact h
theorem mn_ok {a b : Nat} (ha : a < 5000) (hb : b < 5000) : (if nI b < nI a then nI b else nI a) = nI (min a b) := by
  rcases Nat.lt_or_ge b a with q | q
  · rw [if_pos (nI_lt q (by omega)), Nat.min_eq_right (by omega)]
  · rw [if_neg (nI_nlt q (by omega)), Nat.min_eq_left q]

theorem qw_663 : (Cond.code yX8_sooner cX8_sooner 7 (some .int) : Cond) ∈ TBL := List.mem_of_getElem? (i := 768) (by decide +kernel)
theorem qw_664 : (Cond.methodLink RL 7 yX8_sooner : Cond) ∈ TBL := List.mem_of_getElem? (i := 765) (by decide +kernel)
theorem qw_665 : (Cond.instanceMethod yX8_sooner : Cond) ∈ TBL := List.mem_of_getElem? (i := 766) (by decide +kernel)
theorem qw_666 : (Cond.selects RX8 yX8_sooner yX8_sooner : Cond) ∈ TBL := List.mem_of_getElem? (i := 767) (by decide +kernel)
theorem qw_667 : (Cond.classLink RL 13 "java/util/NoSuchElementException" : Cond) ∈ TBL := List.mem_of_getElem? (i := 764) (by decide +kernel)
set_option maxHeartbeats 4000000 in
set_option maxRecDepth 100000 in
theorem c_has_in (l : Launch) (dC : Nat → ClassId) (dI : Nat → Nat → Nat) (g : Gv) (d : Nat) (hd : d < 219145) : Met l yX0_has (.code yX0_has cX0_has 1 (some .boolean) :: TBL) ({ frames := 0, cells := 0, slots := 0, locals := 0 }) (va_Pc [.int (nI d)] (fun U => va_P (dC, dI) vwCl [] U.heap ∧ va_K (dC, dI) vwCl [] U ∧ Ev g (fun _ => False) U)) (vp_Si (fun r => r = 1)) 0 0 (fun _ => False) := by
  refine Met.ofW (cc := cX0_has) (maxL := 1) (ret := (some .boolean)) (by decide) rfl ?_
  intro p e s m args below meth c s₁ B hml hv
  obtain ⟨rfl, hP, hK, hE⟩ := hv
  have hx := B.exec
  have hb := B.bytes
  have hr := B.returns
  have hts0 := atoms_spec (ws := (.code yX0_has cX0_has 1 (some .boolean) :: TBL)) B.pre
  have hts := fun (w : Cond) (h : w ∈ TBL) => hts0 w (List.mem_cons_of_mem _ h)
  have hown : s.vm.findClass RX0 = some m.cls := findClass_of_methodNamed B.named
  have hlocks := B.notSynchronized
  have hN := hE.1
  have hS : va_S (fun _ => False) s.heap s.heap [] := va_S.rf
  have hP : va_P (dC, dI) vwCl [] s.heap := hP
  have hl := lv_entry ([.int (nI d)]) (n := 1) (Nat.le_of_ble_eq_true rfl)
  rw [lg_entry_eq]
  generalize (lg_sl ([.int (nI d)]) ++ List.replicate (1 - (lg_sl ([.int (nI d)])).length) Slot.unset).toArray = ls at hl ⊢
  have hl : lv_has ls 1 [(0, .int (nI d))] := hl
  refine lv_iload_n hx hb dX0_has_0 rfl (lv_at hl 0 rfl) ?_
  refine lv_if_lt (tgt := 14) hx hb dX0_has_1 (by decide) (fun c1_1 => by exfalso; have c1_1 : ((d : Nat) : Int) < 0 := (cv_lt (nI_toInt (by omega)) (by decide)).mp c1_1; omega) (fun c1_1 => ?_)
  have c1_1 : ¬ (((d : Nat) : Int) < 0) := mt (cv_lt (nI_toInt (by omega)) (by decide)).mpr c1_1
  refine lv_iload_n hx hb dX0_has_4 rfl (lv_at hl 0 rfl) ?_
  refine lv_ldc (v := 219145) hx hb hown (hts (.constant RX0 9 (219145)) qw_0) dX0_has_5 ?_
  refine lv_icmp_ge (tgt := 14) hx hb dX0_has_7 (by decide) (fun c7_2 => by exfalso; have c7_2 : 219145 ≤ ((d : Nat) : Int) := (cv_le (by decide) (nI_toInt (by omega))).mp c7_2; omega) (fun c7_2 => ?_)
  have c7_2 : ¬ (219145 ≤ ((d : Nat) : Int)) := mt (cv_le (by decide) (nI_toInt (by omega))).mpr c7_2
  refine lv_iconst (v := 1) hx hb dX0_has_10 (by decide) ?_
  refine lv_goto (tgt := 15) hx hb dX0_has_11 (by decide) ?_
  exact W.zret (v := 1) hx hb hr rfl (fun t ht hW => ⟨1, rfl, (rfl), ht⟩) (fun _ h => absurd h List.not_mem_nil) dX0_has_15
set_option maxHeartbeats 4000000 in
set_option maxRecDepth 100000 in
theorem c_has_out (l : Launch) (dC : Nat → ClassId) (dI : Nat → Nat → Nat) (g : Gv) (d : Int32) (hd : ¬ (0 ≤ d.toInt ∧ d.toInt < 219145)) : Met l yX0_has (.code yX0_has cX0_has 1 (some .boolean) :: TBL) ({ frames := 0, cells := 0, slots := 0, locals := 0 }) (va_Pc [.int d] (fun U => va_P (dC, dI) vwCl [] U.heap ∧ va_K (dC, dI) vwCl [] U ∧ Ev g (fun _ => False) U)) (vp_Si (fun r => r = 0)) 0 0 (fun _ => False) := by
  refine Met.ofW (cc := cX0_has) (maxL := 1) (ret := (some .boolean)) (by decide) rfl ?_
  intro p e s m args below meth c s₁ B hml hv
  obtain ⟨rfl, hP, hK, hE⟩ := hv
  have hx := B.exec
  have hb := B.bytes
  have hr := B.returns
  have hts0 := atoms_spec (ws := (.code yX0_has cX0_has 1 (some .boolean) :: TBL)) B.pre
  have hts := fun (w : Cond) (h : w ∈ TBL) => hts0 w (List.mem_cons_of_mem _ h)
  have hown : s.vm.findClass RX0 = some m.cls := findClass_of_methodNamed B.named
  have hlocks := B.notSynchronized
  have hN := hE.1
  have hS : va_S (fun _ => False) s.heap s.heap [] := va_S.rf
  have hP : va_P (dC, dI) vwCl [] s.heap := hP
  have hl := lv_entry ([.int d]) (n := 1) (Nat.le_of_ble_eq_true rfl)
  rw [lg_entry_eq]
  generalize (lg_sl ([.int d]) ++ List.replicate (1 - (lg_sl ([.int d])).length) Slot.unset).toArray = ls at hl ⊢
  have hl : lv_has ls 1 [(0, .int d)] := hl
  refine lv_iload_n hx hb dX0_has_0 rfl (lv_at hl 0 rfl) ?_
  refine lv_if_lt (tgt := 14) hx hb dX0_has_1 (by decide) (fun c1_1 => ?_) (fun c1_1 => ?_)
  · have c1_1 : d.toInt < 0 := (cv_lt rfl (by decide)).mp c1_1
    refine lv_iconst (v := 0) hx hb dX0_has_14 (by decide) ?_
    exact W.zret (v := 0) hx hb hr rfl (fun t ht hW => ⟨0, rfl, (rfl), ht⟩) (fun _ h => absurd h List.not_mem_nil) dX0_has_15
  · have c1_1 : ¬ (d.toInt < 0) := mt (cv_lt rfl (by decide)).mpr c1_1
    refine lv_iload_n hx hb dX0_has_4 rfl (lv_at hl 0 rfl) ?_
    refine lv_ldc (v := 219145) hx hb hown (hts (.constant RX0 9 (219145)) qw_0) dX0_has_5 ?_
    refine lv_icmp_ge (tgt := 14) hx hb dX0_has_7 (by decide) (fun c7_2 => ?_) (fun c7_2 => by exfalso; have c7_2 : ¬ (219145 ≤ d.toInt) := mt (cv_le (by decide) rfl).mpr c7_2; omega)
    have c7_2 : 219145 ≤ d.toInt := (cv_le (by decide) rfl).mp c7_2
    refine lv_iconst (v := 0) hx hb dX0_has_14 (by decide) ?_
    exact W.zret (v := 0) hx hb hr rfl (fun t ht hW => ⟨0, rfl, (rfl), ht⟩) (fun _ h => absurd h List.not_mem_nil) dX0_has_15
set_option maxHeartbeats 4000000 in
set_option maxRecDepth 100000 in
theorem c_ml (l : Launch) (dC : Nat → ClassId) (dI : Nat → Nat → Nat) (g : Gv) (y : Nat) (mo : Nat) (hy : y < 3000) (hm1 : 1 ≤ mo) (hm2 : mo ≤ 12) : Met l yX0_monthLength (.code yX0_monthLength cX0_monthLength 4 (some .int) :: TBL) ({ frames := 0, cells := 0, slots := 0, locals := 0 }) (va_Pc [.int (nI y), .int (nI mo)] (fun U => va_P (dC, dI) vwCl [] U.heap ∧ va_K (dC, dI) vwCl [] U ∧ Ev g (fun _ => False) U)) (vp_Si (fun r => r = nI (mlN y mo))) 0 0 (fun _ => False) := by
  refine Met.ofW (cc := cX0_monthLength) (maxL := 4) (ret := (some .int)) (by decide) rfl ?_
  intro p e s m args below meth c s₁ B hml hv
  obtain ⟨rfl, hP, hK, hE⟩ := hv
  have hx := B.exec
  have hb := B.bytes
  have hr := B.returns
  have hts0 := atoms_spec (ws := (.code yX0_monthLength cX0_monthLength 4 (some .int) :: TBL)) B.pre
  have hts := fun (w : Cond) (h : w ∈ TBL) => hts0 w (List.mem_cons_of_mem _ h)
  have hown : s.vm.findClass RX0 = some m.cls := findClass_of_methodNamed B.named
  have hlocks := B.notSynchronized
  have hN := hE.1
  have hS : va_S (fun _ => False) s.heap s.heap [] := va_S.rf
  have hP : va_P (dC, dI) vwCl [] s.heap := hP
  have hl := lv_entry ([.int (nI y), .int (nI mo)]) (n := 4) (Nat.le_of_ble_eq_true rfl)
  rw [lg_entry_eq]
  generalize (lg_sl ([.int (nI y), .int (nI mo)]) ++ List.replicate (4 - (lg_sl ([.int (nI y), .int (nI mo)])).length) Slot.unset).toArray = ls at hl ⊢
  have hl : lv_has ls 4 [(0, .int (nI y)), (1, .int (nI mo))] := hl
  refine lv_iload_n hx hb dX0_monthLength_0 rfl (lv_at hl 1 rfl) ?_
  refine lv_iconst (v := 1) hx hb dX0_monthLength_1 (by decide) ?_
  refine lv_icmp_lt (tgt := 13) hx hb dX0_monthLength_2 (by decide) (fun c2_1 => by exfalso; have c2_1 : ((mo : Nat) : Int) < 1 := (cv_lt (nI_toInt (by omega)) (by decide)).mp c2_1; omega) (fun c2_1 => ?_)
  have c2_1 : ¬ (((mo : Nat) : Int) < 1) := mt (cv_lt (nI_toInt (by omega)) (by decide)).mpr c2_1
  refine lv_iload_n hx hb dX0_monthLength_5 rfl (lv_at hl 1 rfl) ?_
  refine va_gets hx hb hE.2.1 hS hown (hts (.fieldLink RX0 10 "ClosedUntil$Calendar" "MONTH_LENGTHS" "[I") qw_1) (fun _ h9 => h9) dX0_monthLength_6 ?_
  refine va_tlen hx hb hE.2.2.1 hS (v := 12) (by decide) dX0_monthLength_9 ?_
  refine lv_icmp_le (tgt := 15) hx hb dX0_monthLength_10 (by decide) (fun c10_2 => ?_) (fun c10_2 => by exfalso; have c10_2 : ¬ (((mo : Nat) : Int) ≤ 12) := mt (cv_le (nI_toInt (by omega)) (by decide)).mpr c10_2; omega)
  have c10_2 : ((mo : Nat) : Int) ≤ 12 := (cv_le (nI_toInt (by omega)) (by decide)).mp c10_2
  refine lv_iload_n hx hb dX0_monthLength_15 rfl (lv_at hl 0 rfl) ?_
  refine lv_iconst (v := 4) hx hb dX0_monthLength_16 (by decide) ?_
  refine lv_irem hx hb dX0_monthLength_17 (by decide) ?_
  refine cst (v := nI (y % 4)) (pk_rem (a := y) (d := 4) (by omega) (by omega) (by omega)) ?_
  refine lv_if_ne (tgt := 40) hx hb dX0_monthLength_18 (by decide) (fun c18_3 => ?_) (fun c18_3 => ?_)
  · have c18_3 : ¬ (((y % 4 : Nat) : Int) = 0) := mt (cv_eq (nI_toInt (by omega)) (by decide)).mpr c18_3
    refine lv_iconst (v := 0) hx hb dX0_monthLength_40 (by decide) ?_
    refine lv_istore_n (lv' := [(2, .int 0), (0, .int (nI y)), (1, .int (nI mo))]) hx hb dX0_monthLength_41 rfl hl (by decide) rfl (fun ls hl => ?_)
    refine va_gets hx hb hE.2.1 hS hown (hts (.fieldLink RX0 10 "ClosedUntil$Calendar" "MONTH_LENGTHS" "[I") qw_1) (fun _ h9 => h9) dX0_monthLength_42 ?_
    refine lv_iload_n hx hb dX0_monthLength_45 rfl (lv_at hl 2 rfl) ?_
    refine lv_iconst (v := 1) hx hb dX0_monthLength_46 (by decide) ?_
    refine lv_isub hx hb dX0_monthLength_47 ?_
    refine cst (v := nI (mo - 1)) (pk_sub (a := mo) (b := 1) (by omega)) ?_
    refine va_ti hx hb hE.2.2.1 hS (vp_in_nI (by omega) (by omega)) (v := .int (mlL.getD (nI (mo - 1)).toNatClampNeg 0)) rfl dX0_monthLength_48 ?_
    refine cst (v := nI (mlB mo)) (ml_at mo (by omega) (by omega)) ?_
    have hmb := mlB_b mo
    refine lv_istore_n (lv' := [(3, .int (nI (mlB mo))), (2, .int 0), (0, .int (nI y)), (1, .int (nI mo))]) hx hb dX0_monthLength_49 rfl hl (by decide) rfl (fun ls hl => ?_)
    refine lv_iload_n hx hb dX0_monthLength_50 rfl (lv_at hl 3 rfl) ?_
    refine lv_iconst (v := 2) hx hb dX0_monthLength_51 (by decide) ?_
    refine lv_icmp_ne (tgt := 65) hx hb dX0_monthLength_52 (by decide) (fun c52_4 => ?_) (fun c52_4 => ?_)
    · have c52_4 : ¬ (((mo : Nat) : Int) = 2) := mt (cv_eq (nI_toInt (by omega)) (by decide)).mpr c52_4
      refine lv_iload_n hx hb dX0_monthLength_65 rfl (lv_at hl 0 rfl) ?_
      exact W.iret (v := (nI (mlB mo))) hx hb hr (fun t ht hW => ⟨(nI (mlB mo)), rfl, (by first | exact ml_a (by omega) | exact ml_b (by omega) (by omega) | exact ml_c (by omega) (by omega)), ht⟩) (fun _ h => absurd h List.not_mem_nil) dX0_monthLength_66
    · have c52_4 : ((mo : Nat) : Int) = 2 := (cv_eq (nI_toInt (by omega)) (by decide)).mp c52_4
      refine lv_iload_n hx hb dX0_monthLength_55 rfl (lv_at hl 1 rfl) ?_
      refine lv_if_eq (tgt := 65) hx hb dX0_monthLength_56 (by decide) (fun c56_5 => ?_) (fun c56_5 => by exfalso; exact absurd c56_5 (by decide))
      refine lv_iload_n hx hb dX0_monthLength_65 rfl (lv_at hl 0 rfl) ?_
      exact W.iret (v := (nI (mlB mo))) hx hb hr (fun t ht hW => ⟨(nI (mlB mo)), rfl, (by first | exact ml_a (by omega) | exact ml_b (by omega) (by omega) | exact ml_c (by omega) (by omega)), ht⟩) (fun _ h => absurd h List.not_mem_nil) dX0_monthLength_66
  · have c18_3 : ((y % 4 : Nat) : Int) = 0 := (cv_eq (nI_toInt (by omega)) (by decide)).mp c18_3
    refine lv_iload_n hx hb dX0_monthLength_21 rfl (lv_at hl 0 rfl) ?_
    refine lv_bipush (v := 100) hx hb dX0_monthLength_22 (by decide) ?_
    refine lv_irem hx hb dX0_monthLength_24 (by decide) ?_
    refine cst (v := nI (y % 100)) (pk_rem (a := y) (d := 100) (by omega) (by omega) (by omega)) ?_
    refine lv_if_ne (tgt := 36) hx hb dX0_monthLength_25 (by decide) (fun c25_6 => ?_) (fun c25_6 => ?_)
    · have c25_6 : ¬ (((y % 100 : Nat) : Int) = 0) := mt (cv_eq (nI_toInt (by omega)) (by decide)).mpr c25_6
      refine lv_iconst (v := 1) hx hb dX0_monthLength_36 (by decide) ?_
      refine lv_goto (tgt := 41) hx hb dX0_monthLength_37 (by decide) ?_
      refine lv_istore_n (lv' := [(2, .int 1), (0, .int (nI y)), (1, .int (nI mo))]) hx hb dX0_monthLength_41 rfl hl (by decide) rfl (fun ls hl => ?_)
      refine va_gets hx hb hE.2.1 hS hown (hts (.fieldLink RX0 10 "ClosedUntil$Calendar" "MONTH_LENGTHS" "[I") qw_1) (fun _ h9 => h9) dX0_monthLength_42 ?_
      refine lv_iload_n hx hb dX0_monthLength_45 rfl (lv_at hl 2 rfl) ?_
      refine lv_iconst (v := 1) hx hb dX0_monthLength_46 (by decide) ?_
      refine lv_isub hx hb dX0_monthLength_47 ?_
      refine cst (v := nI (mo - 1)) (pk_sub (a := mo) (b := 1) (by omega)) ?_
      refine va_ti hx hb hE.2.2.1 hS (vp_in_nI (by omega) (by omega)) (v := .int (mlL.getD (nI (mo - 1)).toNatClampNeg 0)) rfl dX0_monthLength_48 ?_
      refine cst (v := nI (mlB mo)) (ml_at mo (by omega) (by omega)) ?_
      have hmb := mlB_b mo
      refine lv_istore_n (lv' := [(3, .int (nI (mlB mo))), (2, .int 1), (0, .int (nI y)), (1, .int (nI mo))]) hx hb dX0_monthLength_49 rfl hl (by decide) rfl (fun ls hl => ?_)
      refine lv_iload_n hx hb dX0_monthLength_50 rfl (lv_at hl 3 rfl) ?_
      refine lv_iconst (v := 2) hx hb dX0_monthLength_51 (by decide) ?_
      refine lv_icmp_ne (tgt := 65) hx hb dX0_monthLength_52 (by decide) (fun c52_7 => ?_) (fun c52_7 => ?_)
      · have c52_7 : ¬ (((mo : Nat) : Int) = 2) := mt (cv_eq (nI_toInt (by omega)) (by decide)).mpr c52_7
        refine lv_iload_n hx hb dX0_monthLength_65 rfl (lv_at hl 0 rfl) ?_
        exact W.iret (v := (nI (mlB mo))) hx hb hr (fun t ht hW => ⟨(nI (mlB mo)), rfl, (by first | exact ml_a (by omega) | exact ml_b (by omega) (by omega) | exact ml_c (by omega) (by omega)), ht⟩) (fun _ h => absurd h List.not_mem_nil) dX0_monthLength_66
      · have c52_7 : ((mo : Nat) : Int) = 2 := (cv_eq (nI_toInt (by omega)) (by decide)).mp c52_7
        refine lv_iload_n hx hb dX0_monthLength_55 rfl (lv_at hl 1 rfl) ?_
        refine lv_if_eq (tgt := 65) hx hb dX0_monthLength_56 (by decide) (fun c56_8 => by exfalso; exact absurd c56_8 (by decide)) (fun c56_8 => ?_)
        refine lv_iload_n hx hb dX0_monthLength_59 rfl (lv_at hl 0 rfl) ?_
        refine lv_iconst (v := 1) hx hb dX0_monthLength_60 (by decide) ?_
        refine lv_iadd hx hb dX0_monthLength_61 ?_
        refine cst (v := nI ((mlB mo) + 1)) (nI_add (mlB mo) 1) ?_
        refine lv_goto (tgt := 66) hx hb dX0_monthLength_62 (by decide) ?_
        exact W.iret (v := (nI ((mlB mo) + 1))) hx hb hr (fun t ht hW => ⟨(nI ((mlB mo) + 1)), rfl, (by first | exact ml_a (by omega) | exact ml_b (by omega) (by omega) | exact ml_c (by omega) (by omega)), ht⟩) (fun _ h => absurd h List.not_mem_nil) dX0_monthLength_66
    · have c25_6 : ((y % 100 : Nat) : Int) = 0 := (cv_eq (nI_toInt (by omega)) (by decide)).mp c25_6
      refine lv_iload_n hx hb dX0_monthLength_28 rfl (lv_at hl 0 rfl) ?_
      refine lv_sipush (v := 400) hx hb dX0_monthLength_29 (by decide) ?_
      refine lv_irem hx hb dX0_monthLength_32 (by decide) ?_
      refine cst (v := nI (y % 400)) (pk_rem (a := y) (d := 400) (by omega) (by omega) (by omega)) ?_
      refine lv_if_ne (tgt := 40) hx hb dX0_monthLength_33 (by decide) (fun c33_9 => ?_) (fun c33_9 => ?_)
      · have c33_9 : ¬ (((y % 400 : Nat) : Int) = 0) := mt (cv_eq (nI_toInt (by omega)) (by decide)).mpr c33_9
        refine lv_iconst (v := 0) hx hb dX0_monthLength_40 (by decide) ?_
        refine lv_istore_n (lv' := [(2, .int 0), (0, .int (nI y)), (1, .int (nI mo))]) hx hb dX0_monthLength_41 rfl hl (by decide) rfl (fun ls hl => ?_)
        refine va_gets hx hb hE.2.1 hS hown (hts (.fieldLink RX0 10 "ClosedUntil$Calendar" "MONTH_LENGTHS" "[I") qw_1) (fun _ h9 => h9) dX0_monthLength_42 ?_
        refine lv_iload_n hx hb dX0_monthLength_45 rfl (lv_at hl 2 rfl) ?_
        refine lv_iconst (v := 1) hx hb dX0_monthLength_46 (by decide) ?_
        refine lv_isub hx hb dX0_monthLength_47 ?_
        refine cst (v := nI (mo - 1)) (pk_sub (a := mo) (b := 1) (by omega)) ?_
        refine va_ti hx hb hE.2.2.1 hS (vp_in_nI (by omega) (by omega)) (v := .int (mlL.getD (nI (mo - 1)).toNatClampNeg 0)) rfl dX0_monthLength_48 ?_
        refine cst (v := nI (mlB mo)) (ml_at mo (by omega) (by omega)) ?_
        have hmb := mlB_b mo
        refine lv_istore_n (lv' := [(3, .int (nI (mlB mo))), (2, .int 0), (0, .int (nI y)), (1, .int (nI mo))]) hx hb dX0_monthLength_49 rfl hl (by decide) rfl (fun ls hl => ?_)
        refine lv_iload_n hx hb dX0_monthLength_50 rfl (lv_at hl 3 rfl) ?_
        refine lv_iconst (v := 2) hx hb dX0_monthLength_51 (by decide) ?_
        refine lv_icmp_ne (tgt := 65) hx hb dX0_monthLength_52 (by decide) (fun c52_10 => ?_) (fun c52_10 => ?_)
        · have c52_10 : ¬ (((mo : Nat) : Int) = 2) := mt (cv_eq (nI_toInt (by omega)) (by decide)).mpr c52_10
          refine lv_iload_n hx hb dX0_monthLength_65 rfl (lv_at hl 0 rfl) ?_
          exact W.iret (v := (nI (mlB mo))) hx hb hr (fun t ht hW => ⟨(nI (mlB mo)), rfl, (by first | exact ml_a (by omega) | exact ml_b (by omega) (by omega) | exact ml_c (by omega) (by omega)), ht⟩) (fun _ h => absurd h List.not_mem_nil) dX0_monthLength_66
        · have c52_10 : ((mo : Nat) : Int) = 2 := (cv_eq (nI_toInt (by omega)) (by decide)).mp c52_10
          refine lv_iload_n hx hb dX0_monthLength_55 rfl (lv_at hl 1 rfl) ?_
          refine lv_if_eq (tgt := 65) hx hb dX0_monthLength_56 (by decide) (fun c56_11 => ?_) (fun c56_11 => by exfalso; exact absurd c56_11 (by decide))
          refine lv_iload_n hx hb dX0_monthLength_65 rfl (lv_at hl 0 rfl) ?_
          exact W.iret (v := (nI (mlB mo))) hx hb hr (fun t ht hW => ⟨(nI (mlB mo)), rfl, (by first | exact ml_a (by omega) | exact ml_b (by omega) (by omega) | exact ml_c (by omega) (by omega)), ht⟩) (fun _ h => absurd h List.not_mem_nil) dX0_monthLength_66
      · have c33_9 : ((y % 400 : Nat) : Int) = 0 := (cv_eq (nI_toInt (by omega)) (by decide)).mp c33_9
        refine lv_iconst (v := 1) hx hb dX0_monthLength_36 (by decide) ?_
        refine lv_goto (tgt := 41) hx hb dX0_monthLength_37 (by decide) ?_
        refine lv_istore_n (lv' := [(2, .int 1), (0, .int (nI y)), (1, .int (nI mo))]) hx hb dX0_monthLength_41 rfl hl (by decide) rfl (fun ls hl => ?_)
        refine va_gets hx hb hE.2.1 hS hown (hts (.fieldLink RX0 10 "ClosedUntil$Calendar" "MONTH_LENGTHS" "[I") qw_1) (fun _ h9 => h9) dX0_monthLength_42 ?_
        refine lv_iload_n hx hb dX0_monthLength_45 rfl (lv_at hl 2 rfl) ?_
        refine lv_iconst (v := 1) hx hb dX0_monthLength_46 (by decide) ?_
        refine lv_isub hx hb dX0_monthLength_47 ?_
        refine cst (v := nI (mo - 1)) (pk_sub (a := mo) (b := 1) (by omega)) ?_
        refine va_ti hx hb hE.2.2.1 hS (vp_in_nI (by omega) (by omega)) (v := .int (mlL.getD (nI (mo - 1)).toNatClampNeg 0)) rfl dX0_monthLength_48 ?_
        refine cst (v := nI (mlB mo)) (ml_at mo (by omega) (by omega)) ?_
        have hmb := mlB_b mo
        refine lv_istore_n (lv' := [(3, .int (nI (mlB mo))), (2, .int 1), (0, .int (nI y)), (1, .int (nI mo))]) hx hb dX0_monthLength_49 rfl hl (by decide) rfl (fun ls hl => ?_)
        refine lv_iload_n hx hb dX0_monthLength_50 rfl (lv_at hl 3 rfl) ?_
        refine lv_iconst (v := 2) hx hb dX0_monthLength_51 (by decide) ?_
        refine lv_icmp_ne (tgt := 65) hx hb dX0_monthLength_52 (by decide) (fun c52_12 => ?_) (fun c52_12 => ?_)
        · have c52_12 : ¬ (((mo : Nat) : Int) = 2) := mt (cv_eq (nI_toInt (by omega)) (by decide)).mpr c52_12
          refine lv_iload_n hx hb dX0_monthLength_65 rfl (lv_at hl 0 rfl) ?_
          exact W.iret (v := (nI (mlB mo))) hx hb hr (fun t ht hW => ⟨(nI (mlB mo)), rfl, (by first | exact ml_a (by omega) | exact ml_b (by omega) (by omega) | exact ml_c (by omega) (by omega)), ht⟩) (fun _ h => absurd h List.not_mem_nil) dX0_monthLength_66
        · have c52_12 : ((mo : Nat) : Int) = 2 := (cv_eq (nI_toInt (by omega)) (by decide)).mp c52_12
          refine lv_iload_n hx hb dX0_monthLength_55 rfl (lv_at hl 1 rfl) ?_
          refine lv_if_eq (tgt := 65) hx hb dX0_monthLength_56 (by decide) (fun c56_13 => by exfalso; exact absurd c56_13 (by decide)) (fun c56_13 => ?_)
          refine lv_iload_n hx hb dX0_monthLength_59 rfl (lv_at hl 0 rfl) ?_
          refine lv_iconst (v := 1) hx hb dX0_monthLength_60 (by decide) ?_
          refine lv_iadd hx hb dX0_monthLength_61 ?_
          refine cst (v := nI ((mlB mo) + 1)) (nI_add (mlB mo) 1) ?_
          refine lv_goto (tgt := 66) hx hb dX0_monthLength_62 (by decide) ?_
          exact W.iret (v := (nI ((mlB mo) + 1))) hx hb hr (fun t ht hW => ⟨(nI ((mlB mo) + 1)), rfl, (by first | exact ml_a (by omega) | exact ml_b (by omega) (by omega) | exact ml_c (by omega) (by omega)), ht⟩) (fun _ h => absurd h List.not_mem_nil) dX0_monthLength_66
set_option maxHeartbeats 4000000 in
set_option maxRecDepth 100000 in
theorem c_ml_out (l : Launch) (dC : Nat → ClassId) (dI : Nat → Nat → Nat) (g : Gv) (y : Int32) (mo : Int32) (hm : ¬ (1 ≤ mo.toInt ∧ mo.toInt ≤ 12)) : Met l yX0_monthLength (.code yX0_monthLength cX0_monthLength 4 (some .int) :: TBL) ({ frames := 0, cells := 0, slots := 0, locals := 0 }) (va_Pc [.int y, .int mo] (fun U => va_P (dC, dI) vwCl [] U.heap ∧ va_K (dC, dI) vwCl [] U ∧ Ev g (fun _ => False) U)) (vp_Si (fun r => r = 0)) 0 0 (fun _ => False) := by
  refine Met.ofW (cc := cX0_monthLength) (maxL := 4) (ret := (some .int)) (by decide) rfl ?_
  intro p e s m args below meth c s₁ B hml hv
  obtain ⟨rfl, hP, hK, hE⟩ := hv
  have hx := B.exec
  have hb := B.bytes
  have hr := B.returns
  have hts0 := atoms_spec (ws := (.code yX0_monthLength cX0_monthLength 4 (some .int) :: TBL)) B.pre
  have hts := fun (w : Cond) (h : w ∈ TBL) => hts0 w (List.mem_cons_of_mem _ h)
  have hown : s.vm.findClass RX0 = some m.cls := findClass_of_methodNamed B.named
  have hlocks := B.notSynchronized
  have hN := hE.1
  have hS : va_S (fun _ => False) s.heap s.heap [] := va_S.rf
  have hP : va_P (dC, dI) vwCl [] s.heap := hP
  have hl := lv_entry ([.int y, .int mo]) (n := 4) (Nat.le_of_ble_eq_true rfl)
  rw [lg_entry_eq]
  generalize (lg_sl ([.int y, .int mo]) ++ List.replicate (4 - (lg_sl ([.int y, .int mo])).length) Slot.unset).toArray = ls at hl ⊢
  have hl : lv_has ls 4 [(0, .int y), (1, .int mo)] := hl
  refine lv_iload_n hx hb dX0_monthLength_0 rfl (lv_at hl 1 rfl) ?_
  refine lv_iconst (v := 1) hx hb dX0_monthLength_1 (by decide) ?_
  refine lv_icmp_lt (tgt := 13) hx hb dX0_monthLength_2 (by decide) (fun c2_1 => ?_) (fun c2_1 => ?_)
  · have c2_1 : mo.toInt < 1 := (cv_lt rfl (by decide)).mp c2_1
    refine lv_iconst (v := 0) hx hb dX0_monthLength_13 (by decide) ?_
    exact W.iret (v := 0) hx hb hr (fun t ht hW => ⟨0, rfl, (rfl), ht⟩) (fun _ h => absurd h List.not_mem_nil) dX0_monthLength_14
  · have c2_1 : ¬ (mo.toInt < 1) := mt (cv_lt rfl (by decide)).mpr c2_1
    refine lv_iload_n hx hb dX0_monthLength_5 rfl (lv_at hl 1 rfl) ?_
    refine va_gets hx hb hE.2.1 hS hown (hts (.fieldLink RX0 10 "ClosedUntil$Calendar" "MONTH_LENGTHS" "[I") qw_1) (fun _ h9 => h9) dX0_monthLength_6 ?_
    refine va_tlen hx hb hE.2.2.1 hS (v := 12) (by decide) dX0_monthLength_9 ?_
    refine lv_icmp_le (tgt := 15) hx hb dX0_monthLength_10 (by decide) (fun c10_2 => by exfalso; have c10_2 : mo.toInt ≤ 12 := (cv_le rfl (by decide)).mp c10_2; omega) (fun c10_2 => ?_)
    have c10_2 : ¬ (mo.toInt ≤ 12) := mt (cv_le rfl (by decide)).mpr c10_2
    refine lv_iconst (v := 0) hx hb dX0_monthLength_13 (by decide) ?_
    exact W.iret (v := 0) hx hb hr (fun t ht hW => ⟨0, rfl, (rfl), ht⟩) (fun _ h => absurd h List.not_mem_nil) dX0_monthLength_14
set_option maxHeartbeats 4000000 in
set_option maxRecDepth 100000 in
theorem c_so (l : Launch) (dC : Nat → ClassId) (dI : Nat → Nat → Nat) (g : Gv) (k : Nat) (hk : k ≤ 600) : Met l yX0_startOf (.code yX0_startOf cX0_startOf 3 (some .int) :: TBL) ({ frames := 0, cells := 0, slots := 0, locals := 0 }) (va_Pc [.int (nI (1700 + k))] (fun U => va_P (dC, dI) vwCl [] U.heap ∧ va_K (dC, dI) vwCl [] U ∧ Ev g (fun _ => False) U)) (vp_Si (fun r => r = nI (Fk k))) 0 0 (fun _ => False) := by
  refine Met.ofW (cc := cX0_startOf) (maxL := 3) (ret := (some .int)) (by decide) rfl ?_
  intro p e s m args below meth c s₁ B hml hv
  obtain ⟨rfl, hP, hK, hE⟩ := hv
  have hx := B.exec
  have hb := B.bytes
  have hr := B.returns
  have hts0 := atoms_spec (ws := (.code yX0_startOf cX0_startOf 3 (some .int) :: TBL)) B.pre
  have hts := fun (w : Cond) (h : w ∈ TBL) => hts0 w (List.mem_cons_of_mem _ h)
  have hown : s.vm.findClass RX0 = some m.cls := findClass_of_methodNamed B.named
  have hlocks := B.notSynchronized
  have hN := hE.1
  have hS : va_S (fun _ => False) s.heap s.heap [] := va_S.rf
  have hP : va_P (dC, dI) vwCl [] s.heap := hP
  have hl := lv_entry ([.int (nI (1700 + k))]) (n := 3) (Nat.le_of_ble_eq_true rfl)
  rw [lg_entry_eq]
  generalize (lg_sl ([.int (nI (1700 + k))]) ++ List.replicate (3 - (lg_sl ([.int (nI (1700 + k))])).length) Slot.unset).toArray = ls at hl ⊢
  have hl : lv_has ls 3 [(0, .int (nI (1700 + k)))] := hl
  refine lv_iload_n hx hb dX0_startOf_0 rfl (lv_at hl 0 rfl) ?_
  refine lv_iconst (v := 1) hx hb dX0_startOf_1 (by decide) ?_
  refine lv_isub hx hb dX0_startOf_2 ?_
  refine cst (v := nI ((1700 + k) - 1)) (pk_sub (a := (1700 + k)) (b := 1) (by omega)) ?_
  refine lv_istore_n (lv' := [(1, .int (nI ((1700 + k) - 1))), (0, .int (nI (1700 + k)))]) hx hb dX0_startOf_3 rfl hl (by decide) rfl (fun ls hl => ?_)
  refine lv_iload_n hx hb dX0_startOf_4 rfl (lv_at hl 0 rfl) ?_
  refine lv_iconst (v := 4) hx hb dX0_startOf_5 (by decide) ?_
  refine lv_idiv hx hb dX0_startOf_6 (by decide) ?_
  refine cst (v := nI (((1700 + k) - 1) / 4)) (pk_div (a := ((1700 + k) - 1)) (d := 4) (by omega) (by omega) (by omega)) ?_
  refine lv_iload_n hx hb dX0_startOf_7 rfl (lv_at hl 0 rfl) ?_
  refine lv_bipush (v := 100) hx hb dX0_startOf_8 (by decide) ?_
  refine lv_idiv hx hb dX0_startOf_10 (by decide) ?_
  refine cst (v := nI (((1700 + k) - 1) / 100)) (pk_div (a := ((1700 + k) - 1)) (d := 100) (by omega) (by omega) (by omega)) ?_
  refine lv_isub hx hb dX0_startOf_11 ?_
  refine cst (v := nI ((((1700 + k) - 1) / 4) - (((1700 + k) - 1) / 100))) (pk_sub (a := (((1700 + k) - 1) / 4)) (b := (((1700 + k) - 1) / 100)) (by omega)) ?_
  refine lv_iload_n hx hb dX0_startOf_12 rfl (lv_at hl 0 rfl) ?_
  refine lv_sipush (v := 400) hx hb dX0_startOf_13 (by decide) ?_
  refine lv_idiv hx hb dX0_startOf_16 (by decide) ?_
  refine cst (v := nI (((1700 + k) - 1) / 400)) (pk_div (a := ((1700 + k) - 1)) (d := 400) (by omega) (by omega) (by omega)) ?_
  refine lv_iadd hx hb dX0_startOf_17 ?_
  refine cst (v := nI (((((1700 + k) - 1) / 4) - (((1700 + k) - 1) / 100)) + (((1700 + k) - 1) / 400))) (nI_add ((((1700 + k) - 1) / 4) - (((1700 + k) - 1) / 100)) (((1700 + k) - 1) / 400)) ?_
  refine lv_sipush (v := 412) hx hb dX0_startOf_18 (by decide) ?_
  refine lv_isub hx hb dX0_startOf_21 ?_
  refine cst (v := nI ((((((1700 + k) - 1) / 4) - (((1700 + k) - 1) / 100)) + (((1700 + k) - 1) / 400)) - 412)) (pk_sub (a := (((((1700 + k) - 1) / 4) - (((1700 + k) - 1) / 100)) + (((1700 + k) - 1) / 400))) (b := 412) (by omega)) ?_
  refine lv_istore_n (lv' := [(2, .int (nI ((((((1700 + k) - 1) / 4) - (((1700 + k) - 1) / 100)) + (((1700 + k) - 1) / 400)) - 412))), (1, .int (nI ((1700 + k) - 1))), (0, .int (nI (1700 + k)))]) hx hb dX0_startOf_22 rfl hl (by decide) rfl (fun ls hl => ?_)
  refine lv_sipush (v := 365) hx hb dX0_startOf_23 (by decide) ?_
  refine lv_iload_n hx hb dX0_startOf_26 rfl (lv_at hl 2 rfl) ?_
  refine lv_sipush (v := 1700) hx hb dX0_startOf_27 (by decide) ?_
  refine lv_isub hx hb dX0_startOf_30 ?_
  refine cst (v := nI ((1700 + k) - 1700)) (pk_sub (a := (1700 + k)) (b := 1700) (by omega)) ?_
  refine lv_imul hx hb dX0_startOf_31 ?_
  refine cst (v := nI (365 * ((1700 + k) - 1700))) (pk_mul 365 ((1700 + k) - 1700)) ?_
  refine lv_iload_n hx hb dX0_startOf_32 rfl (lv_at hl 0 rfl) ?_
  refine lv_iadd hx hb dX0_startOf_33 ?_
  refine cst (v := nI ((365 * ((1700 + k) - 1700)) + ((((((1700 + k) - 1) / 4) - (((1700 + k) - 1) / 100)) + (((1700 + k) - 1) / 400)) - 412))) (nI_add (365 * ((1700 + k) - 1700)) ((((((1700 + k) - 1) / 4) - (((1700 + k) - 1) / 100)) + (((1700 + k) - 1) / 400)) - 412)) ?_
  exact W.iret (v := (nI ((365 * ((1700 + k) - 1700)) + ((((((1700 + k) - 1) / 4) - (((1700 + k) - 1) / 100)) + (((1700 + k) - 1) / 400)) - 412)))) hx hb hr (fun t ht hW => ⟨(nI ((365 * ((1700 + k) - 1700)) + ((((((1700 + k) - 1) / 4) - (((1700 + k) - 1) / 100)) + (((1700 + k) - 1) / 400)) - 412))), rfl, (by congr 1; unfold Fk; omega), ht⟩) (fun _ h => absurd h List.not_mem_nil) dX0_startOf_34
set_option maxHeartbeats 4000000 in
set_option maxRecDepth 100000 in
theorem c_no_in (l : Launch) (dC : Nat → ClassId) (dI : Nat → Nat → Nat) (g : Gv) (k : Nat) (mo : Nat) (d : Nat) (hk : k < 600) (hm1 : 1 ≤ mo) (hm2 : mo ≤ 12) (hd1 : 1 ≤ d) (hd2 : d ≤ mlN (1700 + k) mo) : Met l yX0_numberOf (.code yX0_numberOf cX0_numberOf 5 (some .int) :: TBL) ({ frames := 1, cells := 0, slots := 0, locals := 40 }) (va_Pc [.int (nI (1700 + k)), .int (nI mo), .int (nI d)] (fun U => va_P (dC, dI) vwCl [] U.heap ∧ va_K (dC, dI) vwCl [] U ∧ Ev g (fun _ => False) U)) (vp_Si (fun r => r = nI (Fk k + Mk (1700 + k) mo + d - 1))) 0 0 (fun _ => False) := by
  refine Met.ofW (cc := cX0_numberOf) (maxL := 5) (ret := (some .int)) (by decide) rfl ?_
  intro p e s m args below meth c s₁ B hml hv
  obtain ⟨rfl, hP, hK, hE⟩ := hv
  have hx := B.exec
  have hb := B.bytes
  have hr := B.returns
  have hts0 := atoms_spec (ws := (.code yX0_numberOf cX0_numberOf 5 (some .int) :: TBL)) B.pre
  have hts := fun (w : Cond) (h : w ∈ TBL) => hts0 w (List.mem_cons_of_mem _ h)
  have hown : s.vm.findClass RX0 = some m.cls := findClass_of_methodNamed B.named
  have hlocks := B.notSynchronized
  have hN := hE.1
  have hS : va_S (fun _ => False) s.heap s.heap [] := va_S.rf
  have hP : va_P (dC, dI) vwCl [] s.heap := hP
  have hl := lv_entry ([.int (nI (1700 + k)), .int (nI mo), .int (nI d)]) (n := 5) (Nat.le_of_ble_eq_true rfl)
  rw [lg_entry_eq]
  generalize (lg_sl ([.int (nI (1700 + k)), .int (nI mo), .int (nI d)]) ++ List.replicate (5 - (lg_sl ([.int (nI (1700 + k)), .int (nI mo), .int (nI d)])).length) Slot.unset).toArray = ls at hl ⊢
  have hl : lv_has ls 5 [(0, .int (nI (1700 + k))), (1, .int (nI mo)), (2, .int (nI d))] := hl
  have hb1 := mlN_b (1700 + k) mo
  have hb2 := Fk_b (k := k) (by omega)
  refine lv_iload_n hx hb dX0_numberOf_0 rfl (lv_at hl 0 rfl) ?_
  refine lv_sipush (v := 1700) hx hb dX0_numberOf_1 (by decide) ?_
  refine lv_icmp_lt (tgt := 14) hx hb dX0_numberOf_4 (by decide) (fun c4_1 => by exfalso; have c4_1 : ((1700 + k : Nat) : Int) < 1700 := (cv_lt (nI_toInt (by omega)) (by decide)).mp c4_1; omega) (fun c4_1 => ?_)
  have c4_1 : ¬ (((1700 + k : Nat) : Int) < 1700) := mt (cv_lt (nI_toInt (by omega)) (by decide)).mpr c4_1
  refine lv_iload_n hx hb dX0_numberOf_7 rfl (lv_at hl 0 rfl) ?_
  refine lv_sipush (v := 2299) hx hb dX0_numberOf_8 (by decide) ?_
  refine lv_icmp_le (tgt := 16) hx hb dX0_numberOf_11 (by decide) (fun c11_2 => ?_) (fun c11_2 => by exfalso; have c11_2 : ¬ (((1700 + k : Nat) : Int) ≤ 2299) := mt (cv_le (nI_toInt (by omega)) (by decide)).mpr c11_2; omega)
  have c11_2 : ((1700 + k : Nat) : Int) ≤ 2299 := (cv_le (nI_toInt (by omega)) (by decide)).mp c11_2
  refine lv_iload_n hx hb dX0_numberOf_16 rfl (lv_at hl 2 rfl) ?_
  refine lv_iconst (v := 1) hx hb dX0_numberOf_17 (by decide) ?_
  refine lv_icmp_lt (tgt := 30) hx hb dX0_numberOf_18 (by decide) (fun c18_3 => by exfalso; have c18_3 : ((d : Nat) : Int) < 1 := (cv_lt (nI_toInt (by omega)) (by decide)).mp c18_3; omega) (fun c18_3 => ?_)
  have c18_3 : ¬ (((d : Nat) : Int) < 1) := mt (cv_lt (nI_toInt (by omega)) (by decide)).mpr c18_3
  refine lv_iload_n hx hb dX0_numberOf_21 rfl (lv_at hl 2 rfl) ?_
  refine lv_iload_n hx hb dX0_numberOf_22 rfl (lv_at hl 0 rfl) ?_
  refine lv_iload_n hx hb dX0_numberOf_23 rfl (lv_at hl 1 rfl) ?_
  have hPc := hP.sub (ws' := []) [] rfl
  have hKc := hK.sub (tys' := []) [] rfl
  refine vp_callSi ((va_runS (As := [.int (nI (1700 + k)), .int (nI mo)]) (rest := [.int (nI d)]) ⟨hx, hb, hml, hown, hts⟩ (c_ml l dC dI g (1700 + k) (mo) (by omega) (by omega) (by omega)) (va_cwS 2 hts (gwS qw_4 qw_5 qw_3 qw_2) rfl rfl rfl (by decide +kernel) ⟨Nat.le_of_ble_eq_true rfl, Nat.le_of_ble_eq_true rfl⟩) ⟨fun a U g9 mk q => ⟨q.1, q.2.1, va_K.moved (u := U) (U := U.calling g9 mk a) (Vm.Alike.refl U.vm) q.2.2.1, Ev.bl q.2.2.2⟩, fun U hU hW => ⟨rfl, by rw [hU]; exact hPc, va_K.moved hW.alike hKc, hE.go hS (fun _ h => h.elim) hU hW⟩⟩ rfl rfl hl.1 rfl (lv_room (Nat.le_of_ble_eq_true rfl)) dX0_numberOf_24 ⟨Nat.le_of_ble_eq_true rfl, Nat.le_of_ble_eq_true rfl⟩)).run (fun r4 h_r4 => ?_)
  have h_r4 : r4 = nI (mlN (1700 + k) mo) := h_r4
  subst h_r4
  refine lv_icmp_le (tgt := 32) hx hb dX0_numberOf_27 (by decide) (fun c27_5 => ?_) (fun c27_5 => by exfalso; have c27_5 : ¬ (((d : Nat) : Int) ≤ ((mlN (1700 + k) mo : Nat) : Int)) := mt (cv_le (nI_toInt (by omega)) (nI_toInt (by omega))).mpr c27_5; omega)
  have c27_5 : ((d : Nat) : Int) ≤ ((mlN (1700 + k) mo : Nat) : Int) := (cv_le (nI_toInt (by omega)) (nI_toInt (by omega))).mp c27_5
  refine lv_iload_n hx hb dX0_numberOf_32 rfl (lv_at hl 0 rfl) ?_
  have hPc := hP.sub (ws' := []) [] rfl
  have hKc := hK.sub (tys' := []) [] rfl
  refine vp_callSi ((va_runS (As := [.int (nI (1700 + k))]) (rest := []) ⟨hx, hb, hml, hown, hts⟩ (c_so l dC dI g (k) (by omega)) (va_cwS 1 hts (gwS qw_7 qw_8 qw_3 qw_6) rfl rfl rfl (by decide +kernel) ⟨Nat.le_of_ble_eq_true rfl, Nat.le_of_ble_eq_true rfl⟩) ⟨fun a U g9 mk q => ⟨q.1, q.2.1, va_K.moved (u := U) (U := U.calling g9 mk a) (Vm.Alike.refl U.vm) q.2.2.1, Ev.bl q.2.2.2⟩, fun U hU hW => ⟨rfl, by rw [hU]; exact hPc, va_K.moved hW.alike hKc, hE.go hS (fun _ h => h.elim) hU hW⟩⟩ rfl rfl hl.1 rfl (lv_room (Nat.le_of_ble_eq_true rfl)) dX0_numberOf_33 ⟨Nat.le_of_ble_eq_true rfl, Nat.le_of_ble_eq_true rfl⟩)).run (fun r6 h_r6 => ?_)
  have h_r6 : r6 = nI (Fk k) := h_r6
  subst h_r6
  refine lv_istore_n (lv' := [(3, .int (nI (Fk k))), (0, .int (nI (1700 + k))), (1, .int (nI mo)), (2, .int (nI d))]) hx hb dX0_numberOf_36 rfl hl (by decide) rfl (fun ls hl => ?_)
  refine lv_iconst (v := 1) hx hb dX0_numberOf_37 (by decide) ?_
  refine lv_istore (lv' := [(4, .int 1), (3, .int (nI (Fk k))), (0, .int (nI (1700 + k))), (1, .int (nI mo)), (2, .int (nI d))]) hx hb dX0_numberOf_38 hl (by decide) rfl (fun ls hl => ?_)
  refine wloop (fun n H locs ls => ∃ (j : Nat), n = mo - j ∧ (1 ≤ j) ∧ (j ≤ mo) ∧ lv_has ls 5 [(0, .int (nI (1700 + k))), (1, .int (nI mo)), (2, .int (nI d)), (3, .int (nI (Fk k + Mk (1700 + k) j))), (4, .int (nI j))] ∧ H = s.heap ∧ locs = []) ?_ (mo - (1)) _ _ _ ⟨1, rfl, (by omega), (by omega), lv_sub hl [2, 3, 4, 1, 0] rfl, rfl, rfl⟩
  intro n H locs ls hI ih
  obtain ⟨j, hn9, j1, j2, hl, rfl, rfl⟩ := hI
  refine lv_iload hx hb dX0_numberOf_40 (lv_at hl 4 rfl) ?_
  refine lv_iload_n hx hb dX0_numberOf_42 rfl (lv_at hl 1 rfl) ?_
  refine lv_icmp_ge (tgt := 61) hx hb dX0_numberOf_43 (by decide) (fun c43_7 => ?_) (fun c43_7 => ?_)
  · have c43_7 : ((mo : Nat) : Int) ≤ ((j : Nat) : Int) := (cv_le (nI_toInt (by omega)) (nI_toInt (by omega))).mp c43_7
    refine lv_iload_n hx hb dX0_numberOf_61 rfl (lv_at hl 3 rfl) ?_
    refine lv_iload_n hx hb dX0_numberOf_62 rfl (lv_at hl 2 rfl) ?_
    refine lv_iadd hx hb dX0_numberOf_63 ?_
    refine cst (v := nI ((Fk k + Mk (1700 + k) j) + d)) (nI_add (Fk k + Mk (1700 + k) j) d) ?_
    refine lv_iconst (v := 1) hx hb dX0_numberOf_64 (by decide) ?_
    refine lv_isub hx hb dX0_numberOf_65 ?_
    refine cst (v := nI (((Fk k + Mk (1700 + k) j) + d) - 1)) (pk_sub (a := ((Fk k + Mk (1700 + k) j) + d)) (b := 1) (by omega)) ?_
    exact W.iret (v := (nI (((Fk k + Mk (1700 + k) j) + d) - 1))) hx hb hr (fun t ht hW => ⟨(nI (((Fk k + Mk (1700 + k) j) + d) - 1)), rfl, (by rw [show j = mo by omega]), ht⟩) (fun _ h => absurd h List.not_mem_nil) dX0_numberOf_66
  · have c43_7 : ¬ (((mo : Nat) : Int) ≤ ((j : Nat) : Int)) := mt (cv_le (nI_toInt (by omega)) (nI_toInt (by omega))).mpr c43_7
    refine lv_iload_n hx hb dX0_numberOf_46 rfl (lv_at hl 3 rfl) ?_
    refine lv_iload_n hx hb dX0_numberOf_47 rfl (lv_at hl 0 rfl) ?_
    refine lv_iload hx hb dX0_numberOf_48 (lv_at hl 4 rfl) ?_
    have hPc := hP.sub (ws' := []) [] rfl
    have hKc := hK.sub (tys' := []) [] rfl
    refine vp_callSi ((va_runS (As := [.int (nI (1700 + k)), .int (nI j)]) (rest := [.int (nI (Fk k + Mk (1700 + k) j))]) ⟨hx, hb, hml, hown, hts⟩ (c_ml l dC dI g (1700 + k) (j) (by omega) (by omega) (by omega)) (va_cwS 2 hts (gwS qw_4 qw_5 qw_3 qw_2) rfl rfl rfl (by decide +kernel) ⟨Nat.le_of_ble_eq_true rfl, Nat.le_of_ble_eq_true rfl⟩) ⟨fun a U g9 mk q => ⟨q.1, q.2.1, va_K.moved (u := U) (U := U.calling g9 mk a) (Vm.Alike.refl U.vm) q.2.2.1, Ev.bl q.2.2.2⟩, fun U hU hW => ⟨rfl, by rw [hU]; exact hPc, va_K.moved hW.alike hKc, hE.go hS (fun _ h => h.elim) hU hW⟩⟩ rfl rfl hl.1 rfl (lv_room (Nat.le_of_ble_eq_true rfl)) dX0_numberOf_50 ⟨Nat.le_of_ble_eq_true rfl, Nat.le_of_ble_eq_true rfl⟩)).run (fun r8 h_r8 => ?_)
    have h_r8 : r8 = nI (mlN (1700 + k) j) := h_r8
    subst h_r8
    refine lv_iadd hx hb dX0_numberOf_53 ?_
    refine cst (v := nI (Fk k + Mk (1700 + k) (j + 1))) (by rw [nI_add, Nat.add_assoc, ← Mk_s j1]) ?_
    refine lv_istore_n (lv' := [(3, .int (nI (Fk k + Mk (1700 + k) (j + 1)))), (0, .int (nI (1700 + k))), (1, .int (nI mo)), (2, .int (nI d)), (4, .int (nI j))]) hx hb dX0_numberOf_54 rfl hl (by decide) rfl (fun ls hl => ?_)
    refine lv_iinc (v := (nI (j + 1))) (lv' := [(4, .int (nI (j + 1))), (3, .int (nI (Fk k + Mk (1700 + k) (j + 1)))), (0, .int (nI (1700 + k))), (1, .int (nI mo)), (2, .int (nI d))]) hx hb dX0_numberOf_55 hl (k := 4) rfl (nI_add (j) 1) (by decide) rfl (fun ls hl => ?_)
    refine lv_goto (tgt := 40) hx hb dX0_numberOf_58 (by decide) ?_
    exact ih (mo - (j + 1)) _ _ _ (by omega) ⟨j + 1, rfl, (by omega), (by omega), lv_sub hl [2, 3, 4, 1, 0] rfl, rfl, rfl⟩
set_option maxHeartbeats 4000000 in
set_option maxRecDepth 100000 in
theorem c_no_B (l : Launch) (dC : Nat → ClassId) (dI : Nat → Nat → Nat) (g : Gv) (y : Int32) (mo : Int32) (d : Int32) (hy : ¬ (1700 ≤ y.toInt ∧ y.toInt ≤ 2299)) : Met l yX0_numberOf (.code yX0_numberOf cX0_numberOf 5 (some .int) :: TBL) ({ frames := 1, cells := 0, slots := 0, locals := 40 }) (va_Pc [.int y, .int mo, .int d] (fun U => va_P (dC, dI) vwCl [] U.heap ∧ va_K (dC, dI) vwCl [] U ∧ Ev g (fun _ => False) U)) (vp_Si (fun r => r = -1)) 0 0 (fun _ => False) := by
  refine Met.ofW (cc := cX0_numberOf) (maxL := 5) (ret := (some .int)) (by decide) rfl ?_
  intro p e s m args below meth c s₁ B hml hv
  obtain ⟨rfl, hP, hK, hE⟩ := hv
  have hx := B.exec
  have hb := B.bytes
  have hr := B.returns
  have hts0 := atoms_spec (ws := (.code yX0_numberOf cX0_numberOf 5 (some .int) :: TBL)) B.pre
  have hts := fun (w : Cond) (h : w ∈ TBL) => hts0 w (List.mem_cons_of_mem _ h)
  have hown : s.vm.findClass RX0 = some m.cls := findClass_of_methodNamed B.named
  have hlocks := B.notSynchronized
  have hN := hE.1
  have hS : va_S (fun _ => False) s.heap s.heap [] := va_S.rf
  have hP : va_P (dC, dI) vwCl [] s.heap := hP
  have hl := lv_entry ([.int y, .int mo, .int d]) (n := 5) (Nat.le_of_ble_eq_true rfl)
  rw [lg_entry_eq]
  generalize (lg_sl ([.int y, .int mo, .int d]) ++ List.replicate (5 - (lg_sl ([.int y, .int mo, .int d])).length) Slot.unset).toArray = ls at hl ⊢
  have hl : lv_has ls 5 [(0, .int y), (1, .int mo), (2, .int d)] := hl
  refine lv_iload_n hx hb dX0_numberOf_0 rfl (lv_at hl 0 rfl) ?_
  refine lv_sipush (v := 1700) hx hb dX0_numberOf_1 (by decide) ?_
  refine lv_icmp_lt (tgt := 14) hx hb dX0_numberOf_4 (by decide) (fun c4_1 => ?_) (fun c4_1 => ?_)
  · have c4_1 : y.toInt < 1700 := (cv_lt rfl (by decide)).mp c4_1
    refine lv_iconst (v := (-1)) hx hb dX0_numberOf_14 (by decide) ?_
    exact W.iret (v := (-1)) hx hb hr (fun t ht hW => ⟨(-1), rfl, (rfl), ht⟩) (fun _ h => absurd h List.not_mem_nil) dX0_numberOf_15
  · have c4_1 : ¬ (y.toInt < 1700) := mt (cv_lt rfl (by decide)).mpr c4_1
    refine lv_iload_n hx hb dX0_numberOf_7 rfl (lv_at hl 0 rfl) ?_
    refine lv_sipush (v := 2299) hx hb dX0_numberOf_8 (by decide) ?_
    refine lv_icmp_le (tgt := 16) hx hb dX0_numberOf_11 (by decide) (fun c11_2 => by exfalso; have c11_2 : y.toInt ≤ 2299 := (cv_le rfl (by decide)).mp c11_2; omega) (fun c11_2 => ?_)
    have c11_2 : ¬ (y.toInt ≤ 2299) := mt (cv_le rfl (by decide)).mpr c11_2
    refine lv_iconst (v := (-1)) hx hb dX0_numberOf_14 (by decide) ?_
    exact W.iret (v := (-1)) hx hb hr (fun t ht hW => ⟨(-1), rfl, (rfl), ht⟩) (fun _ h => absurd h List.not_mem_nil) dX0_numberOf_15
set_option maxHeartbeats 4000000 in
set_option maxRecDepth 100000 in
theorem c_no_C (l : Launch) (dC : Nat → ClassId) (dI : Nat → Nat → Nat) (g : Gv) (k : Nat) (mo : Int32) (d : Int32) (hk : k < 600) (hd : d.toInt < 1) : Met l yX0_numberOf (.code yX0_numberOf cX0_numberOf 5 (some .int) :: TBL) ({ frames := 1, cells := 0, slots := 0, locals := 40 }) (va_Pc [.int (nI (1700 + k)), .int mo, .int d] (fun U => va_P (dC, dI) vwCl [] U.heap ∧ va_K (dC, dI) vwCl [] U ∧ Ev g (fun _ => False) U)) (vp_Si (fun r => r = -1)) 0 0 (fun _ => False) := by
  refine Met.ofW (cc := cX0_numberOf) (maxL := 5) (ret := (some .int)) (by decide) rfl ?_
  intro p e s m args below meth c s₁ B hml hv
  obtain ⟨rfl, hP, hK, hE⟩ := hv
  have hx := B.exec
  have hb := B.bytes
  have hr := B.returns
  have hts0 := atoms_spec (ws := (.code yX0_numberOf cX0_numberOf 5 (some .int) :: TBL)) B.pre
  have hts := fun (w : Cond) (h : w ∈ TBL) => hts0 w (List.mem_cons_of_mem _ h)
  have hown : s.vm.findClass RX0 = some m.cls := findClass_of_methodNamed B.named
  have hlocks := B.notSynchronized
  have hN := hE.1
  have hS : va_S (fun _ => False) s.heap s.heap [] := va_S.rf
  have hP : va_P (dC, dI) vwCl [] s.heap := hP
  have hl := lv_entry ([.int (nI (1700 + k)), .int mo, .int d]) (n := 5) (Nat.le_of_ble_eq_true rfl)
  rw [lg_entry_eq]
  generalize (lg_sl ([.int (nI (1700 + k)), .int mo, .int d]) ++ List.replicate (5 - (lg_sl ([.int (nI (1700 + k)), .int mo, .int d])).length) Slot.unset).toArray = ls at hl ⊢
  have hl : lv_has ls 5 [(0, .int (nI (1700 + k))), (1, .int mo), (2, .int d)] := hl
  refine lv_iload_n hx hb dX0_numberOf_0 rfl (lv_at hl 0 rfl) ?_
  refine lv_sipush (v := 1700) hx hb dX0_numberOf_1 (by decide) ?_
  refine lv_icmp_lt (tgt := 14) hx hb dX0_numberOf_4 (by decide) (fun c4_1 => by exfalso; have c4_1 : ((1700 + k : Nat) : Int) < 1700 := (cv_lt (nI_toInt (by omega)) (by decide)).mp c4_1; omega) (fun c4_1 => ?_)
  have c4_1 : ¬ (((1700 + k : Nat) : Int) < 1700) := mt (cv_lt (nI_toInt (by omega)) (by decide)).mpr c4_1
  refine lv_iload_n hx hb dX0_numberOf_7 rfl (lv_at hl 0 rfl) ?_
  refine lv_sipush (v := 2299) hx hb dX0_numberOf_8 (by decide) ?_
  refine lv_icmp_le (tgt := 16) hx hb dX0_numberOf_11 (by decide) (fun c11_2 => ?_) (fun c11_2 => by exfalso; have c11_2 : ¬ (((1700 + k : Nat) : Int) ≤ 2299) := mt (cv_le (nI_toInt (by omega)) (by decide)).mpr c11_2; omega)
  have c11_2 : ((1700 + k : Nat) : Int) ≤ 2299 := (cv_le (nI_toInt (by omega)) (by decide)).mp c11_2
  refine lv_iload_n hx hb dX0_numberOf_16 rfl (lv_at hl 2 rfl) ?_
  refine lv_iconst (v := 1) hx hb dX0_numberOf_17 (by decide) ?_
  refine lv_icmp_lt (tgt := 30) hx hb dX0_numberOf_18 (by decide) (fun c18_3 => ?_) (fun c18_3 => by exfalso; have c18_3 : ¬ (d.toInt < 1) := mt (cv_lt rfl (by decide)).mpr c18_3; omega)
  have c18_3 : d.toInt < 1 := (cv_lt rfl (by decide)).mp c18_3
  refine lv_iconst (v := (-1)) hx hb dX0_numberOf_30 (by decide) ?_
  exact W.iret (v := (-1)) hx hb hr (fun t ht hW => ⟨(-1), rfl, (rfl), ht⟩) (fun _ h => absurd h List.not_mem_nil) dX0_numberOf_31
set_option maxHeartbeats 4000000 in
set_option maxRecDepth 100000 in
theorem c_no_D (l : Launch) (dC : Nat → ClassId) (dI : Nat → Nat → Nat) (g : Gv) (k : Nat) (mo : Int32) (d : Int32) (hk : k < 600) (hm : ¬ (1 ≤ mo.toInt ∧ mo.toInt ≤ 12)) : Met l yX0_numberOf (.code yX0_numberOf cX0_numberOf 5 (some .int) :: TBL) ({ frames := 1, cells := 0, slots := 0, locals := 40 }) (va_Pc [.int (nI (1700 + k)), .int mo, .int d] (fun U => va_P (dC, dI) vwCl [] U.heap ∧ va_K (dC, dI) vwCl [] U ∧ Ev g (fun _ => False) U)) (vp_Si (fun r => r = -1)) 0 0 (fun _ => False) := by
  refine Met.ofW (cc := cX0_numberOf) (maxL := 5) (ret := (some .int)) (by decide) rfl ?_
  intro p e s m args below meth c s₁ B hml hv
  obtain ⟨rfl, hP, hK, hE⟩ := hv
  have hx := B.exec
  have hb := B.bytes
  have hr := B.returns
  have hts0 := atoms_spec (ws := (.code yX0_numberOf cX0_numberOf 5 (some .int) :: TBL)) B.pre
  have hts := fun (w : Cond) (h : w ∈ TBL) => hts0 w (List.mem_cons_of_mem _ h)
  have hown : s.vm.findClass RX0 = some m.cls := findClass_of_methodNamed B.named
  have hlocks := B.notSynchronized
  have hN := hE.1
  have hS : va_S (fun _ => False) s.heap s.heap [] := va_S.rf
  have hP : va_P (dC, dI) vwCl [] s.heap := hP
  have hl := lv_entry ([.int (nI (1700 + k)), .int mo, .int d]) (n := 5) (Nat.le_of_ble_eq_true rfl)
  rw [lg_entry_eq]
  generalize (lg_sl ([.int (nI (1700 + k)), .int mo, .int d]) ++ List.replicate (5 - (lg_sl ([.int (nI (1700 + k)), .int mo, .int d])).length) Slot.unset).toArray = ls at hl ⊢
  have hl : lv_has ls 5 [(0, .int (nI (1700 + k))), (1, .int mo), (2, .int d)] := hl
  refine lv_iload_n hx hb dX0_numberOf_0 rfl (lv_at hl 0 rfl) ?_
  refine lv_sipush (v := 1700) hx hb dX0_numberOf_1 (by decide) ?_
  refine lv_icmp_lt (tgt := 14) hx hb dX0_numberOf_4 (by decide) (fun c4_1 => by exfalso; have c4_1 : ((1700 + k : Nat) : Int) < 1700 := (cv_lt (nI_toInt (by omega)) (by decide)).mp c4_1; omega) (fun c4_1 => ?_)
  have c4_1 : ¬ (((1700 + k : Nat) : Int) < 1700) := mt (cv_lt (nI_toInt (by omega)) (by decide)).mpr c4_1
  refine lv_iload_n hx hb dX0_numberOf_7 rfl (lv_at hl 0 rfl) ?_
  refine lv_sipush (v := 2299) hx hb dX0_numberOf_8 (by decide) ?_
  refine lv_icmp_le (tgt := 16) hx hb dX0_numberOf_11 (by decide) (fun c11_2 => ?_) (fun c11_2 => by exfalso; have c11_2 : ¬ (((1700 + k : Nat) : Int) ≤ 2299) := mt (cv_le (nI_toInt (by omega)) (by decide)).mpr c11_2; omega)
  have c11_2 : ((1700 + k : Nat) : Int) ≤ 2299 := (cv_le (nI_toInt (by omega)) (by decide)).mp c11_2
  refine lv_iload_n hx hb dX0_numberOf_16 rfl (lv_at hl 2 rfl) ?_
  refine lv_iconst (v := 1) hx hb dX0_numberOf_17 (by decide) ?_
  refine lv_icmp_lt (tgt := 30) hx hb dX0_numberOf_18 (by decide) (fun c18_3 => ?_) (fun c18_3 => ?_)
  · have c18_3 : d.toInt < 1 := (cv_lt rfl (by decide)).mp c18_3
    refine lv_iconst (v := (-1)) hx hb dX0_numberOf_30 (by decide) ?_
    exact W.iret (v := (-1)) hx hb hr (fun t ht hW => ⟨(-1), rfl, (rfl), ht⟩) (fun _ h => absurd h List.not_mem_nil) dX0_numberOf_31
  · have c18_3 : ¬ (d.toInt < 1) := mt (cv_lt rfl (by decide)).mpr c18_3
    refine lv_iload_n hx hb dX0_numberOf_21 rfl (lv_at hl 2 rfl) ?_
    refine lv_iload_n hx hb dX0_numberOf_22 rfl (lv_at hl 0 rfl) ?_
    refine lv_iload_n hx hb dX0_numberOf_23 rfl (lv_at hl 1 rfl) ?_
    have hPc := hP.sub (ws' := []) [] rfl
    have hKc := hK.sub (tys' := []) [] rfl
    refine vp_callSi ((va_runS (As := [.int (nI (1700 + k)), .int mo]) (rest := [.int d]) ⟨hx, hb, hml, hown, hts⟩ (c_ml_out l dC dI g ((nI (1700 + k))) (mo) hm) (va_cwS 2 hts (gwS qw_4 qw_5 qw_3 qw_2) rfl rfl rfl (by decide +kernel) ⟨Nat.le_of_ble_eq_true rfl, Nat.le_of_ble_eq_true rfl⟩) ⟨fun a U g9 mk q => ⟨q.1, q.2.1, va_K.moved (u := U) (U := U.calling g9 mk a) (Vm.Alike.refl U.vm) q.2.2.1, Ev.bl q.2.2.2⟩, fun U hU hW => ⟨rfl, by rw [hU]; exact hPc, va_K.moved hW.alike hKc, hE.go hS (fun _ h => h.elim) hU hW⟩⟩ rfl rfl hl.1 rfl (lv_room (Nat.le_of_ble_eq_true rfl)) dX0_numberOf_24 ⟨Nat.le_of_ble_eq_true rfl, Nat.le_of_ble_eq_true rfl⟩)).run (fun r4 h_r4 => ?_)
    have h_r4 : r4 = 0 := h_r4
    subst h_r4
    refine lv_icmp_le (tgt := 32) hx hb dX0_numberOf_27 (by decide) (fun c27_5 => by exfalso; have c27_5 : d.toInt ≤ 0 := (cv_le rfl (by decide)).mp c27_5; omega) (fun c27_5 => ?_)
    have c27_5 : ¬ (d.toInt ≤ 0) := mt (cv_le rfl (by decide)).mpr c27_5
    refine lv_iconst (v := (-1)) hx hb dX0_numberOf_30 (by decide) ?_
    exact W.iret (v := (-1)) hx hb hr (fun t ht hW => ⟨(-1), rfl, (rfl), ht⟩) (fun _ h => absurd h List.not_mem_nil) dX0_numberOf_31
set_option maxHeartbeats 4000000 in
set_option maxRecDepth 100000 in
theorem c_no_E (l : Launch) (dC : Nat → ClassId) (dI : Nat → Nat → Nat) (g : Gv) (k : Nat) (mo : Nat) (d : Int32) (hk : k < 600) (hm1 : 1 ≤ mo) (hm2 : mo ≤ 12) (hd : (mlN (1700 + k) mo : Int) < d.toInt) : Met l yX0_numberOf (.code yX0_numberOf cX0_numberOf 5 (some .int) :: TBL) ({ frames := 1, cells := 0, slots := 0, locals := 40 }) (va_Pc [.int (nI (1700 + k)), .int (nI mo), .int d] (fun U => va_P (dC, dI) vwCl [] U.heap ∧ va_K (dC, dI) vwCl [] U ∧ Ev g (fun _ => False) U)) (vp_Si (fun r => r = -1)) 0 0 (fun _ => False) := by
  refine Met.ofW (cc := cX0_numberOf) (maxL := 5) (ret := (some .int)) (by decide) rfl ?_
  intro p e s m args below meth c s₁ B hml hv
  obtain ⟨rfl, hP, hK, hE⟩ := hv
  have hx := B.exec
  have hb := B.bytes
  have hr := B.returns
  have hts0 := atoms_spec (ws := (.code yX0_numberOf cX0_numberOf 5 (some .int) :: TBL)) B.pre
  have hts := fun (w : Cond) (h : w ∈ TBL) => hts0 w (List.mem_cons_of_mem _ h)
  have hown : s.vm.findClass RX0 = some m.cls := findClass_of_methodNamed B.named
  have hlocks := B.notSynchronized
  have hN := hE.1
  have hS : va_S (fun _ => False) s.heap s.heap [] := va_S.rf
  have hP : va_P (dC, dI) vwCl [] s.heap := hP
  have hl := lv_entry ([.int (nI (1700 + k)), .int (nI mo), .int d]) (n := 5) (Nat.le_of_ble_eq_true rfl)
  rw [lg_entry_eq]
  generalize (lg_sl ([.int (nI (1700 + k)), .int (nI mo), .int d]) ++ List.replicate (5 - (lg_sl ([.int (nI (1700 + k)), .int (nI mo), .int d])).length) Slot.unset).toArray = ls at hl ⊢
  have hl : lv_has ls 5 [(0, .int (nI (1700 + k))), (1, .int (nI mo)), (2, .int d)] := hl
  have hb1 := mlN_b (1700 + k) mo
  refine lv_iload_n hx hb dX0_numberOf_0 rfl (lv_at hl 0 rfl) ?_
  refine lv_sipush (v := 1700) hx hb dX0_numberOf_1 (by decide) ?_
  refine lv_icmp_lt (tgt := 14) hx hb dX0_numberOf_4 (by decide) (fun c4_1 => by exfalso; have c4_1 : ((1700 + k : Nat) : Int) < 1700 := (cv_lt (nI_toInt (by omega)) (by decide)).mp c4_1; omega) (fun c4_1 => ?_)
  have c4_1 : ¬ (((1700 + k : Nat) : Int) < 1700) := mt (cv_lt (nI_toInt (by omega)) (by decide)).mpr c4_1
  refine lv_iload_n hx hb dX0_numberOf_7 rfl (lv_at hl 0 rfl) ?_
  refine lv_sipush (v := 2299) hx hb dX0_numberOf_8 (by decide) ?_
  refine lv_icmp_le (tgt := 16) hx hb dX0_numberOf_11 (by decide) (fun c11_2 => ?_) (fun c11_2 => by exfalso; have c11_2 : ¬ (((1700 + k : Nat) : Int) ≤ 2299) := mt (cv_le (nI_toInt (by omega)) (by decide)).mpr c11_2; omega)
  have c11_2 : ((1700 + k : Nat) : Int) ≤ 2299 := (cv_le (nI_toInt (by omega)) (by decide)).mp c11_2
  refine lv_iload_n hx hb dX0_numberOf_16 rfl (lv_at hl 2 rfl) ?_
  refine lv_iconst (v := 1) hx hb dX0_numberOf_17 (by decide) ?_
  refine lv_icmp_lt (tgt := 30) hx hb dX0_numberOf_18 (by decide) (fun c18_3 => ?_) (fun c18_3 => ?_)
  · have c18_3 : d.toInt < 1 := (cv_lt rfl (by decide)).mp c18_3
    refine lv_iconst (v := (-1)) hx hb dX0_numberOf_30 (by decide) ?_
    exact W.iret (v := (-1)) hx hb hr (fun t ht hW => ⟨(-1), rfl, (rfl), ht⟩) (fun _ h => absurd h List.not_mem_nil) dX0_numberOf_31
  · have c18_3 : ¬ (d.toInt < 1) := mt (cv_lt rfl (by decide)).mpr c18_3
    refine lv_iload_n hx hb dX0_numberOf_21 rfl (lv_at hl 2 rfl) ?_
    refine lv_iload_n hx hb dX0_numberOf_22 rfl (lv_at hl 0 rfl) ?_
    refine lv_iload_n hx hb dX0_numberOf_23 rfl (lv_at hl 1 rfl) ?_
    have hPc := hP.sub (ws' := []) [] rfl
    have hKc := hK.sub (tys' := []) [] rfl
    refine vp_callSi ((va_runS (As := [.int (nI (1700 + k)), .int (nI mo)]) (rest := [.int d]) ⟨hx, hb, hml, hown, hts⟩ (c_ml l dC dI g (1700 + k) (mo) (by omega) (by omega) (by omega)) (va_cwS 2 hts (gwS qw_4 qw_5 qw_3 qw_2) rfl rfl rfl (by decide +kernel) ⟨Nat.le_of_ble_eq_true rfl, Nat.le_of_ble_eq_true rfl⟩) ⟨fun a U g9 mk q => ⟨q.1, q.2.1, va_K.moved (u := U) (U := U.calling g9 mk a) (Vm.Alike.refl U.vm) q.2.2.1, Ev.bl q.2.2.2⟩, fun U hU hW => ⟨rfl, by rw [hU]; exact hPc, va_K.moved hW.alike hKc, hE.go hS (fun _ h => h.elim) hU hW⟩⟩ rfl rfl hl.1 rfl (lv_room (Nat.le_of_ble_eq_true rfl)) dX0_numberOf_24 ⟨Nat.le_of_ble_eq_true rfl, Nat.le_of_ble_eq_true rfl⟩)).run (fun r4 h_r4 => ?_)
    have h_r4 : r4 = nI (mlN (1700 + k) mo) := h_r4
    subst h_r4
    refine lv_icmp_le (tgt := 32) hx hb dX0_numberOf_27 (by decide) (fun c27_5 => by exfalso; have c27_5 : d.toInt ≤ ((mlN (1700 + k) mo : Nat) : Int) := (cv_le rfl (nI_toInt (by omega))).mp c27_5; omega) (fun c27_5 => ?_)
    have c27_5 : ¬ (d.toInt ≤ ((mlN (1700 + k) mo : Nat) : Int)) := mt (cv_le rfl (nI_toInt (by omega))).mpr c27_5
    refine lv_iconst (v := (-1)) hx hb dX0_numberOf_30 (by decide) ?_
    exact W.iret (v := (-1)) hx hb hr (fun t ht hW => ⟨(-1), rfl, (rfl), ht⟩) (fun _ h => absurd h List.not_mem_nil) dX0_numberOf_31
set_option maxHeartbeats 4000000 in
set_option maxRecDepth 100000 in
theorem c_yo (l : Launch) (dC : Nat → ClassId) (dI : Nat → Nat → Nat) (g : Gv) (d : Nat) (k : Nat) (hk : k < 600) (h1 : Fk k ≤ d) (h2 : d < Fk (k + 1)) : Met l yX0_yearOf (.code yX0_yearOf cX0_yearOf 3 (some .int) :: TBL) ({ frames := 1, cells := 0, slots := 0, locals := 40 }) (va_Pc [.int (nI d)] (fun U => va_P (dC, dI) vwCl [] U.heap ∧ va_K (dC, dI) vwCl [] U ∧ Ev g (fun _ => False) U)) (vp_Si (fun r => r = nI (1700 + k))) 0 0 (fun _ => False) := by
  refine Met.ofW (cc := cX0_yearOf) (maxL := 3) (ret := (some .int)) (by decide) rfl ?_
  intro p e s m args below meth c s₁ B hml hv
  obtain ⟨rfl, hP, hK, hE⟩ := hv
  have hx := B.exec
  have hb := B.bytes
  have hr := B.returns
  have hts0 := atoms_spec (ws := (.code yX0_yearOf cX0_yearOf 3 (some .int) :: TBL)) B.pre
  have hts := fun (w : Cond) (h : w ∈ TBL) => hts0 w (List.mem_cons_of_mem _ h)
  have hown : s.vm.findClass RX0 = some m.cls := findClass_of_methodNamed B.named
  have hlocks := B.notSynchronized
  have hN := hE.1
  have hS : va_S (fun _ => False) s.heap s.heap [] := va_S.rf
  have hP : va_P (dC, dI) vwCl [] s.heap := hP
  have hl := lv_entry ([.int (nI d)]) (n := 3) (Nat.le_of_ble_eq_true rfl)
  rw [lg_entry_eq]
  generalize (lg_sl ([.int (nI d)]) ++ List.replicate (3 - (lg_sl ([.int (nI d)])).length) Slot.unset).toArray = ls at hl ⊢
  have hl : lv_has ls 3 [(0, .int (nI d))] := hl
  have hd : d < 219145 := by have := Fk_b (k := k + 1) (by omega); omega
  have hf1 := Fk_b (k := d / 366 + 1) (by omega)
  have hf2 := Fk_b (k := d / 366 + 2) (by omega)
  refine lv_sipush (v := 1700) hx hb dX0_yearOf_0 (by decide) ?_
  refine lv_iload_n hx hb dX0_yearOf_3 rfl (lv_at hl 0 rfl) ?_
  refine lv_sipush (v := 366) hx hb dX0_yearOf_4 (by decide) ?_
  refine lv_idiv hx hb dX0_yearOf_7 (by decide) ?_
  refine cst (v := nI (d / 366)) (pk_div (a := d) (d := 366) (by omega) (by omega) (by omega)) ?_
  refine lv_iadd hx hb dX0_yearOf_8 ?_
  refine cst (v := nI (1700 + (d / 366))) (nI_add 1700 (d / 366)) ?_
  refine lv_istore_n (lv' := [(1, .int (nI (1700 + (d / 366)))), (0, .int (nI d))]) hx hb dX0_yearOf_9 rfl hl (by decide) rfl (fun ls hl => ?_)
  refine lv_iconst (v := 0) hx hb dX0_yearOf_10 (by decide) ?_
  refine lv_istore_n (lv' := [(2, .int 0), (1, .int (nI (1700 + (d / 366)))), (0, .int (nI d))]) hx hb dX0_yearOf_11 rfl hl (by decide) rfl (fun ls hl => ?_)
  refine lv_iload_n hx hb dX0_yearOf_12 rfl (lv_at hl 0 rfl) ?_
  refine lv_iconst (v := 2) hx hb dX0_yearOf_13 (by decide) ?_
  refine lv_icmp_ge (tgt := 36) hx hb dX0_yearOf_14 (by decide) (fun c14_1 => by exfalso; exact absurd c14_1 (by decide)) (fun c14_1 => ?_)
  refine lv_iload_n hx hb dX0_yearOf_17 rfl (lv_at hl 1 rfl) ?_
  refine lv_iconst (v := 1) hx hb dX0_yearOf_18 (by decide) ?_
  refine lv_iadd hx hb dX0_yearOf_19 ?_
  refine cst (v := nI (1700 + (d / 366 + 1))) (nI_add (1700 + (d / 366)) 1) ?_
  have hPc := hP.sub (ws' := []) [] rfl
  have hKc := hK.sub (tys' := []) [] rfl
  refine vp_callSi ((va_runS (As := [.int (nI (1700 + (d / 366 + 1)))]) (rest := []) ⟨hx, hb, hml, hown, hts⟩ (c_so l dC dI g (d / 366 + 1) (by omega)) (va_cwS 1 hts (gwS qw_7 qw_8 qw_3 qw_6) rfl rfl rfl (by decide +kernel) ⟨Nat.le_of_ble_eq_true rfl, Nat.le_of_ble_eq_true rfl⟩) ⟨fun a U g9 mk q => ⟨q.1, q.2.1, va_K.moved (u := U) (U := U.calling g9 mk a) (Vm.Alike.refl U.vm) q.2.2.1, Ev.bl q.2.2.2⟩, fun U hU hW => ⟨rfl, by rw [hU]; exact hPc, va_K.moved hW.alike hKc, hE.go hS (fun _ h => h.elim) hU hW⟩⟩ rfl rfl hl.1 rfl (lv_room (Nat.le_of_ble_eq_true rfl)) dX0_yearOf_20 ⟨Nat.le_of_ble_eq_true rfl, Nat.le_of_ble_eq_true rfl⟩)).run (fun r2 h_r2 => ?_)
  have h_r2 : r2 = nI (Fk (d / 366 + 1)) := h_r2
  subst h_r2
  refine lv_iload_n hx hb dX0_yearOf_23 rfl (lv_at hl 2 rfl) ?_
  refine lv_icmp_gt (tgt := 36) hx hb dX0_yearOf_24 (by decide) (fun c24_3 => ?_) (fun c24_3 => ?_)
  · have c24_3 : ((d : Nat) : Int) < ((Fk (d / 366 + 1) : Nat) : Int) := (cv_lt (nI_toInt (by omega)) (nI_toInt (by omega))).mp c24_3
    refine lv_iload_n hx hb dX0_yearOf_36 rfl (lv_at hl 1 rfl) ?_
    exact W.iret (v := (nI (1700 + (d / 366)))) hx hb hr (fun t ht hW => ⟨(nI (1700 + (d / 366))), rfl, (by first | exact yo0 hk h1 h2 hd (by omega) | exact yo1 hk h1 h2 hd (by omega) (by omega) | exact yo2 hk h1 h2 hd (by omega)), ht⟩) (fun _ h => absurd h List.not_mem_nil) dX0_yearOf_37
  · have c24_3 : ¬ (((d : Nat) : Int) < ((Fk (d / 366 + 1) : Nat) : Int)) := mt (cv_lt (nI_toInt (by omega)) (nI_toInt (by omega))).mpr c24_3
    refine lv_iinc (v := nI (1700 + (d / 366 + 1))) (lv' := [(1, .int (nI (1700 + (d / 366 + 1)))), (2, .int 0), (0, .int (nI d))]) hx hb dX0_yearOf_27 hl (k := 1) rfl (nI_add (1700 + (d / 366)) 1) (by decide) rfl (fun ls hl => ?_)
    refine lv_iinc (v := 1) (lv' := [(2, .int 1), (1, .int (nI (1700 + (d / 366 + 1)))), (0, .int (nI d))]) hx hb dX0_yearOf_30 hl (k := 1) rfl (by decide) (by decide) rfl (fun ls hl => ?_)
    refine lv_goto (tgt := 12) hx hb dX0_yearOf_33 (by decide) ?_
    refine lv_iload_n hx hb dX0_yearOf_12 rfl (lv_at hl 0 rfl) ?_
    refine lv_iconst (v := 2) hx hb dX0_yearOf_13 (by decide) ?_
    refine lv_icmp_ge (tgt := 36) hx hb dX0_yearOf_14 (by decide) (fun c14_4 => by exfalso; exact absurd c14_4 (by decide)) (fun c14_4 => ?_)
    refine lv_iload_n hx hb dX0_yearOf_17 rfl (lv_at hl 1 rfl) ?_
    refine lv_iconst (v := 1) hx hb dX0_yearOf_18 (by decide) ?_
    refine lv_iadd hx hb dX0_yearOf_19 ?_
    refine cst (v := nI (1700 + (d / 366 + 2))) (nI_add (1700 + (d / 366 + 1)) 1) ?_
    have hPc := hP.sub (ws' := []) [] rfl
    have hKc := hK.sub (tys' := []) [] rfl
    refine vp_callSi ((va_runS (As := [.int (nI (1700 + (d / 366 + 2)))]) (rest := []) ⟨hx, hb, hml, hown, hts⟩ (c_so l dC dI g (d / 366 + 2) (by omega)) (va_cwS 1 hts (gwS qw_7 qw_8 qw_3 qw_6) rfl rfl rfl (by decide +kernel) ⟨Nat.le_of_ble_eq_true rfl, Nat.le_of_ble_eq_true rfl⟩) ⟨fun a U g9 mk q => ⟨q.1, q.2.1, va_K.moved (u := U) (U := U.calling g9 mk a) (Vm.Alike.refl U.vm) q.2.2.1, Ev.bl q.2.2.2⟩, fun U hU hW => ⟨rfl, by rw [hU]; exact hPc, va_K.moved hW.alike hKc, hE.go hS (fun _ h => h.elim) hU hW⟩⟩ rfl rfl hl.1 rfl (lv_room (Nat.le_of_ble_eq_true rfl)) dX0_yearOf_20 ⟨Nat.le_of_ble_eq_true rfl, Nat.le_of_ble_eq_true rfl⟩)).run (fun r5 h_r5 => ?_)
    have h_r5 : r5 = nI (Fk (d / 366 + 2)) := h_r5
    subst h_r5
    refine lv_iload_n hx hb dX0_yearOf_23 rfl (lv_at hl 2 rfl) ?_
    refine lv_icmp_gt (tgt := 36) hx hb dX0_yearOf_24 (by decide) (fun c24_6 => ?_) (fun c24_6 => ?_)
    · have c24_6 : ((d : Nat) : Int) < ((Fk (d / 366 + 2) : Nat) : Int) := (cv_lt (nI_toInt (by omega)) (nI_toInt (by omega))).mp c24_6
      refine lv_iload_n hx hb dX0_yearOf_36 rfl (lv_at hl 1 rfl) ?_
      exact W.iret (v := (nI (1700 + (d / 366 + 1)))) hx hb hr (fun t ht hW => ⟨(nI (1700 + (d / 366 + 1))), rfl, (by first | exact yo0 hk h1 h2 hd (by omega) | exact yo1 hk h1 h2 hd (by omega) (by omega) | exact yo2 hk h1 h2 hd (by omega)), ht⟩) (fun _ h => absurd h List.not_mem_nil) dX0_yearOf_37
    · have c24_6 : ¬ (((d : Nat) : Int) < ((Fk (d / 366 + 2) : Nat) : Int)) := mt (cv_lt (nI_toInt (by omega)) (nI_toInt (by omega))).mpr c24_6
      refine lv_iinc (v := nI (1700 + (d / 366 + 2))) (lv' := [(1, .int (nI (1700 + (d / 366 + 2)))), (2, .int 1), (0, .int (nI d))]) hx hb dX0_yearOf_27 hl (k := 1) rfl (nI_add (1700 + (d / 366 + 1)) 1) (by decide) rfl (fun ls hl => ?_)
      refine lv_iinc (v := 2) (lv' := [(2, .int 2), (1, .int (nI (1700 + (d / 366 + 2)))), (0, .int (nI d))]) hx hb dX0_yearOf_30 hl (k := 1) rfl (by decide) (by decide) rfl (fun ls hl => ?_)
      refine lv_goto (tgt := 12) hx hb dX0_yearOf_33 (by decide) ?_
      refine lv_iload_n hx hb dX0_yearOf_12 rfl (lv_at hl 0 rfl) ?_
      refine lv_iconst (v := 2) hx hb dX0_yearOf_13 (by decide) ?_
      refine lv_icmp_ge (tgt := 36) hx hb dX0_yearOf_14 (by decide) (fun c14_7 => ?_) (fun c14_7 => by exfalso; exact absurd c14_7 (by decide))
      refine lv_iload_n hx hb dX0_yearOf_36 rfl (lv_at hl 1 rfl) ?_
      exact W.iret (v := (nI (1700 + (d / 366 + 2)))) hx hb hr (fun t ht hW => ⟨(nI (1700 + (d / 366 + 2))), rfl, (by first | exact yo0 hk h1 h2 hd (by omega) | exact yo1 hk h1 h2 hd (by omega) (by omega) | exact yo2 hk h1 h2 hd (by omega)), ht⟩) (fun _ h => absurd h List.not_mem_nil) dX0_yearOf_37
set_option maxHeartbeats 4000000 in
set_option maxRecDepth 100000 in
theorem c_md (l : Launch) (dC : Nat → ClassId) (dI : Nat → Nat → Nat) (g : Gv) (d : Nat) (k : Nat) (mo : Nat) (dd : Nat) (hk : k < 600) (hm1 : 1 ≤ mo) (hm2 : mo ≤ 12) (hd1 : 1 ≤ dd) (hd2 : dd ≤ mlN (1700 + k) mo) (hd : d = Fk k + Mk (1700 + k) mo + (dd - 1)) : Met l yX0_monthAndDay (.code yX0_monthAndDay cX0_monthAndDay 4 (some .int) :: TBL) ({ frames := 1, cells := 0, slots := 0, locals := 40 }) (va_Pc [.int (nI d), .int (nI (1700 + k))] (fun U => va_P (dC, dI) vwCl [] U.heap ∧ va_K (dC, dI) vwCl [] U ∧ Ev g (fun _ => False) U)) (vp_Si (fun r => r = nI (mo * 32 + dd))) 0 0 (fun _ => False) := by
  refine Met.ofW (cc := cX0_monthAndDay) (maxL := 4) (ret := (some .int)) (by decide) rfl ?_
  intro p e s m args below meth c s₁ B hml hv
  obtain ⟨rfl, hP, hK, hE⟩ := hv
  have hx := B.exec
  have hb := B.bytes
  have hr := B.returns
  have hts0 := atoms_spec (ws := (.code yX0_monthAndDay cX0_monthAndDay 4 (some .int) :: TBL)) B.pre
  have hts := fun (w : Cond) (h : w ∈ TBL) => hts0 w (List.mem_cons_of_mem _ h)
  have hown : s.vm.findClass RX0 = some m.cls := findClass_of_methodNamed B.named
  have hlocks := B.notSynchronized
  have hN := hE.1
  have hS : va_S (fun _ => False) s.heap s.heap [] := va_S.rf
  have hP : va_P (dC, dI) vwCl [] s.heap := hP
  have hl := lv_entry ([.int (nI d), .int (nI (1700 + k))]) (n := 4) (Nat.le_of_ble_eq_true rfl)
  rw [lg_entry_eq]
  generalize (lg_sl ([.int (nI d), .int (nI (1700 + k))]) ++ List.replicate (4 - (lg_sl ([.int (nI d), .int (nI (1700 + k))])).length) Slot.unset).toArray = ls at hl ⊢
  have hl : lv_has ls 4 [(0, .int (nI d)), (1, .int (nI (1700 + k)))] := hl
  have hb1 := mlN_b (1700 + k) mo
  have hb2 := Fk_b (k := k) (by omega)
  have hb3 := Mk_b (y := 1700 + k) hm1 hm2
  refine lv_iload_n hx hb dX0_monthAndDay_0 rfl (lv_at hl 0 rfl) ?_
  refine lv_iload_n hx hb dX0_monthAndDay_1 rfl (lv_at hl 1 rfl) ?_
  have hPc := hP.sub (ws' := []) [] rfl
  have hKc := hK.sub (tys' := []) [] rfl
  refine vp_callSi ((va_runS (As := [.int (nI (1700 + k))]) (rest := [.int (nI d)]) ⟨hx, hb, hml, hown, hts⟩ (c_so l dC dI g (k) (by omega)) (va_cwS 1 hts (gwS qw_7 qw_8 qw_3 qw_6) rfl rfl rfl (by decide +kernel) ⟨Nat.le_of_ble_eq_true rfl, Nat.le_of_ble_eq_true rfl⟩) ⟨fun a U g9 mk q => ⟨q.1, q.2.1, va_K.moved (u := U) (U := U.calling g9 mk a) (Vm.Alike.refl U.vm) q.2.2.1, Ev.bl q.2.2.2⟩, fun U hU hW => ⟨rfl, by rw [hU]; exact hPc, va_K.moved hW.alike hKc, hE.go hS (fun _ h => h.elim) hU hW⟩⟩ rfl rfl hl.1 rfl (lv_room (Nat.le_of_ble_eq_true rfl)) dX0_monthAndDay_2 ⟨Nat.le_of_ble_eq_true rfl, Nat.le_of_ble_eq_true rfl⟩)).run (fun r1 h_r1 => ?_)
  have h_r1 : r1 = nI (Fk k) := h_r1
  subst h_r1
  refine lv_isub hx hb dX0_monthAndDay_5 ?_
  refine cst (v := nI (d - (Fk k))) (pk_sub (a := d) (b := (Fk k)) (by omega)) ?_
  refine lv_istore_n (lv' := [(2, .int (nI (d - (Fk k)))), (0, .int (nI d)), (1, .int (nI (1700 + k)))]) hx hb dX0_monthAndDay_6 rfl hl (by decide) rfl (fun ls hl => ?_)
  refine lv_iconst (v := 1) hx hb dX0_monthAndDay_7 (by decide) ?_
  refine lv_istore_n (lv' := [(3, .int 1), (2, .int (nI (d - (Fk k)))), (0, .int (nI d)), (1, .int (nI (1700 + k)))]) hx hb dX0_monthAndDay_8 rfl hl (by decide) rfl (fun ls hl => ?_)
  refine wloop (fun n H locs ls => ∃ (j : Nat), n = mo - j ∧ (1 ≤ j) ∧ (j ≤ mo) ∧ lv_has ls 4 [(0, .int (nI d)), (1, .int (nI (1700 + k))), (2, .int (nI (d - Fk k - Mk (1700 + k) j))), (3, .int (nI j))] ∧ H = s.heap ∧ locs = []) ?_ (mo - (1)) _ _ _ ⟨1, rfl, (by omega), (by omega), lv_sub hl [2, 3, 1, 0] rfl, rfl, rfl⟩
  intro n H locs ls hI ih
  obtain ⟨j, hn9, j1, j2, hl, rfl, rfl⟩ := hI
  have hlj := Mk_le (y := 1700 + k) j1 j2
  have hbj := mlN_b (1700 + k) j
  refine lv_iload_n hx hb dX0_monthAndDay_9 rfl (lv_at hl 3 rfl) ?_
  refine va_gets hx hb hE.2.1 hS hown (hts (.fieldLink RX0 10 "ClosedUntil$Calendar" "MONTH_LENGTHS" "[I") qw_1) (fun _ h9 => h9) dX0_monthAndDay_10 ?_
  refine va_tlen hx hb hE.2.2.1 hS (v := 12) (by decide) dX0_monthAndDay_13 ?_
  refine lv_icmp_ge (tgt := 40) hx hb dX0_monthAndDay_14 (by decide) (fun c14_2 => ?_) (fun c14_2 => ?_)
  · have c14_2 : 12 ≤ ((j : Nat) : Int) := (cv_le (by decide) (nI_toInt (by omega))).mp c14_2
    refine lv_iload_n hx hb dX0_monthAndDay_40 rfl (lv_at hl 3 rfl) ?_
    refine lv_bipush (v := 32) hx hb dX0_monthAndDay_41 (by decide) ?_
    refine lv_imul hx hb dX0_monthAndDay_43 ?_
    refine cst (v := nI (j * 32)) (pk_mul j 32) ?_
    refine lv_iload_n hx hb dX0_monthAndDay_44 rfl (lv_at hl 2 rfl) ?_
    refine lv_iadd hx hb dX0_monthAndDay_45 ?_
    refine cst (v := nI ((j * 32) + (d - Fk k - Mk (1700 + k) j))) (nI_add (j * 32) (d - Fk k - Mk (1700 + k) j)) ?_
    refine lv_iconst (v := 1) hx hb dX0_monthAndDay_46 (by decide) ?_
    refine lv_iadd hx hb dX0_monthAndDay_47 ?_
    refine cst (v := nI (((j * 32) + (d - Fk k - Mk (1700 + k) j)) + 1)) (nI_add ((j * 32) + (d - Fk k - Mk (1700 + k) j)) 1) ?_
    exact W.iret (v := (nI (((j * 32) + (d - Fk k - Mk (1700 + k) j)) + 1))) hx hb hr (fun t ht hW => ⟨(nI (((j * 32) + (d - Fk k - Mk (1700 + k) j)) + 1)), rfl, (by first | (rw [show j = mo by omega]; congr 1; omega) | (have h9 : j = mo := Mk_one (y := 1700 + k) (r := d - Fk k) j1 hm1 (by omega) (by omega) (by omega) (by omega); rw [h9]; congr 1; omega)), ht⟩) (fun _ h => absurd h List.not_mem_nil) dX0_monthAndDay_48
  · have c14_2 : ¬ (12 ≤ ((j : Nat) : Int)) := mt (cv_le (by decide) (nI_toInt (by omega))).mpr c14_2
    refine lv_iload_n hx hb dX0_monthAndDay_17 rfl (lv_at hl 2 rfl) ?_
    refine lv_iload_n hx hb dX0_monthAndDay_18 rfl (lv_at hl 1 rfl) ?_
    refine lv_iload_n hx hb dX0_monthAndDay_19 rfl (lv_at hl 3 rfl) ?_
    have hPc := hP.sub (ws' := []) [] rfl
    have hKc := hK.sub (tys' := []) [] rfl
    refine vp_callSi ((va_runS (As := [.int (nI (1700 + k)), .int (nI j)]) (rest := [.int (nI (d - Fk k - Mk (1700 + k) j))]) ⟨hx, hb, hml, hown, hts⟩ (c_ml l dC dI g (1700 + k) (j) (by omega) (by omega) (by omega)) (va_cwS 2 hts (gwS qw_4 qw_5 qw_3 qw_2) rfl rfl rfl (by decide +kernel) ⟨Nat.le_of_ble_eq_true rfl, Nat.le_of_ble_eq_true rfl⟩) ⟨fun a U g9 mk q => ⟨q.1, q.2.1, va_K.moved (u := U) (U := U.calling g9 mk a) (Vm.Alike.refl U.vm) q.2.2.1, Ev.bl q.2.2.2⟩, fun U hU hW => ⟨rfl, by rw [hU]; exact hPc, va_K.moved hW.alike hKc, hE.go hS (fun _ h => h.elim) hU hW⟩⟩ rfl rfl hl.1 rfl (lv_room (Nat.le_of_ble_eq_true rfl)) dX0_monthAndDay_20 ⟨Nat.le_of_ble_eq_true rfl, Nat.le_of_ble_eq_true rfl⟩)).run (fun r3 h_r3 => ?_)
    have h_r3 : r3 = nI (mlN (1700 + k) j) := h_r3
    subst h_r3
    refine lv_icmp_lt (tgt := 40) hx hb dX0_monthAndDay_23 (by decide) (fun c23_4 => ?_) (fun c23_4 => ?_)
    · have c23_4 : ((d - Fk k - Mk (1700 + k) j : Nat) : Int) < ((mlN (1700 + k) j : Nat) : Int) := (cv_lt (nI_toInt (by omega)) (nI_toInt (by omega))).mp c23_4
      refine lv_iload_n hx hb dX0_monthAndDay_40 rfl (lv_at hl 3 rfl) ?_
      refine lv_bipush (v := 32) hx hb dX0_monthAndDay_41 (by decide) ?_
      refine lv_imul hx hb dX0_monthAndDay_43 ?_
      refine cst (v := nI (j * 32)) (pk_mul j 32) ?_
      refine lv_iload_n hx hb dX0_monthAndDay_44 rfl (lv_at hl 2 rfl) ?_
      refine lv_iadd hx hb dX0_monthAndDay_45 ?_
      refine cst (v := nI ((j * 32) + (d - Fk k - Mk (1700 + k) j))) (nI_add (j * 32) (d - Fk k - Mk (1700 + k) j)) ?_
      refine lv_iconst (v := 1) hx hb dX0_monthAndDay_46 (by decide) ?_
      refine lv_iadd hx hb dX0_monthAndDay_47 ?_
      refine cst (v := nI (((j * 32) + (d - Fk k - Mk (1700 + k) j)) + 1)) (nI_add ((j * 32) + (d - Fk k - Mk (1700 + k) j)) 1) ?_
      exact W.iret (v := (nI (((j * 32) + (d - Fk k - Mk (1700 + k) j)) + 1))) hx hb hr (fun t ht hW => ⟨(nI (((j * 32) + (d - Fk k - Mk (1700 + k) j)) + 1)), rfl, (by first | (rw [show j = mo by omega]; congr 1; omega) | (have h9 : j = mo := Mk_one (y := 1700 + k) (r := d - Fk k) j1 hm1 (by omega) (by omega) (by omega) (by omega); rw [h9]; congr 1; omega)), ht⟩) (fun _ h => absurd h List.not_mem_nil) dX0_monthAndDay_48
    · have c23_4 : ¬ (((d - Fk k - Mk (1700 + k) j : Nat) : Int) < ((mlN (1700 + k) j : Nat) : Int)) := mt (cv_lt (nI_toInt (by omega)) (nI_toInt (by omega))).mpr c23_4
      refine lv_iload_n hx hb dX0_monthAndDay_26 rfl (lv_at hl 2 rfl) ?_
      refine lv_iload_n hx hb dX0_monthAndDay_27 rfl (lv_at hl 1 rfl) ?_
      refine lv_iload_n hx hb dX0_monthAndDay_28 rfl (lv_at hl 3 rfl) ?_
      have hPc := hP.sub (ws' := []) [] rfl
      have hKc := hK.sub (tys' := []) [] rfl
      refine vp_callSi ((va_runS (As := [.int (nI (1700 + k)), .int (nI j)]) (rest := [.int (nI (d - Fk k - Mk (1700 + k) j))]) ⟨hx, hb, hml, hown, hts⟩ (c_ml l dC dI g (1700 + k) (j) (by omega) (by omega) (by omega)) (va_cwS 2 hts (gwS qw_4 qw_5 qw_3 qw_2) rfl rfl rfl (by decide +kernel) ⟨Nat.le_of_ble_eq_true rfl, Nat.le_of_ble_eq_true rfl⟩) ⟨fun a U g9 mk q => ⟨q.1, q.2.1, va_K.moved (u := U) (U := U.calling g9 mk a) (Vm.Alike.refl U.vm) q.2.2.1, Ev.bl q.2.2.2⟩, fun U hU hW => ⟨rfl, by rw [hU]; exact hPc, va_K.moved hW.alike hKc, hE.go hS (fun _ h => h.elim) hU hW⟩⟩ rfl rfl hl.1 rfl (lv_room (Nat.le_of_ble_eq_true rfl)) dX0_monthAndDay_29 ⟨Nat.le_of_ble_eq_true rfl, Nat.le_of_ble_eq_true rfl⟩)).run (fun r5 h_r5 => ?_)
      have h_r5 : r5 = nI (mlN (1700 + k) j) := h_r5
      subst h_r5
      refine lv_isub hx hb dX0_monthAndDay_32 ?_
      refine cst (v := nI (d - Fk k - Mk (1700 + k) (j + 1))) (by rw [Mk_s j1, pk_sub (by omega)]; congr 1; omega) ?_
      refine lv_istore_n (lv' := [(2, .int (nI (d - Fk k - Mk (1700 + k) (j + 1)))), (0, .int (nI d)), (1, .int (nI (1700 + k))), (3, .int (nI j))]) hx hb dX0_monthAndDay_33 rfl hl (by decide) rfl (fun ls hl => ?_)
      refine lv_iinc (v := (nI (j + 1))) (lv' := [(3, .int (nI (j + 1))), (2, .int (nI (d - Fk k - Mk (1700 + k) (j + 1)))), (0, .int (nI d)), (1, .int (nI (1700 + k)))]) hx hb dX0_monthAndDay_34 hl (k := 3) rfl (nI_add (j) 1) (by decide) rfl (fun ls hl => ?_)
      refine lv_goto (tgt := 9) hx hb dX0_monthAndDay_37 (by decide) ?_
      have j3 := mdj (y := 1700 + k) (r := d - Fk k) j2 (by omega) (by omega)
      exact ih (mo - (j + 1)) _ _ _ (by omega) ⟨j + 1, rfl, (by omega), (by omega), lv_sub hl [2, 3, 1, 0] rfl, rfl, rfl⟩
set_option maxHeartbeats 4000000 in
set_option maxRecDepth 100000 in
theorem c_ys_L (l : Launch) (dC : Nat → ClassId) (dI : Nat → Nat → Nat) (g : Gv) (yn : Int32)  : Met l yX0_yearsOn (.code yX0_yearsOn cX0_yearsOn 7 (some .int) :: TBL) ({ frames := 3, cells := 0, slots := 0, locals := 120 }) (va_Pc [.int (nI 219145), .int yn] (fun U => va_P (dC, dI) vwCl [] U.heap ∧ va_K (dC, dI) vwCl [] U ∧ Ev g (fun _ => False) U)) (vp_Si (fun r => r = nI 219145)) 0 0 (fun _ => False) := by
  refine Met.ofW (cc := cX0_yearsOn) (maxL := 7) (ret := (some .int)) (by decide) rfl ?_
  intro p e s m args below meth c s₁ B hml hv
  obtain ⟨rfl, hP, hK, hE⟩ := hv
  have hx := B.exec
  have hb := B.bytes
  have hr := B.returns
  have hts0 := atoms_spec (ws := (.code yX0_yearsOn cX0_yearsOn 7 (some .int) :: TBL)) B.pre
  have hts := fun (w : Cond) (h : w ∈ TBL) => hts0 w (List.mem_cons_of_mem _ h)
  have hown : s.vm.findClass RX0 = some m.cls := findClass_of_methodNamed B.named
  have hlocks := B.notSynchronized
  have hN := hE.1
  have hS : va_S (fun _ => False) s.heap s.heap [] := va_S.rf
  have hP : va_P (dC, dI) vwCl [] s.heap := hP
  have hl := lv_entry ([.int (nI 219145), .int yn]) (n := 7) (Nat.le_of_ble_eq_true rfl)
  rw [lg_entry_eq]
  generalize (lg_sl ([.int (nI 219145), .int yn]) ++ List.replicate (7 - (lg_sl ([.int (nI 219145), .int yn])).length) Slot.unset).toArray = ls at hl ⊢
  have hl : lv_has ls 7 [(0, .int (nI 219145)), (1, .int yn)] := hl
  refine lv_iload_n hx hb dX0_yearsOn_0 rfl (lv_at hl 0 rfl) ?_
  refine lv_ldc (v := 219145) hx hb hown (hts (.constant RX0 9 (219145)) qw_0) dX0_yearsOn_1 ?_
  refine lv_icmp_lt (tgt := 9) hx hb dX0_yearsOn_3 (by decide) (fun c3_1 => by exfalso; have c3_1 : ((219145 : Nat) : Int) < 219145 := (cv_lt (nI_toInt (by omega)) (by decide)).mp c3_1; omega) (fun c3_1 => ?_)
  have c3_1 : ¬ (((219145 : Nat) : Int) < 219145) := mt (cv_lt (nI_toInt (by omega)) (by decide)).mpr c3_1
  refine lv_ldc (v := 219145) hx hb hown (hts (.constant RX0 9 (219145)) qw_0) dX0_yearsOn_6 ?_
  exact W.iret (v := 219145) hx hb hr (fun t ht hW => ⟨219145, rfl, (rfl), ht⟩) (fun _ h => absurd h List.not_mem_nil) dX0_yearsOn_8
set_option maxHeartbeats 4000000 in
set_option maxRecDepth 100000 in
theorem c_ys_A (l : Launch) (dC : Nat → ClassId) (dI : Nat → Nat → Nat) (g : Gv) (d : Nat) (k : Nat) (mo : Nat) (dd : Nat) (yn : Int32) (hk : k < 600) (hm1 : 1 ≤ mo) (hm2 : mo ≤ 12) (hd1 : 1 ≤ dd) (hd2 : dd ≤ mlN (1700 + k) mo) (hd : d = Fk k + Mk (1700 + k) mo + (dd - 1)) (hn : -600 ≤ yn.toInt ∧ yn.toInt ≤ 600) (hc : ((k : Nat) : Int) + yn.toInt < 0) : Met l yX0_yearsOn (.code yX0_yearsOn cX0_yearsOn 7 (some .int) :: TBL) ({ frames := 3, cells := 0, slots := 0, locals := 120 }) (va_Pc [.int (nI d), .int yn] (fun U => va_P (dC, dI) vwCl [] U.heap ∧ va_K (dC, dI) vwCl [] U ∧ Ev g (fun _ => False) U)) (vp_Si (fun r => r = nI 0)) 0 0 (fun _ => False) := by
  refine Met.ofW (cc := cX0_yearsOn) (maxL := 7) (ret := (some .int)) (by decide) rfl ?_
  intro p e s m args below meth c s₁ B hml hv
  obtain ⟨rfl, hP, hK, hE⟩ := hv
  have hx := B.exec
  have hb := B.bytes
  have hr := B.returns
  have hts0 := atoms_spec (ws := (.code yX0_yearsOn cX0_yearsOn 7 (some .int) :: TBL)) B.pre
  have hts := fun (w : Cond) (h : w ∈ TBL) => hts0 w (List.mem_cons_of_mem _ h)
  have hown : s.vm.findClass RX0 = some m.cls := findClass_of_methodNamed B.named
  have hlocks := B.notSynchronized
  have hN := hE.1
  have hS : va_S (fun _ => False) s.heap s.heap [] := va_S.rf
  have hP : va_P (dC, dI) vwCl [] s.heap := hP
  have hl := lv_entry ([.int (nI d), .int yn]) (n := 7) (Nat.le_of_ble_eq_true rfl)
  rw [lg_entry_eq]
  generalize (lg_sl ([.int (nI d), .int yn]) ++ List.replicate (7 - (lg_sl ([.int (nI d), .int yn])).length) Slot.unset).toArray = ls at hl ⊢
  have hl : lv_has ls 7 [(0, .int (nI d)), (1, .int yn)] := hl
  have hb1 := mlN_b (1700 + k) mo
  have h1 : Fk k ≤ d := by omega
  have h2 : d < Fk (k + 1) := by
    rw [Fk_s k hk]; have q1 := Mk_le (y := 1700 + k) (a := mo + 1) (b := 13) (by omega) (by omega); rw [Mk_13, Mk_s hm1] at q1; omega
  have hd9 : d < 219145 := by have := Fk_b (k := k + 1) (by omega); omega
  refine lv_iload_n hx hb dX0_yearsOn_0 rfl (lv_at hl 0 rfl) ?_
  refine lv_ldc (v := 219145) hx hb hown (hts (.constant RX0 9 (219145)) qw_0) dX0_yearsOn_1 ?_
  refine lv_icmp_lt (tgt := 9) hx hb dX0_yearsOn_3 (by decide) (fun c3_1 => ?_) (fun c3_1 => by exfalso; have c3_1 : ¬ (((d : Nat) : Int) < 219145) := mt (cv_lt (nI_toInt (by omega)) (by decide)).mpr c3_1; omega)
  have c3_1 : ((d : Nat) : Int) < 219145 := (cv_lt (nI_toInt (by omega)) (by decide)).mp c3_1
  refine lv_iload_n hx hb dX0_yearsOn_9 rfl (lv_at hl 0 rfl) ?_
  have hPc := hP.sub (ws' := []) [] rfl
  have hKc := hK.sub (tys' := []) [] rfl
  refine vp_callSi ((va_runS (As := [.int (nI d)]) (rest := []) ⟨hx, hb, hml, hown, hts⟩ (c_yo l dC dI g (d) (k) hk h1 h2) (va_cwS 1 hts (gwS qw_10 qw_11 qw_3 qw_9) rfl rfl rfl (by decide +kernel) ⟨Nat.le_of_ble_eq_true rfl, Nat.le_of_ble_eq_true rfl⟩) ⟨fun a U g9 mk q => ⟨q.1, q.2.1, va_K.moved (u := U) (U := U.calling g9 mk a) (Vm.Alike.refl U.vm) q.2.2.1, Ev.bl q.2.2.2⟩, fun U hU hW => ⟨rfl, by rw [hU]; exact hPc, va_K.moved hW.alike hKc, hE.go hS (fun _ h => h.elim) hU hW⟩⟩ rfl rfl hl.1 rfl (lv_room (Nat.le_of_ble_eq_true rfl)) dX0_yearsOn_10 ⟨Nat.le_of_ble_eq_true rfl, Nat.le_of_ble_eq_true rfl⟩)).run (fun r2 h_r2 => ?_)
  have h_r2 : r2 = nI (1700 + k) := h_r2
  subst h_r2
  refine lv_istore_n (lv' := [(2, .int (nI (1700 + k))), (0, .int (nI d)), (1, .int yn)]) hx hb dX0_yearsOn_13 rfl hl (by decide) rfl (fun ls hl => ?_)
  refine lv_iload_n hx hb dX0_yearsOn_14 rfl (lv_at hl 0 rfl) ?_
  refine lv_iload_n hx hb dX0_yearsOn_15 rfl (lv_at hl 2 rfl) ?_
  refine lv_iadd hx hb dX0_yearsOn_16 ?_
  refine lv_topi (fun x3 e_x3 => ?_)
  have hs9 : x3.toInt = ((1700 + k : Nat) : Int) + yn.toInt := by rw [e_x3]; exact ys_add (by omega) hn
  refine lv_istore_n (lv' := [(3, .int x3), (2, .int (nI (1700 + k))), (0, .int (nI d)), (1, .int yn)]) hx hb dX0_yearsOn_17 rfl hl (by decide) rfl (fun ls hl => ?_)
  refine lv_iload_n hx hb dX0_yearsOn_18 rfl (lv_at hl 0 rfl) ?_
  refine lv_sipush (v := 1700) hx hb dX0_yearsOn_19 (by decide) ?_
  refine lv_icmp_ge (tgt := 27) hx hb dX0_yearsOn_22 (by decide) (fun c22_4 => by exfalso; have c22_4 : 1700 ≤ x3.toInt := (cv_le (by decide) rfl).mp c22_4; omega) (fun c22_4 => ?_)
  have c22_4 : ¬ (1700 ≤ x3.toInt) := mt (cv_le (by decide) rfl).mpr c22_4
  refine lv_iconst (v := 0) hx hb dX0_yearsOn_25 (by decide) ?_
  exact W.iret (v := 0) hx hb hr (fun t ht hW => ⟨0, rfl, (rfl), ht⟩) (fun _ h => absurd h List.not_mem_nil) dX0_yearsOn_26
set_option maxHeartbeats 4000000 in
set_option maxRecDepth 100000 in
theorem c_ys_B (l : Launch) (dC : Nat → ClassId) (dI : Nat → Nat → Nat) (g : Gv) (d : Nat) (k : Nat) (mo : Nat) (dd : Nat) (yn : Int32) (hk : k < 600) (hm1 : 1 ≤ mo) (hm2 : mo ≤ 12) (hd1 : 1 ≤ dd) (hd2 : dd ≤ mlN (1700 + k) mo) (hd : d = Fk k + Mk (1700 + k) mo + (dd - 1)) (hn : -600 ≤ yn.toInt ∧ yn.toInt ≤ 600) (hc : 599 < ((k : Nat) : Int) + yn.toInt) : Met l yX0_yearsOn (.code yX0_yearsOn cX0_yearsOn 7 (some .int) :: TBL) ({ frames := 3, cells := 0, slots := 0, locals := 120 }) (va_Pc [.int (nI d), .int yn] (fun U => va_P (dC, dI) vwCl [] U.heap ∧ va_K (dC, dI) vwCl [] U ∧ Ev g (fun _ => False) U)) (vp_Si (fun r => r = nI 219145)) 0 0 (fun _ => False) := by
  refine Met.ofW (cc := cX0_yearsOn) (maxL := 7) (ret := (some .int)) (by decide) rfl ?_
  intro p e s m args below meth c s₁ B hml hv
  obtain ⟨rfl, hP, hK, hE⟩ := hv
  have hx := B.exec
  have hb := B.bytes
  have hr := B.returns
  have hts0 := atoms_spec (ws := (.code yX0_yearsOn cX0_yearsOn 7 (some .int) :: TBL)) B.pre
  have hts := fun (w : Cond) (h : w ∈ TBL) => hts0 w (List.mem_cons_of_mem _ h)
  have hown : s.vm.findClass RX0 = some m.cls := findClass_of_methodNamed B.named
  have hlocks := B.notSynchronized
  have hN := hE.1
  have hS : va_S (fun _ => False) s.heap s.heap [] := va_S.rf
  have hP : va_P (dC, dI) vwCl [] s.heap := hP
  have hl := lv_entry ([.int (nI d), .int yn]) (n := 7) (Nat.le_of_ble_eq_true rfl)
  rw [lg_entry_eq]
  generalize (lg_sl ([.int (nI d), .int yn]) ++ List.replicate (7 - (lg_sl ([.int (nI d), .int yn])).length) Slot.unset).toArray = ls at hl ⊢
  have hl : lv_has ls 7 [(0, .int (nI d)), (1, .int yn)] := hl
  have hb1 := mlN_b (1700 + k) mo
  have h1 : Fk k ≤ d := by omega
  have h2 : d < Fk (k + 1) := by
    rw [Fk_s k hk]; have q1 := Mk_le (y := 1700 + k) (a := mo + 1) (b := 13) (by omega) (by omega); rw [Mk_13, Mk_s hm1] at q1; omega
  have hd9 : d < 219145 := by have := Fk_b (k := k + 1) (by omega); omega
  refine lv_iload_n hx hb dX0_yearsOn_0 rfl (lv_at hl 0 rfl) ?_
  refine lv_ldc (v := 219145) hx hb hown (hts (.constant RX0 9 (219145)) qw_0) dX0_yearsOn_1 ?_
  refine lv_icmp_lt (tgt := 9) hx hb dX0_yearsOn_3 (by decide) (fun c3_1 => ?_) (fun c3_1 => by exfalso; have c3_1 : ¬ (((d : Nat) : Int) < 219145) := mt (cv_lt (nI_toInt (by omega)) (by decide)).mpr c3_1; omega)
  have c3_1 : ((d : Nat) : Int) < 219145 := (cv_lt (nI_toInt (by omega)) (by decide)).mp c3_1
  refine lv_iload_n hx hb dX0_yearsOn_9 rfl (lv_at hl 0 rfl) ?_
  have hPc := hP.sub (ws' := []) [] rfl
  have hKc := hK.sub (tys' := []) [] rfl
  refine vp_callSi ((va_runS (As := [.int (nI d)]) (rest := []) ⟨hx, hb, hml, hown, hts⟩ (c_yo l dC dI g (d) (k) hk h1 h2) (va_cwS 1 hts (gwS qw_10 qw_11 qw_3 qw_9) rfl rfl rfl (by decide +kernel) ⟨Nat.le_of_ble_eq_true rfl, Nat.le_of_ble_eq_true rfl⟩) ⟨fun a U g9 mk q => ⟨q.1, q.2.1, va_K.moved (u := U) (U := U.calling g9 mk a) (Vm.Alike.refl U.vm) q.2.2.1, Ev.bl q.2.2.2⟩, fun U hU hW => ⟨rfl, by rw [hU]; exact hPc, va_K.moved hW.alike hKc, hE.go hS (fun _ h => h.elim) hU hW⟩⟩ rfl rfl hl.1 rfl (lv_room (Nat.le_of_ble_eq_true rfl)) dX0_yearsOn_10 ⟨Nat.le_of_ble_eq_true rfl, Nat.le_of_ble_eq_true rfl⟩)).run (fun r2 h_r2 => ?_)
  have h_r2 : r2 = nI (1700 + k) := h_r2
  subst h_r2
  refine lv_istore_n (lv' := [(2, .int (nI (1700 + k))), (0, .int (nI d)), (1, .int yn)]) hx hb dX0_yearsOn_13 rfl hl (by decide) rfl (fun ls hl => ?_)
  refine lv_iload_n hx hb dX0_yearsOn_14 rfl (lv_at hl 0 rfl) ?_
  refine lv_iload_n hx hb dX0_yearsOn_15 rfl (lv_at hl 2 rfl) ?_
  refine lv_iadd hx hb dX0_yearsOn_16 ?_
  refine lv_topi (fun x3 e_x3 => ?_)
  have hs9 : x3.toInt = ((1700 + k : Nat) : Int) + yn.toInt := by rw [e_x3]; exact ys_add (by omega) hn
  refine lv_istore_n (lv' := [(3, .int x3), (2, .int (nI (1700 + k))), (0, .int (nI d)), (1, .int yn)]) hx hb dX0_yearsOn_17 rfl hl (by decide) rfl (fun ls hl => ?_)
  refine lv_iload_n hx hb dX0_yearsOn_18 rfl (lv_at hl 0 rfl) ?_
  refine lv_sipush (v := 1700) hx hb dX0_yearsOn_19 (by decide) ?_
  refine lv_icmp_ge (tgt := 27) hx hb dX0_yearsOn_22 (by decide) (fun c22_4 => ?_) (fun c22_4 => by exfalso; have c22_4 : ¬ (1700 ≤ x3.toInt) := mt (cv_le (by decide) rfl).mpr c22_4; omega)
  have c22_4 : 1700 ≤ x3.toInt := (cv_le (by decide) rfl).mp c22_4
  refine lv_iload_n hx hb dX0_yearsOn_27 rfl (lv_at hl 0 rfl) ?_
  refine lv_sipush (v := 2299) hx hb dX0_yearsOn_28 (by decide) ?_
  refine lv_icmp_le (tgt := 37) hx hb dX0_yearsOn_31 (by decide) (fun c31_5 => by exfalso; have c31_5 : x3.toInt ≤ 2299 := (cv_le rfl (by decide)).mp c31_5; omega) (fun c31_5 => ?_)
  have c31_5 : ¬ (x3.toInt ≤ 2299) := mt (cv_le rfl (by decide)).mpr c31_5
  refine lv_ldc (v := 219145) hx hb hown (hts (.constant RX0 9 (219145)) qw_0) dX0_yearsOn_34 ?_
  exact W.iret (v := 219145) hx hb hr (fun t ht hW => ⟨219145, rfl, (rfl), ht⟩) (fun _ h => absurd h List.not_mem_nil) dX0_yearsOn_36
set_option maxHeartbeats 4000000 in
set_option maxRecDepth 100000 in
theorem c_ys_C (l : Launch) (dC : Nat → ClassId) (dI : Nat → Nat → Nat) (g : Gv) (d : Nat) (k : Nat) (mo : Nat) (dd : Nat) (yn : Int32) (k2 : Nat) (hk : k < 600) (hm1 : 1 ≤ mo) (hm2 : mo ≤ 12) (hd1 : 1 ≤ dd) (hd2 : dd ≤ mlN (1700 + k) mo) (hd : d = Fk k + Mk (1700 + k) mo + (dd - 1)) (hn : -600 ≤ yn.toInt ∧ yn.toInt ≤ 600) (hk2 : k2 < 600) (hc : ((k : Nat) : Int) + yn.toInt = k2) : Met l yX0_yearsOn (.code yX0_yearsOn cX0_yearsOn 7 (some .int) :: TBL) ({ frames := 3, cells := 0, slots := 0, locals := 120 }) (va_Pc [.int (nI d), .int yn] (fun U => va_P (dC, dI) vwCl [] U.heap ∧ va_K (dC, dI) vwCl [] U ∧ Ev g (fun _ => False) U)) (vp_Si (fun r => r = nI (Fk k2 + Mk (1700 + k2) mo + min dd (mlN (1700 + k2) mo) - 1))) 0 0 (fun _ => False) := by
  refine Met.ofW (cc := cX0_yearsOn) (maxL := 7) (ret := (some .int)) (by decide) rfl ?_
  intro p e s m args below meth c s₁ B hml hv
  obtain ⟨rfl, hP, hK, hE⟩ := hv
  have hx := B.exec
  have hb := B.bytes
  have hr := B.returns
  have hts0 := atoms_spec (ws := (.code yX0_yearsOn cX0_yearsOn 7 (some .int) :: TBL)) B.pre
  have hts := fun (w : Cond) (h : w ∈ TBL) => hts0 w (List.mem_cons_of_mem _ h)
  have hown : s.vm.findClass RX0 = some m.cls := findClass_of_methodNamed B.named
  have hlocks := B.notSynchronized
  have hN := hE.1
  have hS : va_S (fun _ => False) s.heap s.heap [] := va_S.rf
  have hP : va_P (dC, dI) vwCl [] s.heap := hP
  have hl := lv_entry ([.int (nI d), .int yn]) (n := 7) (Nat.le_of_ble_eq_true rfl)
  rw [lg_entry_eq]
  generalize (lg_sl ([.int (nI d), .int yn]) ++ List.replicate (7 - (lg_sl ([.int (nI d), .int yn])).length) Slot.unset).toArray = ls at hl ⊢
  have hl : lv_has ls 7 [(0, .int (nI d)), (1, .int yn)] := hl
  have hb1 := mlN_b (1700 + k) mo
  have h1 : Fk k ≤ d := by omega
  have h2 : d < Fk (k + 1) := by
    rw [Fk_s k hk]; have q1 := Mk_le (y := 1700 + k) (a := mo + 1) (b := 13) (by omega) (by omega); rw [Mk_13, Mk_s hm1] at q1; omega
  have hd9 : d < 219145 := by have := Fk_b (k := k + 1) (by omega); omega
  have hb4 := mlN_b (1700 + k2) mo
  refine lv_iload_n hx hb dX0_yearsOn_0 rfl (lv_at hl 0 rfl) ?_
  refine lv_ldc (v := 219145) hx hb hown (hts (.constant RX0 9 (219145)) qw_0) dX0_yearsOn_1 ?_
  refine lv_icmp_lt (tgt := 9) hx hb dX0_yearsOn_3 (by decide) (fun c3_1 => ?_) (fun c3_1 => by exfalso; have c3_1 : ¬ (((d : Nat) : Int) < 219145) := mt (cv_lt (nI_toInt (by omega)) (by decide)).mpr c3_1; omega)
  have c3_1 : ((d : Nat) : Int) < 219145 := (cv_lt (nI_toInt (by omega)) (by decide)).mp c3_1
  refine lv_iload_n hx hb dX0_yearsOn_9 rfl (lv_at hl 0 rfl) ?_
  have hPc := hP.sub (ws' := []) [] rfl
  have hKc := hK.sub (tys' := []) [] rfl
  refine vp_callSi ((va_runS (As := [.int (nI d)]) (rest := []) ⟨hx, hb, hml, hown, hts⟩ (c_yo l dC dI g (d) (k) hk h1 h2) (va_cwS 1 hts (gwS qw_10 qw_11 qw_3 qw_9) rfl rfl rfl (by decide +kernel) ⟨Nat.le_of_ble_eq_true rfl, Nat.le_of_ble_eq_true rfl⟩) ⟨fun a U g9 mk q => ⟨q.1, q.2.1, va_K.moved (u := U) (U := U.calling g9 mk a) (Vm.Alike.refl U.vm) q.2.2.1, Ev.bl q.2.2.2⟩, fun U hU hW => ⟨rfl, by rw [hU]; exact hPc, va_K.moved hW.alike hKc, hE.go hS (fun _ h => h.elim) hU hW⟩⟩ rfl rfl hl.1 rfl (lv_room (Nat.le_of_ble_eq_true rfl)) dX0_yearsOn_10 ⟨Nat.le_of_ble_eq_true rfl, Nat.le_of_ble_eq_true rfl⟩)).run (fun r2 h_r2 => ?_)
  have h_r2 : r2 = nI (1700 + k) := h_r2
  subst h_r2
  refine lv_istore_n (lv' := [(2, .int (nI (1700 + k))), (0, .int (nI d)), (1, .int yn)]) hx hb dX0_yearsOn_13 rfl hl (by decide) rfl (fun ls hl => ?_)
  refine lv_iload_n hx hb dX0_yearsOn_14 rfl (lv_at hl 0 rfl) ?_
  refine lv_iload_n hx hb dX0_yearsOn_15 rfl (lv_at hl 2 rfl) ?_
  refine lv_iadd hx hb dX0_yearsOn_16 ?_
  refine cst (v := nI (1700 + k2)) (ys_sum (by omega) hn (by omega) (by omega)) ?_
  refine lv_istore_n (lv' := [(3, .int (nI (1700 + k2))), (2, .int (nI (1700 + k))), (0, .int (nI d)), (1, .int yn)]) hx hb dX0_yearsOn_17 rfl hl (by decide) rfl (fun ls hl => ?_)
  refine lv_iload_n hx hb dX0_yearsOn_18 rfl (lv_at hl 0 rfl) ?_
  refine lv_sipush (v := 1700) hx hb dX0_yearsOn_19 (by decide) ?_
  refine lv_icmp_ge (tgt := 27) hx hb dX0_yearsOn_22 (by decide) (fun c22_3 => ?_) (fun c22_3 => by exfalso; have c22_3 : ¬ (1700 ≤ ((1700 + k2 : Nat) : Int)) := mt (cv_le (by decide) (nI_toInt (by omega))).mpr c22_3; omega)
  have c22_3 : 1700 ≤ ((1700 + k2 : Nat) : Int) := (cv_le (by decide) (nI_toInt (by omega))).mp c22_3
  refine lv_iload_n hx hb dX0_yearsOn_27 rfl (lv_at hl 0 rfl) ?_
  refine lv_sipush (v := 2299) hx hb dX0_yearsOn_28 (by decide) ?_
  refine lv_icmp_le (tgt := 37) hx hb dX0_yearsOn_31 (by decide) (fun c31_4 => ?_) (fun c31_4 => by exfalso; have c31_4 : ¬ (((1700 + k2 : Nat) : Int) ≤ 2299) := mt (cv_le (nI_toInt (by omega)) (by decide)).mpr c31_4; omega)
  have c31_4 : ((1700 + k2 : Nat) : Int) ≤ 2299 := (cv_le (nI_toInt (by omega)) (by decide)).mp c31_4
  refine lv_iload_n hx hb dX0_yearsOn_37 rfl (lv_at hl 2 rfl) ?_
  refine lv_iload_n hx hb dX0_yearsOn_38 rfl (lv_at hl 1 rfl) ?_
  have hPc := hP.sub (ws' := []) [] rfl
  have hKc := hK.sub (tys' := []) [] rfl
  refine vp_callSi ((va_runS (As := [.int (nI d), .int (nI (1700 + k))]) (rest := []) ⟨hx, hb, hml, hown, hts⟩ (c_md l dC dI g (d) (k) (mo) (dd) hk hm1 hm2 hd1 hd2 hd) (va_cwS 2 hts (gwS qw_13 qw_14 qw_3 qw_12) rfl rfl rfl (by decide +kernel) ⟨Nat.le_of_ble_eq_true rfl, Nat.le_of_ble_eq_true rfl⟩) ⟨fun a U g9 mk q => ⟨q.1, q.2.1, va_K.moved (u := U) (U := U.calling g9 mk a) (Vm.Alike.refl U.vm) q.2.2.1, Ev.bl q.2.2.2⟩, fun U hU hW => ⟨rfl, by rw [hU]; exact hPc, va_K.moved hW.alike hKc, hE.go hS (fun _ h => h.elim) hU hW⟩⟩ rfl rfl hl.1 rfl (lv_room (Nat.le_of_ble_eq_true rfl)) dX0_yearsOn_39 ⟨Nat.le_of_ble_eq_true rfl, Nat.le_of_ble_eq_true rfl⟩)).run (fun r5 h_r5 => ?_)
  have h_r5 : r5 = nI (mo * 32 + dd) := h_r5
  subst h_r5
  refine lv_istore (lv' := [(4, .int (nI (mo * 32 + dd))), (3, .int (nI (1700 + k2))), (2, .int (nI (1700 + k))), (0, .int (nI d)), (1, .int yn)]) hx hb dX0_yearsOn_42 hl (by decide) rfl (fun ls hl => ?_)
  refine lv_iload hx hb dX0_yearsOn_44 (lv_at hl 0 rfl) ?_
  refine lv_bipush (v := 32) hx hb dX0_yearsOn_46 (by decide) ?_
  refine lv_idiv hx hb dX0_yearsOn_48 (by decide) ?_
  refine cst (v := nI mo) ((pk_div (a := mo * 32 + dd) (d := 32) (by omega) (by omega) (by omega)).trans (by congr 1; omega)) ?_
  refine lv_istore (lv' := [(5, .int (nI mo)), (4, .int (nI (mo * 32 + dd))), (3, .int (nI (1700 + k2))), (2, .int (nI (1700 + k))), (0, .int (nI d)), (1, .int yn)]) hx hb dX0_yearsOn_49 hl (by decide) rfl (fun ls hl => ?_)
  refine lv_iload hx hb dX0_yearsOn_51 (lv_at hl 1 rfl) ?_
  refine lv_bipush (v := 32) hx hb dX0_yearsOn_53 (by decide) ?_
  refine lv_irem hx hb dX0_yearsOn_55 (by decide) ?_
  refine cst (v := nI dd) ((pk_rem (a := mo * 32 + dd) (d := 32) (by omega) (by omega) (by omega)).trans (by congr 1; omega)) ?_
  refine lv_iload_n hx hb dX0_yearsOn_56 rfl (lv_at hl 2 rfl) ?_
  refine lv_iload hx hb dX0_yearsOn_57 (lv_at hl 0 rfl) ?_
  have hPc := hP.sub (ws' := []) [] rfl
  have hKc := hK.sub (tys' := []) [] rfl
  refine vp_callSi ((va_runS (As := [.int (nI (1700 + k2)), .int (nI mo)]) (rest := [.int (nI dd)]) ⟨hx, hb, hml, hown, hts⟩ (c_ml l dC dI g (1700 + k2) (mo) (by omega) (by omega) (by omega)) (va_cwS 2 hts (gwS qw_4 qw_5 qw_3 qw_2) rfl rfl rfl (by decide +kernel) ⟨Nat.le_of_ble_eq_true rfl, Nat.le_of_ble_eq_true rfl⟩) ⟨fun a U g9 mk q => ⟨q.1, q.2.1, va_K.moved (u := U) (U := U.calling g9 mk a) (Vm.Alike.refl U.vm) q.2.2.1, Ev.bl q.2.2.2⟩, fun U hU hW => ⟨rfl, by rw [hU]; exact hPc, va_K.moved hW.alike hKc, hE.go hS (fun _ h => h.elim) hU hW⟩⟩ rfl rfl hl.1 rfl (lv_room (Nat.le_of_ble_eq_true rfl)) dX0_yearsOn_59 ⟨Nat.le_of_ble_eq_true rfl, Nat.le_of_ble_eq_true rfl⟩)).run (fun r6 h_r6 => ?_)
  have h_r6 : r6 = nI (mlN (1700 + k2) mo) := h_r6
  subst h_r6
  refine va_mmin hx hb (by rw [hml]; exact hl.1.symm) hown (hts (.methodLink RX0 30 Lib.Math.min.name) qw_16) (hts (.static Lib.Math.min.name) qw_17) (hts (.initialized "java/lang/Math") qw_15) (hts (.code Lib.Math.min.name Lib.Math.min.code 2 (some .int)) qw_18) (Nat.le_of_ble_eq_true rfl) (Nat.le_of_ble_eq_true rfl) (Nat.le_of_ble_eq_true rfl) (Nat.le_of_ble_eq_true rfl) dX0_yearsOn_62 ?_
  refine cst (v := nI (min dd (mlN (1700 + k2) mo))) (mn_ok (by omega) (by omega)) ?_
  refine lv_istore (lv' := [(6, .int (nI (min dd (mlN (1700 + k2) mo)))), (5, .int (nI mo)), (4, .int (nI (mo * 32 + dd))), (3, .int (nI (1700 + k2))), (2, .int (nI (1700 + k))), (0, .int (nI d)), (1, .int yn)]) hx hb dX0_yearsOn_65 hl (by decide) rfl (fun ls hl => ?_)
  refine lv_iload_n hx hb dX0_yearsOn_67 rfl (lv_at hl 3 rfl) ?_
  refine lv_iload hx hb dX0_yearsOn_68 (lv_at hl 1 rfl) ?_
  refine lv_iload hx hb dX0_yearsOn_70 (lv_at hl 0 rfl) ?_
  have hPc := hP.sub (ws' := []) [] rfl
  have hKc := hK.sub (tys' := []) [] rfl
  refine vp_callSi ((va_runS (As := [.int (nI (1700 + k2)), .int (nI mo), .int (nI (min dd (mlN (1700 + k2) mo)))]) (rest := []) ⟨hx, hb, hml, hown, hts⟩ (c_no_in l dC dI g (k2) (mo) (min dd (mlN (1700 + k2) mo)) hk2 hm1 hm2 (by omega) (by omega)) (va_cwS 3 hts (gwS qw_20 qw_21 qw_3 qw_19) rfl rfl rfl (by decide +kernel) ⟨Nat.le_of_ble_eq_true rfl, Nat.le_of_ble_eq_true rfl⟩) ⟨fun a U g9 mk q => ⟨q.1, q.2.1, va_K.moved (u := U) (U := U.calling g9 mk a) (Vm.Alike.refl U.vm) q.2.2.1, Ev.bl q.2.2.2⟩, fun U hU hW => ⟨rfl, by rw [hU]; exact hPc, va_K.moved hW.alike hKc, hE.go hS (fun _ h => h.elim) hU hW⟩⟩ rfl rfl hl.1 rfl (lv_room (Nat.le_of_ble_eq_true rfl)) dX0_yearsOn_72 ⟨Nat.le_of_ble_eq_true rfl, Nat.le_of_ble_eq_true rfl⟩)).run (fun r7 h_r7 => ?_)
  have h_r7 : r7 = nI (Fk k2 + Mk (1700 + k2) mo + (min dd (mlN (1700 + k2) mo)) - 1) := h_r7
  subst h_r7
  exact W.iret (v := (nI (Fk k2 + Mk (1700 + k2) mo + (min dd (mlN (1700 + k2) mo)) - 1))) hx hb hr (fun t ht hW => ⟨(nI (Fk k2 + Mk (1700 + k2) mo + (min dd (mlN (1700 + k2) mo)) - 1)), rfl, (rfl), ht⟩) (fun _ h => absurd h List.not_mem_nil) dX0_yearsOn_75
set_option maxHeartbeats 4000000 in
set_option maxRecDepth 100000 in
theorem c_dl_in (l : Launch) (dC : Nat → ClassId) (dI : Nat → Nat → Nat) (g : Gv) (d : Nat) (hd : d ≤ 219145) : Met l yX8_isDayOrLate (.code yX8_isDayOrLate cX8_isDayOrLate 1 (some .boolean) :: TBL) ({ frames := 0, cells := 0, slots := 0, locals := 0 }) (va_Pc [.int (nI d)] (fun U => va_P (dC, dI) vwCl [] U.heap ∧ va_K (dC, dI) vwCl [] U ∧ Ev g (fun _ => False) U)) (vp_Si (fun r => r = 1)) 0 0 (fun _ => False) := by
  refine Met.ofW (cc := cX8_isDayOrLate) (maxL := 1) (ret := (some .boolean)) (by decide) rfl ?_
  intro p e s m args below meth c s₁ B hml hv
  obtain ⟨rfl, hP, hK, hE⟩ := hv
  have hx := B.exec
  have hb := B.bytes
  have hr := B.returns
  have hts0 := atoms_spec (ws := (.code yX8_isDayOrLate cX8_isDayOrLate 1 (some .boolean) :: TBL)) B.pre
  have hts := fun (w : Cond) (h : w ∈ TBL) => hts0 w (List.mem_cons_of_mem _ h)
  have hown : s.vm.findClass RX8 = some m.cls := findClass_of_methodNamed B.named
  have hlocks := B.notSynchronized
  have hN := hE.1
  have hS : va_S (fun _ => False) s.heap s.heap [] := va_S.rf
  have hP : va_P (dC, dI) vwCl [] s.heap := hP
  have hl := lv_entry ([.int (nI d)]) (n := 1) (Nat.le_of_ble_eq_true rfl)
  rw [lg_entry_eq]
  generalize (lg_sl ([.int (nI d)]) ++ List.replicate (1 - (lg_sl ([.int (nI d)])).length) Slot.unset).toArray = ls at hl ⊢
  have hl : lv_has ls 1 [(0, .int (nI d))] := hl
  refine lv_iload_n hx hb dX8_isDayOrLate_0 rfl (lv_at hl 0 rfl) ?_
  refine lv_if_lt (tgt := 15) hx hb dX8_isDayOrLate_1 (by decide) (fun c1_1 => by exfalso; have c1_1 : ((d : Nat) : Int) < 0 := (cv_lt (nI_toInt (by omega)) (by decide)).mp c1_1; omega) (fun c1_1 => ?_)
  have c1_1 : ¬ (((d : Nat) : Int) < 0) := mt (cv_lt (nI_toInt (by omega)) (by decide)).mpr c1_1
  refine lv_iload_n hx hb dX8_isDayOrLate_4 rfl (lv_at hl 0 rfl) ?_
  refine lv_ldcw (v := 219145) hx hb hown (hts (.constant RX8 279 (219145)) qw_242) dX8_isDayOrLate_5 ?_
  refine lv_icmp_gt (tgt := 15) hx hb dX8_isDayOrLate_8 (by decide) (fun c8_2 => by exfalso; have c8_2 : 219145 < ((d : Nat) : Int) := (cv_lt (by decide) (nI_toInt (by omega))).mp c8_2; omega) (fun c8_2 => ?_)
  have c8_2 : ¬ (219145 < ((d : Nat) : Int)) := mt (cv_lt (by decide) (nI_toInt (by omega))).mpr c8_2
  refine lv_iconst (v := 1) hx hb dX8_isDayOrLate_11 (by decide) ?_
  refine lv_goto (tgt := 16) hx hb dX8_isDayOrLate_12 (by decide) ?_
  exact W.zret (v := 1) hx hb hr rfl (fun t ht hW => ⟨1, rfl, (rfl), ht⟩) (fun _ h => absurd h List.not_mem_nil) dX8_isDayOrLate_16
set_option maxHeartbeats 4000000 in
set_option maxRecDepth 100000 in
theorem c_dl_out (l : Launch) (dC : Nat → ClassId) (dI : Nat → Nat → Nat) (g : Gv) (d : Int32) (hd : ¬ (0 ≤ d.toInt ∧ d.toInt ≤ 219145)) : Met l yX8_isDayOrLate (.code yX8_isDayOrLate cX8_isDayOrLate 1 (some .boolean) :: TBL) ({ frames := 0, cells := 0, slots := 0, locals := 0 }) (va_Pc [.int d] (fun U => va_P (dC, dI) vwCl [] U.heap ∧ va_K (dC, dI) vwCl [] U ∧ Ev g (fun _ => False) U)) (vp_Si (fun r => r = 0)) 0 0 (fun _ => False) := by
  refine Met.ofW (cc := cX8_isDayOrLate) (maxL := 1) (ret := (some .boolean)) (by decide) rfl ?_
  intro p e s m args below meth c s₁ B hml hv
  obtain ⟨rfl, hP, hK, hE⟩ := hv
  have hx := B.exec
  have hb := B.bytes
  have hr := B.returns
  have hts0 := atoms_spec (ws := (.code yX8_isDayOrLate cX8_isDayOrLate 1 (some .boolean) :: TBL)) B.pre
  have hts := fun (w : Cond) (h : w ∈ TBL) => hts0 w (List.mem_cons_of_mem _ h)
  have hown : s.vm.findClass RX8 = some m.cls := findClass_of_methodNamed B.named
  have hlocks := B.notSynchronized
  have hN := hE.1
  have hS : va_S (fun _ => False) s.heap s.heap [] := va_S.rf
  have hP : va_P (dC, dI) vwCl [] s.heap := hP
  have hl := lv_entry ([.int d]) (n := 1) (Nat.le_of_ble_eq_true rfl)
  rw [lg_entry_eq]
  generalize (lg_sl ([.int d]) ++ List.replicate (1 - (lg_sl ([.int d])).length) Slot.unset).toArray = ls at hl ⊢
  have hl : lv_has ls 1 [(0, .int d)] := hl
  refine lv_iload_n hx hb dX8_isDayOrLate_0 rfl (lv_at hl 0 rfl) ?_
  refine lv_if_lt (tgt := 15) hx hb dX8_isDayOrLate_1 (by decide) (fun c1_1 => ?_) (fun c1_1 => ?_)
  · have c1_1 : d.toInt < 0 := (cv_lt rfl (by decide)).mp c1_1
    refine lv_iconst (v := 0) hx hb dX8_isDayOrLate_15 (by decide) ?_
    exact W.zret (v := 0) hx hb hr rfl (fun t ht hW => ⟨0, rfl, (rfl), ht⟩) (fun _ h => absurd h List.not_mem_nil) dX8_isDayOrLate_16
  · have c1_1 : ¬ (d.toInt < 0) := mt (cv_lt rfl (by decide)).mpr c1_1
    refine lv_iload_n hx hb dX8_isDayOrLate_4 rfl (lv_at hl 0 rfl) ?_
    refine lv_ldcw (v := 219145) hx hb hown (hts (.constant RX8 279 (219145)) qw_242) dX8_isDayOrLate_5 ?_
    refine lv_icmp_gt (tgt := 15) hx hb dX8_isDayOrLate_8 (by decide) (fun c8_2 => ?_) (fun c8_2 => by exfalso; have c8_2 : ¬ (219145 < d.toInt) := mt (cv_lt (by decide) rfl).mpr c8_2; omega)
    have c8_2 : 219145 < d.toInt := (cv_lt (by decide) rfl).mp c8_2
    refine lv_iconst (v := 0) hx hb dX8_isDayOrLate_15 (by decide) ?_
    exact W.zret (v := 0) hx hb hr rfl (fun t ht hW => ⟨0, rfl, (rfl), ht⟩) (fun _ h => absurd h List.not_mem_nil) dX8_isDayOrLate_16
set_option maxHeartbeats 4000000 in
set_option maxRecDepth 100000 in
theorem c_8plus_O (l : Launch) (dC : Nat → ClassId) (dI : Nat → Nat → Nat) (g : Gv) (x0 : Nat) (d : Int32) (yn : Int32) (hd : ¬ (0 ≤ d.toInt ∧ d.toInt ≤ 219145)) : Met l yX8_plus (.code yX8_plus cX8_plus 3 (some .int) :: TBL) ({ frames := 4, cells := 0, slots := 0, locals := 160 }) (va_Pc [.ref x0, .int d, .int yn] (fun U => va_P (dC, dI) vwCl [] U.heap ∧ va_K (dC, dI) vwCl [] U ∧ Ev g (fun _ => False) U)) (vp_Si (fun r => r = -1)) 0 0 (fun _ => False) := by
  refine Met.ofW (cc := cX8_plus) (maxL := 3) (ret := (some .int)) (by decide) rfl ?_
  intro p e s m args below meth c s₁ B hml hv
  obtain ⟨rfl, hP, hK, hE⟩ := hv
  have hx := B.exec
  have hb := B.bytes
  have hr := B.returns
  have hts0 := atoms_spec (ws := (.code yX8_plus cX8_plus 3 (some .int) :: TBL)) B.pre
  have hts := fun (w : Cond) (h : w ∈ TBL) => hts0 w (List.mem_cons_of_mem _ h)
  have hown : s.vm.findClass RX8 = some m.cls := findClass_of_methodNamed B.named
  have hlocks := B.notSynchronized
  have hN := hE.1
  have hS : va_S (fun _ => False) s.heap s.heap [] := va_S.rf
  have hP : va_P (dC, dI) vwCl [] s.heap := hP
  have hl := lv_entry ([.ref x0, .int d, .int yn]) (n := 3) (Nat.le_of_ble_eq_true rfl)
  rw [lg_entry_eq]
  generalize (lg_sl ([.ref x0, .int d, .int yn]) ++ List.replicate (3 - (lg_sl ([.ref x0, .int d, .int yn])).length) Slot.unset).toArray = ls at hl ⊢
  have hl : lv_has ls 3 [(0, .ref x0), (1, .int d), (2, .int yn)] := hl
  refine lv_iload_n hx hb dX8_plus_0 rfl (lv_at hl 1 rfl) ?_
  have hPc := hP.sub (ws' := []) [] rfl
  have hKc := hK.sub (tys' := []) [] rfl
  refine vp_callSi ((va_runS (As := [.int d]) (rest := []) ⟨hx, hb, hml, hown, hts⟩ (c_dl_out l dC dI g (d) hd) (va_cwS 1 hts (gwS qw_260 qw_261 qw_28 qw_259) rfl rfl rfl (by decide +kernel) ⟨Nat.le_of_ble_eq_true rfl, Nat.le_of_ble_eq_true rfl⟩) ⟨fun a U g9 mk q => ⟨q.1, q.2.1, va_K.moved (u := U) (U := U.calling g9 mk a) (Vm.Alike.refl U.vm) q.2.2.1, Ev.bl q.2.2.2⟩, fun U hU hW => ⟨rfl, by rw [hU]; exact hPc, va_K.moved hW.alike hKc, hE.go hS (fun _ h => h.elim) hU hW⟩⟩ rfl rfl hl.1 rfl (lv_room (Nat.le_of_ble_eq_true rfl)) dX8_plus_1 ⟨Nat.le_of_ble_eq_true rfl, Nat.le_of_ble_eq_true rfl⟩)).run (fun r1 h_r1 => ?_)
  have h_r1 : r1 = 0 := h_r1
  subst h_r1
  refine lv_if_eq (tgt := 21) hx hb dX8_plus_4 (by decide) (fun c4_2 => ?_) (fun c4_2 => by exfalso; exact absurd c4_2 (by decide))
  refine lv_iconst (v := (-1)) hx hb dX8_plus_21 (by decide) ?_
  exact W.iret (v := (-1)) hx hb hr (fun t ht hW => ⟨(-1), rfl, (rfl), ht⟩) (fun _ h => absurd h List.not_mem_nil) dX8_plus_22
set_option maxHeartbeats 4000000 in
set_option maxRecDepth 100000 in
theorem c_8plus_W (l : Launch) (dC : Nat → ClassId) (dI : Nat → Nat → Nat) (g : Gv) (x0 : Nat) (d : Nat) (yn : Int32) (hd : d ≤ 219145) (hw : ¬ (-600 ≤ yn.toInt ∧ yn.toInt ≤ 600)) : Met l yX8_plus (.code yX8_plus cX8_plus 3 (some .int) :: TBL) ({ frames := 4, cells := 0, slots := 0, locals := 160 }) (va_Pc [.ref x0, .int (nI d), .int yn] (fun U => va_P (dC, dI) vwCl [] U.heap ∧ va_K (dC, dI) vwCl [] U ∧ Ev g (fun _ => False) U)) (vp_Si (fun r => r = -1)) 0 0 (fun _ => False) := by
  refine Met.ofW (cc := cX8_plus) (maxL := 3) (ret := (some .int)) (by decide) rfl ?_
  intro p e s m args below meth c s₁ B hml hv
  obtain ⟨rfl, hP, hK, hE⟩ := hv
  have hx := B.exec
  have hb := B.bytes
  have hr := B.returns
  have hts0 := atoms_spec (ws := (.code yX8_plus cX8_plus 3 (some .int) :: TBL)) B.pre
  have hts := fun (w : Cond) (h : w ∈ TBL) => hts0 w (List.mem_cons_of_mem _ h)
  have hown : s.vm.findClass RX8 = some m.cls := findClass_of_methodNamed B.named
  have hlocks := B.notSynchronized
  have hN := hE.1
  have hS : va_S (fun _ => False) s.heap s.heap [] := va_S.rf
  have hP : va_P (dC, dI) vwCl [] s.heap := hP
  have hl := lv_entry ([.ref x0, .int (nI d), .int yn]) (n := 3) (Nat.le_of_ble_eq_true rfl)
  rw [lg_entry_eq]
  generalize (lg_sl ([.ref x0, .int (nI d), .int yn]) ++ List.replicate (3 - (lg_sl ([.ref x0, .int (nI d), .int yn])).length) Slot.unset).toArray = ls at hl ⊢
  have hl : lv_has ls 3 [(0, .ref x0), (1, .int (nI d)), (2, .int yn)] := hl
  refine lv_iload_n hx hb dX8_plus_0 rfl (lv_at hl 1 rfl) ?_
  have hPc := hP.sub (ws' := []) [] rfl
  have hKc := hK.sub (tys' := []) [] rfl
  refine vp_callSi ((va_runS (As := [.int (nI d)]) (rest := []) ⟨hx, hb, hml, hown, hts⟩ (c_dl_in l dC dI g (d) (by omega)) (va_cwS 1 hts (gwS qw_260 qw_261 qw_28 qw_259) rfl rfl rfl (by decide +kernel) ⟨Nat.le_of_ble_eq_true rfl, Nat.le_of_ble_eq_true rfl⟩) ⟨fun a U g9 mk q => ⟨q.1, q.2.1, va_K.moved (u := U) (U := U.calling g9 mk a) (Vm.Alike.refl U.vm) q.2.2.1, Ev.bl q.2.2.2⟩, fun U hU hW => ⟨rfl, by rw [hU]; exact hPc, va_K.moved hW.alike hKc, hE.go hS (fun _ h => h.elim) hU hW⟩⟩ rfl rfl hl.1 rfl (lv_room (Nat.le_of_ble_eq_true rfl)) dX8_plus_1 ⟨Nat.le_of_ble_eq_true rfl, Nat.le_of_ble_eq_true rfl⟩)).run (fun r1 h_r1 => ?_)
  have h_r1 : r1 = 1 := h_r1
  subst h_r1
  refine lv_if_eq (tgt := 21) hx hb dX8_plus_4 (by decide) (fun c4_2 => by exfalso; exact absurd c4_2 (by decide)) (fun c4_2 => ?_)
  refine lv_iload_n hx hb dX8_plus_7 rfl (lv_at hl 2 rfl) ?_
  refine lv_sipush (v := (-600)) hx hb dX8_plus_8 (by decide) ?_
  refine lv_icmp_lt (tgt := 21) hx hb dX8_plus_11 (by decide) (fun c11_3 => ?_) (fun c11_3 => ?_)
  · have c11_3 : yn.toInt < (-600) := (cv_lt rfl (by decide)).mp c11_3
    refine lv_iconst (v := (-1)) hx hb dX8_plus_21 (by decide) ?_
    exact W.iret (v := (-1)) hx hb hr (fun t ht hW => ⟨(-1), rfl, (rfl), ht⟩) (fun _ h => absurd h List.not_mem_nil) dX8_plus_22
  · have c11_3 : ¬ (yn.toInt < (-600)) := mt (cv_lt rfl (by decide)).mpr c11_3
    refine lv_iload_n hx hb dX8_plus_14 rfl (lv_at hl 2 rfl) ?_
    refine lv_sipush (v := 600) hx hb dX8_plus_15 (by decide) ?_
    refine lv_icmp_le (tgt := 23) hx hb dX8_plus_18 (by decide) (fun c18_4 => by exfalso; have c18_4 : yn.toInt ≤ 600 := (cv_le rfl (by decide)).mp c18_4; omega) (fun c18_4 => ?_)
    have c18_4 : ¬ (yn.toInt ≤ 600) := mt (cv_le rfl (by decide)).mpr c18_4
    refine lv_iconst (v := (-1)) hx hb dX8_plus_21 (by decide) ?_
    exact W.iret (v := (-1)) hx hb hr (fun t ht hW => ⟨(-1), rfl, (rfl), ht⟩) (fun _ h => absurd h List.not_mem_nil) dX8_plus_22
set_option maxHeartbeats 4000000 in
set_option maxRecDepth 100000 in
theorem c_8plus_L (l : Launch) (dC : Nat → ClassId) (dI : Nat → Nat → Nat) (g : Gv) (x0 : Nat) (yn : Int32) (hn : -600 ≤ yn.toInt ∧ yn.toInt ≤ 600) : Met l yX8_plus (.code yX8_plus cX8_plus 3 (some .int) :: TBL) ({ frames := 4, cells := 0, slots := 0, locals := 160 }) (va_Pc [.ref x0, .int (nI 219145), .int yn] (fun U => va_P (dC, dI) vwCl [] U.heap ∧ va_K (dC, dI) vwCl [] U ∧ Ev g (fun _ => False) U)) (vp_Si (fun r => r = nI 219145)) 0 0 (fun _ => False) := by
  refine Met.ofW (cc := cX8_plus) (maxL := 3) (ret := (some .int)) (by decide) rfl ?_
  intro p e s m args below meth c s₁ B hml hv
  obtain ⟨rfl, hP, hK, hE⟩ := hv
  have hx := B.exec
  have hb := B.bytes
  have hr := B.returns
  have hts0 := atoms_spec (ws := (.code yX8_plus cX8_plus 3 (some .int) :: TBL)) B.pre
  have hts := fun (w : Cond) (h : w ∈ TBL) => hts0 w (List.mem_cons_of_mem _ h)
  have hown : s.vm.findClass RX8 = some m.cls := findClass_of_methodNamed B.named
  have hlocks := B.notSynchronized
  have hN := hE.1
  have hS : va_S (fun _ => False) s.heap s.heap [] := va_S.rf
  have hP : va_P (dC, dI) vwCl [] s.heap := hP
  have hl := lv_entry ([.ref x0, .int (nI 219145), .int yn]) (n := 3) (Nat.le_of_ble_eq_true rfl)
  rw [lg_entry_eq]
  generalize (lg_sl ([.ref x0, .int (nI 219145), .int yn]) ++ List.replicate (3 - (lg_sl ([.ref x0, .int (nI 219145), .int yn])).length) Slot.unset).toArray = ls at hl ⊢
  have hl : lv_has ls 3 [(0, .ref x0), (1, .int (nI 219145)), (2, .int yn)] := hl
  refine lv_iload_n hx hb dX8_plus_0 rfl (lv_at hl 1 rfl) ?_
  have hPc := hP.sub (ws' := []) [] rfl
  have hKc := hK.sub (tys' := []) [] rfl
  refine vp_callSi ((va_runS (As := [.int (nI 219145)]) (rest := []) ⟨hx, hb, hml, hown, hts⟩ (c_dl_in l dC dI g (219145) (by omega)) (va_cwS 1 hts (gwS qw_260 qw_261 qw_28 qw_259) rfl rfl rfl (by decide +kernel) ⟨Nat.le_of_ble_eq_true rfl, Nat.le_of_ble_eq_true rfl⟩) ⟨fun a U g9 mk q => ⟨q.1, q.2.1, va_K.moved (u := U) (U := U.calling g9 mk a) (Vm.Alike.refl U.vm) q.2.2.1, Ev.bl q.2.2.2⟩, fun U hU hW => ⟨rfl, by rw [hU]; exact hPc, va_K.moved hW.alike hKc, hE.go hS (fun _ h => h.elim) hU hW⟩⟩ rfl rfl hl.1 rfl (lv_room (Nat.le_of_ble_eq_true rfl)) dX8_plus_1 ⟨Nat.le_of_ble_eq_true rfl, Nat.le_of_ble_eq_true rfl⟩)).run (fun r1 h_r1 => ?_)
  have h_r1 : r1 = 1 := h_r1
  subst h_r1
  refine lv_if_eq (tgt := 21) hx hb dX8_plus_4 (by decide) (fun c4_2 => by exfalso; exact absurd c4_2 (by decide)) (fun c4_2 => ?_)
  refine lv_iload_n hx hb dX8_plus_7 rfl (lv_at hl 2 rfl) ?_
  refine lv_sipush (v := (-600)) hx hb dX8_plus_8 (by decide) ?_
  refine lv_icmp_lt (tgt := 21) hx hb dX8_plus_11 (by decide) (fun c11_3 => by exfalso; have c11_3 : yn.toInt < (-600) := (cv_lt rfl (by decide)).mp c11_3; omega) (fun c11_3 => ?_)
  have c11_3 : ¬ (yn.toInt < (-600)) := mt (cv_lt rfl (by decide)).mpr c11_3
  refine lv_iload_n hx hb dX8_plus_14 rfl (lv_at hl 2 rfl) ?_
  refine lv_sipush (v := 600) hx hb dX8_plus_15 (by decide) ?_
  refine lv_icmp_le (tgt := 23) hx hb dX8_plus_18 (by decide) (fun c18_4 => ?_) (fun c18_4 => by exfalso; have c18_4 : ¬ (yn.toInt ≤ 600) := mt (cv_le rfl (by decide)).mpr c18_4; omega)
  have c18_4 : yn.toInt ≤ 600 := (cv_le rfl (by decide)).mp c18_4
  refine lv_iload_n hx hb dX8_plus_23 rfl (lv_at hl 1 rfl) ?_
  refine lv_iload_n hx hb dX8_plus_24 rfl (lv_at hl 2 rfl) ?_
  have hPc := hP.sub (ws' := []) [] rfl
  have hKc := hK.sub (tys' := []) [] rfl
  refine vp_callSi ((va_runSN (As := [.int (nI 219145), .int yn]) (rest := []) ⟨hx, hb, hml, hown, hts⟩ (c_ys_L l dC dI g (yn) ) ⟨va_cnB 2 hts (gwC qw_130) rfl rfl rfl (nm_24 hN) (hts (.initialized RX0) qw_3) (by decide +kernel) ⟨Nat.le_of_ble_eq_true rfl, Nat.le_of_ble_eq_true rfl⟩, (hts (.static yX0_yearsOn) qw_131), trivial⟩ ⟨fun a U g9 mk q => ⟨q.1, q.2.1, va_K.moved (u := U) (U := U.calling g9 mk a) (Vm.Alike.refl U.vm) q.2.2.1, Ev.bl q.2.2.2⟩, fun U hU hW => ⟨rfl, by rw [hU]; exact hPc, va_K.moved hW.alike hKc, hE.go hS (fun _ h => h.elim) hU hW⟩⟩ rfl rfl hl.1 rfl (lv_room (Nat.le_of_ble_eq_true rfl)) dX8_plus_25 ⟨Nat.le_of_ble_eq_true rfl, Nat.le_of_ble_eq_true rfl⟩)).run (fun r5 h_r5 => ?_)
  have h_r5 : r5 = nI (219145) := h_r5
  subst h_r5
  exact W.iret (v := (nI 219145)) hx hb hr (fun t ht hW => ⟨(nI 219145), rfl, (rfl), ht⟩) (fun _ h => absurd h List.not_mem_nil) dX8_plus_28
set_option maxHeartbeats 4000000 in
set_option maxRecDepth 100000 in
theorem c_8plus_A (l : Launch) (dC : Nat → ClassId) (dI : Nat → Nat → Nat) (g : Gv) (x0 : Nat) (d : Nat) (k : Nat) (mo : Nat) (dd : Nat) (yn : Int32) (hk : k < 600) (hm1 : 1 ≤ mo) (hm2 : mo ≤ 12) (hd1 : 1 ≤ dd) (hd2 : dd ≤ mlN (1700 + k) mo) (hd : d = Fk k + Mk (1700 + k) mo + (dd - 1)) (hn : -600 ≤ yn.toInt ∧ yn.toInt ≤ 600) (hc : ((k : Nat) : Int) + yn.toInt < 0) : Met l yX8_plus (.code yX8_plus cX8_plus 3 (some .int) :: TBL) ({ frames := 4, cells := 0, slots := 0, locals := 160 }) (va_Pc [.ref x0, .int (nI d), .int yn] (fun U => va_P (dC, dI) vwCl [] U.heap ∧ va_K (dC, dI) vwCl [] U ∧ Ev g (fun _ => False) U)) (vp_Si (fun r => r = nI 0)) 0 0 (fun _ => False) := by
  refine Met.ofW (cc := cX8_plus) (maxL := 3) (ret := (some .int)) (by decide) rfl ?_
  intro p e s m args below meth c s₁ B hml hv
  obtain ⟨rfl, hP, hK, hE⟩ := hv
  have hx := B.exec
  have hb := B.bytes
  have hr := B.returns
  have hts0 := atoms_spec (ws := (.code yX8_plus cX8_plus 3 (some .int) :: TBL)) B.pre
  have hts := fun (w : Cond) (h : w ∈ TBL) => hts0 w (List.mem_cons_of_mem _ h)
  have hown : s.vm.findClass RX8 = some m.cls := findClass_of_methodNamed B.named
  have hlocks := B.notSynchronized
  have hN := hE.1
  have hS : va_S (fun _ => False) s.heap s.heap [] := va_S.rf
  have hP : va_P (dC, dI) vwCl [] s.heap := hP
  have hl := lv_entry ([.ref x0, .int (nI d), .int yn]) (n := 3) (Nat.le_of_ble_eq_true rfl)
  rw [lg_entry_eq]
  generalize (lg_sl ([.ref x0, .int (nI d), .int yn]) ++ List.replicate (3 - (lg_sl ([.ref x0, .int (nI d), .int yn])).length) Slot.unset).toArray = ls at hl ⊢
  have hl : lv_has ls 3 [(0, .ref x0), (1, .int (nI d)), (2, .int yn)] := hl
  have hb1 := mlN_b (1700 + k) mo
  have h1 : Fk k ≤ d := by omega
  have h2 : d < Fk (k + 1) := by
    rw [Fk_s k hk]; have q1 := Mk_le (y := 1700 + k) (a := mo + 1) (b := 13) (by omega) (by omega); rw [Mk_13, Mk_s hm1] at q1; omega
  have hd9 : d < 219145 := by have := Fk_b (k := k + 1) (by omega); omega
  refine lv_iload_n hx hb dX8_plus_0 rfl (lv_at hl 1 rfl) ?_
  have hPc := hP.sub (ws' := []) [] rfl
  have hKc := hK.sub (tys' := []) [] rfl
  refine vp_callSi ((va_runS (As := [.int (nI d)]) (rest := []) ⟨hx, hb, hml, hown, hts⟩ (c_dl_in l dC dI g (d) (by omega)) (va_cwS 1 hts (gwS qw_260 qw_261 qw_28 qw_259) rfl rfl rfl (by decide +kernel) ⟨Nat.le_of_ble_eq_true rfl, Nat.le_of_ble_eq_true rfl⟩) ⟨fun a U g9 mk q => ⟨q.1, q.2.1, va_K.moved (u := U) (U := U.calling g9 mk a) (Vm.Alike.refl U.vm) q.2.2.1, Ev.bl q.2.2.2⟩, fun U hU hW => ⟨rfl, by rw [hU]; exact hPc, va_K.moved hW.alike hKc, hE.go hS (fun _ h => h.elim) hU hW⟩⟩ rfl rfl hl.1 rfl (lv_room (Nat.le_of_ble_eq_true rfl)) dX8_plus_1 ⟨Nat.le_of_ble_eq_true rfl, Nat.le_of_ble_eq_true rfl⟩)).run (fun r1 h_r1 => ?_)
  have h_r1 : r1 = 1 := h_r1
  subst h_r1
  refine lv_if_eq (tgt := 21) hx hb dX8_plus_4 (by decide) (fun c4_2 => by exfalso; exact absurd c4_2 (by decide)) (fun c4_2 => ?_)
  refine lv_iload_n hx hb dX8_plus_7 rfl (lv_at hl 2 rfl) ?_
  refine lv_sipush (v := (-600)) hx hb dX8_plus_8 (by decide) ?_
  refine lv_icmp_lt (tgt := 21) hx hb dX8_plus_11 (by decide) (fun c11_3 => by exfalso; have c11_3 : yn.toInt < (-600) := (cv_lt rfl (by decide)).mp c11_3; omega) (fun c11_3 => ?_)
  have c11_3 : ¬ (yn.toInt < (-600)) := mt (cv_lt rfl (by decide)).mpr c11_3
  refine lv_iload_n hx hb dX8_plus_14 rfl (lv_at hl 2 rfl) ?_
  refine lv_sipush (v := 600) hx hb dX8_plus_15 (by decide) ?_
  refine lv_icmp_le (tgt := 23) hx hb dX8_plus_18 (by decide) (fun c18_4 => ?_) (fun c18_4 => by exfalso; have c18_4 : ¬ (yn.toInt ≤ 600) := mt (cv_le rfl (by decide)).mpr c18_4; omega)
  have c18_4 : yn.toInt ≤ 600 := (cv_le rfl (by decide)).mp c18_4
  refine lv_iload_n hx hb dX8_plus_23 rfl (lv_at hl 1 rfl) ?_
  refine lv_iload_n hx hb dX8_plus_24 rfl (lv_at hl 2 rfl) ?_
  have hPc := hP.sub (ws' := []) [] rfl
  have hKc := hK.sub (tys' := []) [] rfl
  refine vp_callSi ((va_runSN (As := [.int (nI d), .int yn]) (rest := []) ⟨hx, hb, hml, hown, hts⟩ (c_ys_A l dC dI g (d) (k) (mo) (dd) (yn) hk hm1 hm2 hd1 hd2 hd hn hc) ⟨va_cnB 2 hts (gwC qw_130) rfl rfl rfl (nm_24 hN) (hts (.initialized RX0) qw_3) (by decide +kernel) ⟨Nat.le_of_ble_eq_true rfl, Nat.le_of_ble_eq_true rfl⟩, (hts (.static yX0_yearsOn) qw_131), trivial⟩ ⟨fun a U g9 mk q => ⟨q.1, q.2.1, va_K.moved (u := U) (U := U.calling g9 mk a) (Vm.Alike.refl U.vm) q.2.2.1, Ev.bl q.2.2.2⟩, fun U hU hW => ⟨rfl, by rw [hU]; exact hPc, va_K.moved hW.alike hKc, hE.go hS (fun _ h => h.elim) hU hW⟩⟩ rfl rfl hl.1 rfl (lv_room (Nat.le_of_ble_eq_true rfl)) dX8_plus_25 ⟨Nat.le_of_ble_eq_true rfl, Nat.le_of_ble_eq_true rfl⟩)).run (fun r5 h_r5 => ?_)
  have h_r5 : r5 = nI (0) := h_r5
  subst h_r5
  exact W.iret (v := (nI 0)) hx hb hr (fun t ht hW => ⟨(nI 0), rfl, (rfl), ht⟩) (fun _ h => absurd h List.not_mem_nil) dX8_plus_28
set_option maxHeartbeats 4000000 in
set_option maxRecDepth 100000 in
theorem c_8plus_B (l : Launch) (dC : Nat → ClassId) (dI : Nat → Nat → Nat) (g : Gv) (x0 : Nat) (d : Nat) (k : Nat) (mo : Nat) (dd : Nat) (yn : Int32) (hk : k < 600) (hm1 : 1 ≤ mo) (hm2 : mo ≤ 12) (hd1 : 1 ≤ dd) (hd2 : dd ≤ mlN (1700 + k) mo) (hd : d = Fk k + Mk (1700 + k) mo + (dd - 1)) (hn : -600 ≤ yn.toInt ∧ yn.toInt ≤ 600) (hc : 599 < ((k : Nat) : Int) + yn.toInt) : Met l yX8_plus (.code yX8_plus cX8_plus 3 (some .int) :: TBL) ({ frames := 4, cells := 0, slots := 0, locals := 160 }) (va_Pc [.ref x0, .int (nI d), .int yn] (fun U => va_P (dC, dI) vwCl [] U.heap ∧ va_K (dC, dI) vwCl [] U ∧ Ev g (fun _ => False) U)) (vp_Si (fun r => r = nI 219145)) 0 0 (fun _ => False) := by
  refine Met.ofW (cc := cX8_plus) (maxL := 3) (ret := (some .int)) (by decide) rfl ?_
  intro p e s m args below meth c s₁ B hml hv
  obtain ⟨rfl, hP, hK, hE⟩ := hv
  have hx := B.exec
  have hb := B.bytes
  have hr := B.returns
  have hts0 := atoms_spec (ws := (.code yX8_plus cX8_plus 3 (some .int) :: TBL)) B.pre
  have hts := fun (w : Cond) (h : w ∈ TBL) => hts0 w (List.mem_cons_of_mem _ h)
  have hown : s.vm.findClass RX8 = some m.cls := findClass_of_methodNamed B.named
  have hlocks := B.notSynchronized
  have hN := hE.1
  have hS : va_S (fun _ => False) s.heap s.heap [] := va_S.rf
  have hP : va_P (dC, dI) vwCl [] s.heap := hP
  have hl := lv_entry ([.ref x0, .int (nI d), .int yn]) (n := 3) (Nat.le_of_ble_eq_true rfl)
  rw [lg_entry_eq]
  generalize (lg_sl ([.ref x0, .int (nI d), .int yn]) ++ List.replicate (3 - (lg_sl ([.ref x0, .int (nI d), .int yn])).length) Slot.unset).toArray = ls at hl ⊢
  have hl : lv_has ls 3 [(0, .ref x0), (1, .int (nI d)), (2, .int yn)] := hl
  have hb1 := mlN_b (1700 + k) mo
  have h1 : Fk k ≤ d := by omega
  have h2 : d < Fk (k + 1) := by
    rw [Fk_s k hk]; have q1 := Mk_le (y := 1700 + k) (a := mo + 1) (b := 13) (by omega) (by omega); rw [Mk_13, Mk_s hm1] at q1; omega
  have hd9 : d < 219145 := by have := Fk_b (k := k + 1) (by omega); omega
  refine lv_iload_n hx hb dX8_plus_0 rfl (lv_at hl 1 rfl) ?_
  have hPc := hP.sub (ws' := []) [] rfl
  have hKc := hK.sub (tys' := []) [] rfl
  refine vp_callSi ((va_runS (As := [.int (nI d)]) (rest := []) ⟨hx, hb, hml, hown, hts⟩ (c_dl_in l dC dI g (d) (by omega)) (va_cwS 1 hts (gwS qw_260 qw_261 qw_28 qw_259) rfl rfl rfl (by decide +kernel) ⟨Nat.le_of_ble_eq_true rfl, Nat.le_of_ble_eq_true rfl⟩) ⟨fun a U g9 mk q => ⟨q.1, q.2.1, va_K.moved (u := U) (U := U.calling g9 mk a) (Vm.Alike.refl U.vm) q.2.2.1, Ev.bl q.2.2.2⟩, fun U hU hW => ⟨rfl, by rw [hU]; exact hPc, va_K.moved hW.alike hKc, hE.go hS (fun _ h => h.elim) hU hW⟩⟩ rfl rfl hl.1 rfl (lv_room (Nat.le_of_ble_eq_true rfl)) dX8_plus_1 ⟨Nat.le_of_ble_eq_true rfl, Nat.le_of_ble_eq_true rfl⟩)).run (fun r1 h_r1 => ?_)
  have h_r1 : r1 = 1 := h_r1
  subst h_r1
  refine lv_if_eq (tgt := 21) hx hb dX8_plus_4 (by decide) (fun c4_2 => by exfalso; exact absurd c4_2 (by decide)) (fun c4_2 => ?_)
  refine lv_iload_n hx hb dX8_plus_7 rfl (lv_at hl 2 rfl) ?_
  refine lv_sipush (v := (-600)) hx hb dX8_plus_8 (by decide) ?_
  refine lv_icmp_lt (tgt := 21) hx hb dX8_plus_11 (by decide) (fun c11_3 => by exfalso; have c11_3 : yn.toInt < (-600) := (cv_lt rfl (by decide)).mp c11_3; omega) (fun c11_3 => ?_)
  have c11_3 : ¬ (yn.toInt < (-600)) := mt (cv_lt rfl (by decide)).mpr c11_3
  refine lv_iload_n hx hb dX8_plus_14 rfl (lv_at hl 2 rfl) ?_
  refine lv_sipush (v := 600) hx hb dX8_plus_15 (by decide) ?_
  refine lv_icmp_le (tgt := 23) hx hb dX8_plus_18 (by decide) (fun c18_4 => ?_) (fun c18_4 => by exfalso; have c18_4 : ¬ (yn.toInt ≤ 600) := mt (cv_le rfl (by decide)).mpr c18_4; omega)
  have c18_4 : yn.toInt ≤ 600 := (cv_le rfl (by decide)).mp c18_4
  refine lv_iload_n hx hb dX8_plus_23 rfl (lv_at hl 1 rfl) ?_
  refine lv_iload_n hx hb dX8_plus_24 rfl (lv_at hl 2 rfl) ?_
  have hPc := hP.sub (ws' := []) [] rfl
  have hKc := hK.sub (tys' := []) [] rfl
  refine vp_callSi ((va_runSN (As := [.int (nI d), .int yn]) (rest := []) ⟨hx, hb, hml, hown, hts⟩ (c_ys_B l dC dI g (d) (k) (mo) (dd) (yn) hk hm1 hm2 hd1 hd2 hd hn hc) ⟨va_cnB 2 hts (gwC qw_130) rfl rfl rfl (nm_24 hN) (hts (.initialized RX0) qw_3) (by decide +kernel) ⟨Nat.le_of_ble_eq_true rfl, Nat.le_of_ble_eq_true rfl⟩, (hts (.static yX0_yearsOn) qw_131), trivial⟩ ⟨fun a U g9 mk q => ⟨q.1, q.2.1, va_K.moved (u := U) (U := U.calling g9 mk a) (Vm.Alike.refl U.vm) q.2.2.1, Ev.bl q.2.2.2⟩, fun U hU hW => ⟨rfl, by rw [hU]; exact hPc, va_K.moved hW.alike hKc, hE.go hS (fun _ h => h.elim) hU hW⟩⟩ rfl rfl hl.1 rfl (lv_room (Nat.le_of_ble_eq_true rfl)) dX8_plus_25 ⟨Nat.le_of_ble_eq_true rfl, Nat.le_of_ble_eq_true rfl⟩)).run (fun r5 h_r5 => ?_)
  have h_r5 : r5 = nI (219145) := h_r5
  subst h_r5
  exact W.iret (v := (nI 219145)) hx hb hr (fun t ht hW => ⟨(nI 219145), rfl, (rfl), ht⟩) (fun _ h => absurd h List.not_mem_nil) dX8_plus_28
set_option maxHeartbeats 4000000 in
set_option maxRecDepth 100000 in
theorem c_8plus_C (l : Launch) (dC : Nat → ClassId) (dI : Nat → Nat → Nat) (g : Gv) (x0 : Nat) (d : Nat) (k : Nat) (mo : Nat) (dd : Nat) (yn : Int32) (k2 : Nat) (hk : k < 600) (hm1 : 1 ≤ mo) (hm2 : mo ≤ 12) (hd1 : 1 ≤ dd) (hd2 : dd ≤ mlN (1700 + k) mo) (hd : d = Fk k + Mk (1700 + k) mo + (dd - 1)) (hn : -600 ≤ yn.toInt ∧ yn.toInt ≤ 600) (hk2 : k2 < 600) (hc : ((k : Nat) : Int) + yn.toInt = k2) : Met l yX8_plus (.code yX8_plus cX8_plus 3 (some .int) :: TBL) ({ frames := 4, cells := 0, slots := 0, locals := 160 }) (va_Pc [.ref x0, .int (nI d), .int yn] (fun U => va_P (dC, dI) vwCl [] U.heap ∧ va_K (dC, dI) vwCl [] U ∧ Ev g (fun _ => False) U)) (vp_Si (fun r => r = nI (Fk k2 + Mk (1700 + k2) mo + min dd (mlN (1700 + k2) mo) - 1))) 0 0 (fun _ => False) := by
  refine Met.ofW (cc := cX8_plus) (maxL := 3) (ret := (some .int)) (by decide) rfl ?_
  intro p e s m args below meth c s₁ B hml hv
  obtain ⟨rfl, hP, hK, hE⟩ := hv
  have hx := B.exec
  have hb := B.bytes
  have hr := B.returns
  have hts0 := atoms_spec (ws := (.code yX8_plus cX8_plus 3 (some .int) :: TBL)) B.pre
  have hts := fun (w : Cond) (h : w ∈ TBL) => hts0 w (List.mem_cons_of_mem _ h)
  have hown : s.vm.findClass RX8 = some m.cls := findClass_of_methodNamed B.named
  have hlocks := B.notSynchronized
  have hN := hE.1
  have hS : va_S (fun _ => False) s.heap s.heap [] := va_S.rf
  have hP : va_P (dC, dI) vwCl [] s.heap := hP
  have hl := lv_entry ([.ref x0, .int (nI d), .int yn]) (n := 3) (Nat.le_of_ble_eq_true rfl)
  rw [lg_entry_eq]
  generalize (lg_sl ([.ref x0, .int (nI d), .int yn]) ++ List.replicate (3 - (lg_sl ([.ref x0, .int (nI d), .int yn])).length) Slot.unset).toArray = ls at hl ⊢
  have hl : lv_has ls 3 [(0, .ref x0), (1, .int (nI d)), (2, .int yn)] := hl
  have hb1 := mlN_b (1700 + k) mo
  have h1 : Fk k ≤ d := by omega
  have h2 : d < Fk (k + 1) := by
    rw [Fk_s k hk]; have q1 := Mk_le (y := 1700 + k) (a := mo + 1) (b := 13) (by omega) (by omega); rw [Mk_13, Mk_s hm1] at q1; omega
  have hd9 : d < 219145 := by have := Fk_b (k := k + 1) (by omega); omega
  refine lv_iload_n hx hb dX8_plus_0 rfl (lv_at hl 1 rfl) ?_
  have hPc := hP.sub (ws' := []) [] rfl
  have hKc := hK.sub (tys' := []) [] rfl
  refine vp_callSi ((va_runS (As := [.int (nI d)]) (rest := []) ⟨hx, hb, hml, hown, hts⟩ (c_dl_in l dC dI g (d) (by omega)) (va_cwS 1 hts (gwS qw_260 qw_261 qw_28 qw_259) rfl rfl rfl (by decide +kernel) ⟨Nat.le_of_ble_eq_true rfl, Nat.le_of_ble_eq_true rfl⟩) ⟨fun a U g9 mk q => ⟨q.1, q.2.1, va_K.moved (u := U) (U := U.calling g9 mk a) (Vm.Alike.refl U.vm) q.2.2.1, Ev.bl q.2.2.2⟩, fun U hU hW => ⟨rfl, by rw [hU]; exact hPc, va_K.moved hW.alike hKc, hE.go hS (fun _ h => h.elim) hU hW⟩⟩ rfl rfl hl.1 rfl (lv_room (Nat.le_of_ble_eq_true rfl)) dX8_plus_1 ⟨Nat.le_of_ble_eq_true rfl, Nat.le_of_ble_eq_true rfl⟩)).run (fun r1 h_r1 => ?_)
  have h_r1 : r1 = 1 := h_r1
  subst h_r1
  refine lv_if_eq (tgt := 21) hx hb dX8_plus_4 (by decide) (fun c4_2 => by exfalso; exact absurd c4_2 (by decide)) (fun c4_2 => ?_)
  refine lv_iload_n hx hb dX8_plus_7 rfl (lv_at hl 2 rfl) ?_
  refine lv_sipush (v := (-600)) hx hb dX8_plus_8 (by decide) ?_
  refine lv_icmp_lt (tgt := 21) hx hb dX8_plus_11 (by decide) (fun c11_3 => by exfalso; have c11_3 : yn.toInt < (-600) := (cv_lt rfl (by decide)).mp c11_3; omega) (fun c11_3 => ?_)
  have c11_3 : ¬ (yn.toInt < (-600)) := mt (cv_lt rfl (by decide)).mpr c11_3
  refine lv_iload_n hx hb dX8_plus_14 rfl (lv_at hl 2 rfl) ?_
  refine lv_sipush (v := 600) hx hb dX8_plus_15 (by decide) ?_
  refine lv_icmp_le (tgt := 23) hx hb dX8_plus_18 (by decide) (fun c18_4 => ?_) (fun c18_4 => by exfalso; have c18_4 : ¬ (yn.toInt ≤ 600) := mt (cv_le rfl (by decide)).mpr c18_4; omega)
  have c18_4 : yn.toInt ≤ 600 := (cv_le rfl (by decide)).mp c18_4
  refine lv_iload_n hx hb dX8_plus_23 rfl (lv_at hl 1 rfl) ?_
  refine lv_iload_n hx hb dX8_plus_24 rfl (lv_at hl 2 rfl) ?_
  have hPc := hP.sub (ws' := []) [] rfl
  have hKc := hK.sub (tys' := []) [] rfl
  refine vp_callSi ((va_runSN (As := [.int (nI d), .int yn]) (rest := []) ⟨hx, hb, hml, hown, hts⟩ (c_ys_C l dC dI g (d) (k) (mo) (dd) (yn) (k2) hk hm1 hm2 hd1 hd2 hd hn hk2 hc) ⟨va_cnB 2 hts (gwC qw_130) rfl rfl rfl (nm_24 hN) (hts (.initialized RX0) qw_3) (by decide +kernel) ⟨Nat.le_of_ble_eq_true rfl, Nat.le_of_ble_eq_true rfl⟩, (hts (.static yX0_yearsOn) qw_131), trivial⟩ ⟨fun a U g9 mk q => ⟨q.1, q.2.1, va_K.moved (u := U) (U := U.calling g9 mk a) (Vm.Alike.refl U.vm) q.2.2.1, Ev.bl q.2.2.2⟩, fun U hU hW => ⟨rfl, by rw [hU]; exact hPc, va_K.moved hW.alike hKc, hE.go hS (fun _ h => h.elim) hU hW⟩⟩ rfl rfl hl.1 rfl (lv_room (Nat.le_of_ble_eq_true rfl)) dX8_plus_25 ⟨Nat.le_of_ble_eq_true rfl, Nat.le_of_ble_eq_true rfl⟩)).run (fun r5 h_r5 => ?_)
  have h_r5 : r5 = nI (Fk k2 + Mk (1700 + k2) mo + min dd (mlN (1700 + k2) mo) - 1) := h_r5
  subst h_r5
  exact W.iret (v := (nI (Fk k2 + Mk (1700 + k2) mo + min dd (mlN (1700 + k2) mo) - 1))) hx hb hr (fun t ht hW => ⟨(nI (Fk k2 + Mk (1700 + k2) mo + min dd (mlN (1700 + k2) mo) - 1)), rfl, (rfl), ht⟩) (fun _ h => absurd h List.not_mem_nil) dX8_plus_28
