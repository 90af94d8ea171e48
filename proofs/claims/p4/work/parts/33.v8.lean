
theorem qw_663 : (Cond.code yX8_sooner cX8_sooner 7 (some .int) : Cond) ∈ TBL := List.mem_of_getElem? (i := 768) (by decide +kernel)
theorem qw_664 : (Cond.methodLink RL 7 yX8_sooner : Cond) ∈ TBL := List.mem_of_getElem? (i := 765) (by decide +kernel)
theorem qw_665 : (Cond.instanceMethod yX8_sooner : Cond) ∈ TBL := List.mem_of_getElem? (i := 766) (by decide +kernel)
theorem qw_666 : (Cond.selects RX8 yX8_sooner yX8_sooner : Cond) ∈ TBL := List.mem_of_getElem? (i := 767) (by decide +kernel)
theorem qw_667 : (Cond.classLink RL 13 "java/util/NoSuchElementException" : Cond) ∈ TBL := List.mem_of_getElem? (i := 764) (by decide +kernel)
set_option maxHeartbeats 4000000 in
set_option maxRecDepth 100000 in
theorem c_ml (l : Launch) (dC : Nat → ClassId) (dI : Nat → Nat → Nat) (g : Gv) (y : Nat) (mo : Nat) (hy : y < 3000) (hm1 : 1 ≤ mo) (hm2 : mo ≤ 12) : Met l yX0_monthLength (.code yX0_monthLength cX0_monthLength 4 (some .int) :: TBL) ({ frames := 0, cells := 0, slots := 0, locals := 0 }) (va_Pc [.int (nI y), .int (nI mo)] (fun U => va_P (dC, dI) vwCl [] U.heap ∧ va_K (dC, dI) vwCl [] U ∧ Ev g (fun _ => False) U)) (vp_Si (fun r => r = nI (mlN y mo))) 0 0 (fun _ => False) := by
  refine Met.ofW (cc := cX0_monthLength) (maxL := 4) (ret := (some .int)) (by decide) rfl ?_
  intro p e s m args below meth c s₁ B hml hv
  obtain ⟨rfl, hP, hK, hE⟩ := hv
  have hx := B.exec
  have hb := B.bytes
  have hr := B.returns
  have hts0 := atoms_spec (ws := (.code yX0_monthLength cX0_monthLength 4 (some .int) :: TBL)) B.pre
  have hts := fun (w : Cond) (h : w ∈ TBL) => hts0 w (List.mem_cons_of_mem _ h)
  have hown : s.vm.findClass RX0 = some m.cls := findClass_of_methodNamed B.named
  have hlocks := B.notSynchronized
  have hN := hE.1
  have hS : va_S (fun _ => False) s.heap s.heap [] := va_S.rf
  have hP : va_P (dC, dI) vwCl [] s.heap := hP
  have hl := lv_entry ([.int (nI y), .int (nI mo)]) (n := 4) (Nat.le_of_ble_eq_true rfl)
  rw [lg_entry_eq]
  generalize (lg_sl ([.int (nI y), .int (nI mo)]) ++ List.replicate (4 - (lg_sl ([.int (nI y), .int (nI mo)])).length) Slot.unset).toArray = ls at hl ⊢
  have hl : lv_has ls 4 [(0, .int (nI y)), (1, .int (nI mo))] := hl
  refine lv_iload_n hx hb dX0_monthLength_0 rfl (lv_at hl 1 rfl) ?_
  refine lv_iconst (v := 1) hx hb dX0_monthLength_1 (by decide) ?_
  refine lv_icmp_lt (tgt := 13) hx hb dX0_monthLength_2 (by decide) (fun c2_1 => by exfalso; have c2_1 : ((mo : Nat) : Int) < 1 := (cv_lt (nI_toInt (by omega)) (by decide)).mp c2_1; omega) (fun c2_1 => ?_)
  have c2_1 : ¬ (((mo : Nat) : Int) < 1) := mt (cv_lt (nI_toInt (by omega)) (by decide)).mpr c2_1
  refine lv_iload_n hx hb dX0_monthLength_5 rfl (lv_at hl 1 rfl) ?_
  refine va_gets hx hb hE.2.1 hS hown (hts (.fieldLink RX0 10 "ClosedUntil$Calendar" "MONTH_LENGTHS" "[I") qw_1) (fun _ h9 => h9) dX0_monthLength_6 ?_
  refine va_tlen hx hb hE.2.2.1 hS (v := 12) (by decide) dX0_monthLength_9 ?_
  refine lv_icmp_le (tgt := 15) hx hb dX0_monthLength_10 (by decide) (fun c10_2 => ?_) (fun c10_2 => by exfalso; have c10_2 : ¬ (((mo : Nat) : Int) ≤ 12) := mt (cv_le (nI_toInt (by omega)) (by decide)).mpr c10_2; omega)
  have c10_2 : ((mo : Nat) : Int) ≤ 12 := (cv_le (nI_toInt (by omega)) (by decide)).mp c10_2
  refine lv_iload_n hx hb dX0_monthLength_15 rfl (lv_at hl 0 rfl) ?_
  refine lv_iconst (v := 4) hx hb dX0_monthLength_16 (by decide) ?_
  refine lv_irem hx hb dX0_monthLength_17 (by decide) ?_
  refine cst (v := nI (y % 4)) (pk_rem (a := y) (d := 4) (by omega) (by omega) (by omega)) ?_
  refine lv_if_ne (tgt := 40) hx hb dX0_monthLength_18 (by decide) (fun c18_3 => ?_) (fun c18_3 => ?_)
  · have c18_3 : ¬ (((y % 4 : Nat) : Int) = 0) := mt (cv_eq (nI_toInt (by omega)) (by decide)).mpr c18_3
    refine lv_iconst (v := 0) hx hb dX0_monthLength_40 (by decide) ?_
    refine lv_istore_n (lv' := [(2, .int 0), (0, .int (nI y)), (1, .int (nI mo))]) hx hb dX0_monthLength_41 rfl hl (by decide) rfl (fun ls hl => ?_)
    refine va_gets hx hb hE.2.1 hS hown (hts (.fieldLink RX0 10 "ClosedUntil$Calendar" "MONTH_LENGTHS" "[I") qw_1) (fun _ h9 => h9) dX0_monthLength_42 ?_
    refine lv_iload_n hx hb dX0_monthLength_45 rfl (lv_at hl 2 rfl) ?_
    refine lv_iconst (v := 1) hx hb dX0_monthLength_46 (by decide) ?_
    refine lv_isub hx hb dX0_monthLength_47 ?_
    refine cst (v := nI (mo - 1)) (pk_sub (a := mo) (b := 1) (by omega)) ?_
    refine va_ti hx hb hE.2.2.1 hS (vp_in_nI (by omega) (by omega)) (v := .int (mlL.getD (nI (mo - 1)).toNatClampNeg 0)) rfl dX0_monthLength_48 ?_
    refine cst (v := nI (mlB mo)) (ml_at mo (by omega) (by omega)) ?_
    have hmb := mlB_b mo
    refine lv_istore_n (lv' := [(3, .int (nI (mlB mo))), (2, .int 0), (0, .int (nI y)), (1, .int (nI mo))]) hx hb dX0_monthLength_49 rfl hl (by decide) rfl (fun ls hl => ?_)
    refine lv_iload_n hx hb dX0_monthLength_50 rfl (lv_at hl 3 rfl) ?_
    refine lv_iconst (v := 2) hx hb dX0_monthLength_51 (by decide) ?_
    refine lv_icmp_ne (tgt := 65) hx hb dX0_monthLength_52 (by decide) (fun c52_4 => ?_) (fun c52_4 => ?_)
    · have c52_4 : ¬ (((mo : Nat) : Int) = 2) := mt (cv_eq (nI_toInt (by omega)) (by decide)).mpr c52_4
      refine lv_iload_n hx hb dX0_monthLength_65 rfl (lv_at hl 0 rfl) ?_
      exact W.iret (v := (nI (mlB mo))) hx hb hr (fun t ht hW => ⟨(nI (mlB mo)), rfl, (by first | exact ml_a (by omega) | exact ml_b (by omega) (by omega) | exact ml_c (by omega) (by omega)), ht⟩) (fun _ h => absurd h List.not_mem_nil) dX0_monthLength_66
    · have c52_4 : ((mo : Nat) : Int) = 2 := (cv_eq (nI_toInt (by omega)) (by decide)).mp c52_4
      refine lv_iload_n hx hb dX0_monthLength_55 rfl (lv_at hl 1 rfl) ?_
      refine lv_if_eq (tgt := 65) hx hb dX0_monthLength_56 (by decide) (fun c56_5 => ?_) (fun c56_5 => by exfalso; exact absurd c56_5 (by decide))
      refine lv_iload_n hx hb dX0_monthLength_65 rfl (lv_at hl 0 rfl) ?_
      exact W.iret (v := (nI (mlB mo))) hx hb hr (fun t ht hW => ⟨(nI (mlB mo)), rfl, (by first | exact ml_a (by omega) | exact ml_b (by omega) (by omega) | exact ml_c (by omega) (by omega)), ht⟩) (fun _ h => absurd h List.not_mem_nil) dX0_monthLength_66
  · have c18_3 : ((y % 4 : Nat) : Int) = 0 := (cv_eq (nI_toInt (by omega)) (by decide)).mp c18_3
    refine lv_iload_n hx hb dX0_monthLength_21 rfl (lv_at hl 0 rfl) ?_
    refine lv_bipush (v := 100) hx hb dX0_monthLength_22 (by decide) ?_
    refine lv_irem hx hb dX0_monthLength_24 (by decide) ?_
    refine cst (v := nI (y % 100)) (pk_rem (a := y) (d := 100) (by omega) (by omega) (by omega)) ?_
    refine lv_if_ne (tgt := 36) hx hb dX0_monthLength_25 (by decide) (fun c25_6 => ?_) (fun c25_6 => ?_)
    · have c25_6 : ¬ (((y % 100 : Nat) : Int) = 0) := mt (cv_eq (nI_toInt (by omega)) (by decide)).mpr c25_6
      refine lv_iconst (v := 1) hx hb dX0_monthLength_36 (by decide) ?_
      refine lv_goto (tgt := 41) hx hb dX0_monthLength_37 (by decide) ?_
      refine lv_istore_n (lv' := [(2, .int 1), (0, .int (nI y)), (1, .int (nI mo))]) hx hb dX0_monthLength_41 rfl hl (by decide) rfl (fun ls hl => ?_)
      refine va_gets hx hb hE.2.1 hS hown (hts (.fieldLink RX0 10 "ClosedUntil$Calendar" "MONTH_LENGTHS" "[I") qw_1) (fun _ h9 => h9) dX0_monthLength_42 ?_
      refine lv_iload_n hx hb dX0_monthLength_45 rfl (lv_at hl 2 rfl) ?_
      refine lv_iconst (v := 1) hx hb dX0_monthLength_46 (by decide) ?_
      refine lv_isub hx hb dX0_monthLength_47 ?_
      refine cst (v := nI (mo - 1)) (pk_sub (a := mo) (b := 1) (by omega)) ?_
      refine va_ti hx hb hE.2.2.1 hS (vp_in_nI (by omega) (by omega)) (v := .int (mlL.getD (nI (mo - 1)).toNatClampNeg 0)) rfl dX0_monthLength_48 ?_
      refine cst (v := nI (mlB mo)) (ml_at mo (by omega) (by omega)) ?_
      have hmb := mlB_b mo
      refine lv_istore_n (lv' := [(3, .int (nI (mlB mo))), (2, .int 1), (0, .int (nI y)), (1, .int (nI mo))]) hx hb dX0_monthLength_49 rfl hl (by decide) rfl (fun ls hl => ?_)
      refine lv_iload_n hx hb dX0_monthLength_50 rfl (lv_at hl 3 rfl) ?_
      refine lv_iconst (v := 2) hx hb dX0_monthLength_51 (by decide) ?_
      refine lv_icmp_ne (tgt := 65) hx hb dX0_monthLength_52 (by decide) (fun c52_7 => ?_) (fun c52_7 => ?_)
      · have c52_7 : ¬ (((mo : Nat) : Int) = 2) := mt (cv_eq (nI_toInt (by omega)) (by decide)).mpr c52_7
        refine lv_iload_n hx hb dX0_monthLength_65 rfl (lv_at hl 0 rfl) ?_
        exact W.iret (v := (nI (mlB mo))) hx hb hr (fun t ht hW => ⟨(nI (mlB mo)), rfl, (by first | exact ml_a (by omega) | exact ml_b (by omega) (by omega) | exact ml_c (by omega) (by omega)), ht⟩) (fun _ h => absurd h List.not_mem_nil) dX0_monthLength_66
      · have c52_7 : ((mo : Nat) : Int) = 2 := (cv_eq (nI_toInt (by omega)) (by decide)).mp c52_7
        refine lv_iload_n hx hb dX0_monthLength_55 rfl (lv_at hl 1 rfl) ?_
        refine lv_if_eq (tgt := 65) hx hb dX0_monthLength_56 (by decide) (fun c56_8 => by exfalso; exact absurd c56_8 (by decide)) (fun c56_8 => ?_)
        refine lv_iload_n hx hb dX0_monthLength_59 rfl (lv_at hl 0 rfl) ?_
        refine lv_iconst (v := 1) hx hb dX0_monthLength_60 (by decide) ?_
        refine lv_iadd hx hb dX0_monthLength_61 ?_
        refine cst (v := nI ((mlB mo) + 1)) (nI_add (mlB mo) 1) ?_
        refine lv_goto (tgt := 66) hx hb dX0_monthLength_62 (by decide) ?_
        exact W.iret (v := (nI ((mlB mo) + 1))) hx hb hr (fun t ht hW => ⟨(nI ((mlB mo) + 1)), rfl, (by first | exact ml_a (by omega) | exact ml_b (by omega) (by omega) | exact ml_c (by omega) (by omega)), ht⟩) (fun _ h => absurd h List.not_mem_nil) dX0_monthLength_66
    · have c25_6 : ((y % 100 : Nat) : Int) = 0 := (cv_eq (nI_toInt (by omega)) (by decide)).mp c25_6
      refine lv_iload_n hx hb dX0_monthLength_28 rfl (lv_at hl 0 rfl) ?_
      refine lv_sipush (v := 400) hx hb dX0_monthLength_29 (by decide) ?_
      refine lv_irem hx hb dX0_monthLength_32 (by decide) ?_
      refine cst (v := nI (y % 400)) (pk_rem (a := y) (d := 400) (by omega) (by omega) (by omega)) ?_
      refine lv_if_ne (tgt := 40) hx hb dX0_monthLength_33 (by decide) (fun c33_9 => ?_) (fun c33_9 => ?_)
      · have c33_9 : ¬ (((y % 400 : Nat) : Int) = 0) := mt (cv_eq (nI_toInt (by omega)) (by decide)).mpr c33_9
        refine lv_iconst (v := 0) hx hb dX0_monthLength_40 (by decide) ?_
        refine lv_istore_n (lv' := [(2, .int 0), (0, .int (nI y)), (1, .int (nI mo))]) hx hb dX0_monthLength_41 rfl hl (by decide) rfl (fun ls hl => ?_)
        refine va_gets hx hb hE.2.1 hS hown (hts (.fieldLink RX0 10 "ClosedUntil$Calendar" "MONTH_LENGTHS" "[I") qw_1) (fun _ h9 => h9) dX0_monthLength_42 ?_
        refine lv_iload_n hx hb dX0_monthLength_45 rfl (lv_at hl 2 rfl) ?_
        refine lv_iconst (v := 1) hx hb dX0_monthLength_46 (by decide) ?_
        refine lv_isub hx hb dX0_monthLength_47 ?_
        refine cst (v := nI (mo - 1)) (pk_sub (a := mo) (b := 1) (by omega)) ?_
        refine va_ti hx hb hE.2.2.1 hS (vp_in_nI (by omega) (by omega)) (v := .int (mlL.getD (nI (mo - 1)).toNatClampNeg 0)) rfl dX0_monthLength_48 ?_
        refine cst (v := nI (mlB mo)) (ml_at mo (by omega) (by omega)) ?_
        have hmb := mlB_b mo
        refine lv_istore_n (lv' := [(3, .int (nI (mlB mo))), (2, .int 0), (0, .int (nI y)), (1, .int (nI mo))]) hx hb dX0_monthLength_49 rfl hl (by decide) rfl (fun ls hl => ?_)
        refine lv_iload_n hx hb dX0_monthLength_50 rfl (lv_at hl 3 rfl) ?_
        refine lv_iconst (v := 2) hx hb dX0_monthLength_51 (by decide) ?_
        refine lv_icmp_ne (tgt := 65) hx hb dX0_monthLength_52 (by decide) (fun c52_10 => ?_) (fun c52_10 => ?_)
        · have c52_10 : ¬ (((mo : Nat) : Int) = 2) := mt (cv_eq (nI_toInt (by omega)) (by decide)).mpr c52_10
          refine lv_iload_n hx hb dX0_monthLength_65 rfl (lv_at hl 0 rfl) ?_
          exact W.iret (v := (nI (mlB mo))) hx hb hr (fun t ht hW => ⟨(nI (mlB mo)), rfl, (by first | exact ml_a (by omega) | exact ml_b (by omega) (by omega) | exact ml_c (by omega) (by omega)), ht⟩) (fun _ h => absurd h List.not_mem_nil) dX0_monthLength_66
        · have c52_10 : ((mo : Nat) : Int) = 2 := (cv_eq (nI_toInt (by omega)) (by decide)).mp c52_10
          refine lv_iload_n hx hb dX0_monthLength_55 rfl (lv_at hl 1 rfl) ?_
          refine lv_if_eq (tgt := 65) hx hb dX0_monthLength_56 (by decide) (fun c56_11 => ?_) (fun c56_11 => by exfalso; exact absurd c56_11 (by decide))
          refine lv_iload_n hx hb dX0_monthLength_65 rfl (lv_at hl 0 rfl) ?_
          exact W.iret (v := (nI (mlB mo))) hx hb hr (fun t ht hW => ⟨(nI (mlB mo)), rfl, (by first | exact ml_a (by omega) | exact ml_b (by omega) (by omega) | exact ml_c (by omega) (by omega)), ht⟩) (fun _ h => absurd h List.not_mem_nil) dX0_monthLength_66
      · have c33_9 : ((y % 400 : Nat) : Int) = 0 := (cv_eq (nI_toInt (by omega)) (by decide)).mp c33_9
        refine lv_iconst (v := 1) hx hb dX0_monthLength_36 (by decide) ?_
        refine lv_goto (tgt := 41) hx hb dX0_monthLength_37 (by decide) ?_
        refine lv_istore_n (lv' := [(2, .int 1), (0, .int (nI y)), (1, .int (nI mo))]) hx hb dX0_monthLength_41 rfl hl (by decide) rfl (fun ls hl => ?_)
        refine va_gets hx hb hE.2.1 hS hown (hts (.fieldLink RX0 10 "ClosedUntil$Calendar" "MONTH_LENGTHS" "[I") qw_1) (fun _ h9 => h9) dX0_monthLength_42 ?_
        refine lv_iload_n hx hb dX0_monthLength_45 rfl (lv_at hl 2 rfl) ?_
        refine lv_iconst (v := 1) hx hb dX0_monthLength_46 (by decide) ?_
        refine lv_isub hx hb dX0_monthLength_47 ?_
        refine cst (v := nI (mo - 1)) (pk_sub (a := mo) (b := 1) (by omega)) ?_
        refine va_ti hx hb hE.2.2.1 hS (vp_in_nI (by omega) (by omega)) (v := .int (mlL.getD (nI (mo - 1)).toNatClampNeg 0)) rfl dX0_monthLength_48 ?_
        refine cst (v := nI (mlB mo)) (ml_at mo (by omega) (by omega)) ?_
        have hmb := mlB_b mo
        refine lv_istore_n (lv' := [(3, .int (nI (mlB mo))), (2, .int 1), (0, .int (nI y)), (1, .int (nI mo))]) hx hb dX0_monthLength_49 rfl hl (by decide) rfl (fun ls hl => ?_)
        refine lv_iload_n hx hb dX0_monthLength_50 rfl (lv_at hl 3 rfl) ?_
        refine lv_iconst (v := 2) hx hb dX0_monthLength_51 (by decide) ?_
        refine lv_icmp_ne (tgt := 65) hx hb dX0_monthLength_52 (by decide) (fun c52_12 => ?_) (fun c52_12 => ?_)
        · have c52_12 : ¬ (((mo : Nat) : Int) = 2) := mt (cv_eq (nI_toInt (by omega)) (by decide)).mpr c52_12
          refine lv_iload_n hx hb dX0_monthLength_65 rfl (lv_at hl 0 rfl) ?_
          exact W.iret (v := (nI (mlB mo))) hx hb hr (fun t ht hW => ⟨(nI (mlB mo)), rfl, (by first | exact ml_a (by omega) | exact ml_b (by omega) (by omega) | exact ml_c (by omega) (by omega)), ht⟩) (fun _ h => absurd h List.not_mem_nil) dX0_monthLength_66
        · have c52_12 : ((mo : Nat) : Int) = 2 := (cv_eq (nI_toInt (by omega)) (by decide)).mp c52_12
          refine lv_iload_n hx hb dX0_monthLength_55 rfl (lv_at hl 1 rfl) ?_
          refine lv_if_eq (tgt := 65) hx hb dX0_monthLength_56 (by decide) (fun c56_13 => by exfalso; exact absurd c56_13 (by decide)) (fun c56_13 => ?_)
          refine lv_iload_n hx hb dX0_monthLength_59 rfl (lv_at hl 0 rfl) ?_
          refine lv_iconst (v := 1) hx hb dX0_monthLength_60 (by decide) ?_
          refine lv_iadd hx hb dX0_monthLength_61 ?_
          refine cst (v := nI ((mlB mo) + 1)) (nI_add (mlB mo) 1) ?_
          refine lv_goto (tgt := 66) hx hb dX0_monthLength_62 (by decide) ?_
          exact W.iret (v := (nI ((mlB mo) + 1))) hx hb hr (fun t ht hW => ⟨(nI ((mlB mo) + 1)), rfl, (by first | exact ml_a (by omega) | exact ml_b (by omega) (by omega) | exact ml_c (by omega) (by omega)), ht⟩) (fun _ h => absurd h List.not_mem_nil) dX0_monthLength_66
set_option maxHeartbeats 4000000 in
set_option maxRecDepth 100000 in
theorem c_ml_out (l : Launch) (dC : Nat → ClassId) (dI : Nat → Nat → Nat) (g : Gv) (y : Int32) (mo : Int32) (hm : ¬ (1 ≤ mo.toInt ∧ mo.toInt ≤ 12)) : Met l yX0_monthLength (.code yX0_monthLength cX0_monthLength 4 (some .int) :: TBL) ({ frames := 0, cells := 0, slots := 0, locals := 0 }) (va_Pc [.int y, .int mo] (fun U => va_P (dC, dI) vwCl [] U.heap ∧ va_K (dC, dI) vwCl [] U ∧ Ev g (fun _ => False) U)) (vp_Si (fun r => r = 0)) 0 0 (fun _ => False) := by
  refine Met.ofW (cc := cX0_monthLength) (maxL := 4) (ret := (some .int)) (by decide) rfl ?_
  intro p e s m args below meth c s₁ B hml hv
  obtain ⟨rfl, hP, hK, hE⟩ := hv
  have hx := B.exec
  have hb := B.bytes
  have hr := B.returns
  have hts0 := atoms_spec (ws := (.code yX0_monthLength cX0_monthLength 4 (some .int) :: TBL)) B.pre
  have hts := fun (w : Cond) (h : w ∈ TBL) => hts0 w (List.mem_cons_of_mem _ h)
  have hown : s.vm.findClass RX0 = some m.cls := findClass_of_methodNamed B.named
  have hlocks := B.notSynchronized
  have hN := hE.1
  have hS : va_S (fun _ => False) s.heap s.heap [] := va_S.rf
  have hP : va_P (dC, dI) vwCl [] s.heap := hP
  have hl := lv_entry ([.int y, .int mo]) (n := 4) (Nat.le_of_ble_eq_true rfl)
  rw [lg_entry_eq]
  generalize (lg_sl ([.int y, .int mo]) ++ List.replicate (4 - (lg_sl ([.int y, .int mo])).length) Slot.unset).toArray = ls at hl ⊢
  have hl : lv_has ls 4 [(0, .int y), (1, .int mo)] := hl
  refine lv_iload_n hx hb dX0_monthLength_0 rfl (lv_at hl 1 rfl) ?_
  refine lv_iconst (v := 1) hx hb dX0_monthLength_1 (by decide) ?_
  refine lv_icmp_lt (tgt := 13) hx hb dX0_monthLength_2 (by decide) (fun c2_1 => ?_) (fun c2_1 => ?_)
  · have c2_1 : mo.toInt < 1 := (cv_lt rfl (by decide)).mp c2_1
    refine lv_iconst (v := 0) hx hb dX0_monthLength_13 (by decide) ?_
    exact W.iret (v := 0) hx hb hr (fun t ht hW => ⟨0, rfl, (rfl), ht⟩) (fun _ h => absurd h List.not_mem_nil) dX0_monthLength_14
  · have c2_1 : ¬ (mo.toInt < 1) := mt (cv_lt rfl (by decide)).mpr c2_1
    refine lv_iload_n hx hb dX0_monthLength_5 rfl (lv_at hl 1 rfl) ?_
    refine va_gets hx hb hE.2.1 hS hown (hts (.fieldLink RX0 10 "ClosedUntil$Calendar" "MONTH_LENGTHS" "[I") qw_1) (fun _ h9 => h9) dX0_monthLength_6 ?_
    refine va_tlen hx hb hE.2.2.1 hS (v := 12) (by decide) dX0_monthLength_9 ?_
    refine lv_icmp_le (tgt := 15) hx hb dX0_monthLength_10 (by decide) (fun c10_2 => by exfalso; have c10_2 : mo.toInt ≤ 12 := (cv_le rfl (by decide)).mp c10_2; omega) (fun c10_2 => ?_)
    have c10_2 : ¬ (mo.toInt ≤ 12) := mt (cv_le rfl (by decide)).mpr c10_2
    refine lv_iconst (v := 0) hx hb dX0_monthLength_13 (by decide) ?_
    exact W.iret (v := 0) hx hb hr (fun t ht hW => ⟨0, rfl, (rfl), ht⟩) (fun _ h => absurd h List.not_mem_nil) dX0_monthLength_14
set_option maxHeartbeats 4000000 in
set_option maxRecDepth 100000 in
theorem c_so (l : Launch) (dC : Nat → ClassId) (dI : Nat → Nat → Nat) (g : Gv) (k : Nat) (hk : k ≤ 600) : Met l yX0_startOf (.code yX0_startOf cX0_startOf 3 (some .int) :: TBL) ({ frames := 0, cells := 0, slots := 0, locals := 0 }) (va_Pc [.int (nI (1700 + k))] (fun U => va_P (dC, dI) vwCl [] U.heap ∧ va_K (dC, dI) vwCl [] U ∧ Ev g (fun _ => False) U)) (vp_Si (fun r => r = nI (Fk k))) 0 0 (fun _ => False) := by
  refine Met.ofW (cc := cX0_startOf) (maxL := 3) (ret := (some .int)) (by decide) rfl ?_
  intro p e s m args below meth c s₁ B hml hv
  obtain ⟨rfl, hP, hK, hE⟩ := hv
  have hx := B.exec
  have hb := B.bytes
  have hr := B.returns
  have hts0 := atoms_spec (ws := (.code yX0_startOf cX0_startOf 3 (some .int) :: TBL)) B.pre
  have hts := fun (w : Cond) (h : w ∈ TBL) => hts0 w (List.mem_cons_of_mem _ h)
  have hown : s.vm.findClass RX0 = some m.cls := findClass_of_methodNamed B.named
  have hlocks := B.notSynchronized
  have hN := hE.1
  have hS : va_S (fun _ => False) s.heap s.heap [] := va_S.rf
  have hP : va_P (dC, dI) vwCl [] s.heap := hP
  have hl := lv_entry ([.int (nI (1700 + k))]) (n := 3) (Nat.le_of_ble_eq_true rfl)
  rw [lg_entry_eq]
  generalize (lg_sl ([.int (nI (1700 + k))]) ++ List.replicate (3 - (lg_sl ([.int (nI (1700 + k))])).length) Slot.unset).toArray = ls at hl ⊢
  have hl : lv_has ls 3 [(0, .int (nI (1700 + k)))] := hl
  refine lv_iload_n hx hb dX0_startOf_0 rfl (lv_at hl 0 rfl) ?_
  refine lv_iconst (v := 1) hx hb dX0_startOf_1 (by decide) ?_
  refine lv_isub hx hb dX0_startOf_2 ?_
  refine cst (v := nI ((1700 + k) - 1)) (pk_sub (a := (1700 + k)) (b := 1) (by omega)) ?_
  refine lv_istore_n (lv' := [(1, .int (nI ((1700 + k) - 1))), (0, .int (nI (1700 + k)))]) hx hb dX0_startOf_3 rfl hl (by decide) rfl (fun ls hl => ?_)
  refine lv_iload_n hx hb dX0_startOf_4 rfl (lv_at hl 0 rfl) ?_
  refine lv_iconst (v := 4) hx hb dX0_startOf_5 (by decide) ?_
  refine lv_idiv hx hb dX0_startOf_6 (by decide) ?_
  refine cst (v := nI (((1700 + k) - 1) / 4)) (pk_div (a := ((1700 + k) - 1)) (d := 4) (by omega) (by omega) (by omega)) ?_
  refine lv_iload_n hx hb dX0_startOf_7 rfl (lv_at hl 0 rfl) ?_
  refine lv_bipush (v := 100) hx hb dX0_startOf_8 (by decide) ?_
  refine lv_idiv hx hb dX0_startOf_10 (by decide) ?_
  refine cst (v := nI (((1700 + k) - 1) / 100)) (pk_div (a := ((1700 + k) - 1)) (d := 100) (by omega) (by omega) (by omega)) ?_
  refine lv_isub hx hb dX0_startOf_11 ?_
  refine cst (v := nI ((((1700 + k) - 1) / 4) - (((1700 + k) - 1) / 100))) (pk_sub (a := (((1700 + k) - 1) / 4)) (b := (((1700 + k) - 1) / 100)) (by omega)) ?_
  refine lv_iload_n hx hb dX0_startOf_12 rfl (lv_at hl 0 rfl) ?_
  refine lv_sipush (v := 400) hx hb dX0_startOf_13 (by decide) ?_
  refine lv_idiv hx hb dX0_startOf_16 (by decide) ?_
  refine cst (v := nI (((1700 + k) - 1) / 400)) (pk_div (a := ((1700 + k) - 1)) (d := 400) (by omega) (by omega) (by omega)) ?_
  refine lv_iadd hx hb dX0_startOf_17 ?_
  refine cst (v := nI (((((1700 + k) - 1) / 4) - (((1700 + k) - 1) / 100)) + (((1700 + k) - 1) / 400))) (nI_add ((((1700 + k) - 1) / 4) - (((1700 + k) - 1) / 100)) (((1700 + k) - 1) / 400)) ?_
  refine lv_sipush (v := 412) hx hb dX0_startOf_18 (by decide) ?_
  refine lv_isub hx hb dX0_startOf_21 ?_
  refine cst (v := nI ((((((1700 + k) - 1) / 4) - (((1700 + k) - 1) / 100)) + (((1700 + k) - 1) / 400)) - 412)) (pk_sub (a := (((((1700 + k) - 1) / 4) - (((1700 + k) - 1) / 100)) + (((1700 + k) - 1) / 400))) (b := 412) (by omega)) ?_
  refine lv_istore_n (lv' := [(2, .int (nI ((((((1700 + k) - 1) / 4) - (((1700 + k) - 1) / 100)) + (((1700 + k) - 1) / 400)) - 412))), (1, .int (nI ((1700 + k) - 1))), (0, .int (nI (1700 + k)))]) hx hb dX0_startOf_22 rfl hl (by decide) rfl (fun ls hl => ?_)
  refine lv_sipush (v := 365) hx hb dX0_startOf_23 (by decide) ?_
  refine lv_iload_n hx hb dX0_startOf_26 rfl (lv_at hl 2 rfl) ?_
  refine lv_sipush (v := 1700) hx hb dX0_startOf_27 (by decide) ?_
  refine lv_isub hx hb dX0_startOf_30 ?_
  refine cst (v := nI ((1700 + k) - 1700)) (pk_sub (a := (1700 + k)) (b := 1700) (by omega)) ?_
  refine lv_imul hx hb dX0_startOf_31 ?_
  refine cst (v := nI (365 * ((1700 + k) - 1700))) (pk_mul 365 ((1700 + k) - 1700)) ?_
  refine lv_iload_n hx hb dX0_startOf_32 rfl (lv_at hl 0 rfl) ?_
  refine lv_iadd hx hb dX0_startOf_33 ?_
  refine cst (v := nI ((365 * ((1700 + k) - 1700)) + ((((((1700 + k) - 1) / 4) - (((1700 + k) - 1) / 100)) + (((1700 + k) - 1) / 400)) - 412))) (nI_add (365 * ((1700 + k) - 1700)) ((((((1700 + k) - 1) / 4) - (((1700 + k) - 1) / 100)) + (((1700 + k) - 1) / 400)) - 412)) ?_
  exact W.iret (v := (nI ((365 * ((1700 + k) - 1700)) + ((((((1700 + k) - 1) / 4) - (((1700 + k) - 1) / 100)) + (((1700 + k) - 1) / 400)) - 412)))) hx hb hr (fun t ht hW => ⟨(nI ((365 * ((1700 + k) - 1700)) + ((((((1700 + k) - 1) / 4) - (((1700 + k) - 1) / 100)) + (((1700 + k) - 1) / 400)) - 412))), rfl, (by congr 1; unfold Fk; omega), ht⟩) (fun _ h => absurd h List.not_mem_nil) dX0_startOf_34
set_option maxHeartbeats 4000000 in
set_option maxRecDepth 100000 in
theorem c_no_in (l : Launch) (dC : Nat → ClassId) (dI : Nat → Nat → Nat) (g : Gv) (k : Nat) (mo : Nat) (d : Nat) (hk : k < 600) (hm1 : 1 ≤ mo) (hm2 : mo ≤ 12) (hd1 : 1 ≤ d) (hd2 : d ≤ mlN (1700 + k) mo) : Met l yX0_numberOf (.code yX0_numberOf cX0_numberOf 5 (some .int) :: TBL) ({ frames := 1, cells := 0, slots := 0, locals := 40 }) (va_Pc [.int (nI (1700 + k)), .int (nI mo), .int (nI d)] (fun U => va_P (dC, dI) vwCl [] U.heap ∧ va_K (dC, dI) vwCl [] U ∧ Ev g (fun _ => False) U)) (vp_Si (fun r => r = nI (Fk k + Mk (1700 + k) mo + d - 1))) 0 0 (fun _ => False) := by
  refine Met.ofW (cc := cX0_numberOf) (maxL := 5) (ret := (some .int)) (by decide) rfl ?_
  intro p e s m args below meth c s₁ B hml hv
  obtain ⟨rfl, hP, hK, hE⟩ := hv
  have hx := B.exec
  have hb := B.bytes
  have hr := B.returns
  have hts0 := atoms_spec (ws := (.code yX0_numberOf cX0_numberOf 5 (some .int) :: TBL)) B.pre
  have hts := fun (w : Cond) (h : w ∈ TBL) => hts0 w (List.mem_cons_of_mem _ h)
  have hown : s.vm.findClass RX0 = some m.cls := findClass_of_methodNamed B.named
  have hlocks := B.notSynchronized
  have hN := hE.1
  have hS : va_S (fun _ => False) s.heap s.heap [] := va_S.rf
  have hP : va_P (dC, dI) vwCl [] s.heap := hP
  have hl := lv_entry ([.int (nI (1700 + k)), .int (nI mo), .int (nI d)]) (n := 5) (Nat.le_of_ble_eq_true rfl)
  rw [lg_entry_eq]
  generalize (lg_sl ([.int (nI (1700 + k)), .int (nI mo), .int (nI d)]) ++ List.replicate (5 - (lg_sl ([.int (nI (1700 + k)), .int (nI mo), .int (nI d)])).length) Slot.unset).toArray = ls at hl ⊢
  have hl : lv_has ls 5 [(0, .int (nI (1700 + k))), (1, .int (nI mo)), (2, .int (nI d))] := hl
  have hb1 := mlN_b (1700 + k) mo
  have hb2 := Fk_b (k := k) (by omega)
  refine lv_iload_n hx hb dX0_numberOf_0 rfl (lv_at hl 0 rfl) ?_
  refine lv_sipush (v := 1700) hx hb dX0_numberOf_1 (by decide) ?_
  refine lv_icmp_lt (tgt := 14) hx hb dX0_numberOf_4 (by decide) (fun c4_1 => by exfalso; have c4_1 : ((1700 + k : Nat) : Int) < 1700 := (cv_lt (nI_toInt (by omega)) (by decide)).mp c4_1; omega) (fun c4_1 => ?_)
  have c4_1 : ¬ (((1700 + k : Nat) : Int) < 1700) := mt (cv_lt (nI_toInt (by omega)) (by decide)).mpr c4_1
  refine lv_iload_n hx hb dX0_numberOf_7 rfl (lv_at hl 0 rfl) ?_
  refine lv_sipush (v := 2299) hx hb dX0_numberOf_8 (by decide) ?_
  refine lv_icmp_le (tgt := 16) hx hb dX0_numberOf_11 (by decide) (fun c11_2 => ?_) (fun c11_2 => by exfalso; have c11_2 : ¬ (((1700 + k : Nat) : Int) ≤ 2299) := mt (cv_le (nI_toInt (by omega)) (by decide)).mpr c11_2; omega)
  have c11_2 : ((1700 + k : Nat) : Int) ≤ 2299 := (cv_le (nI_toInt (by omega)) (by decide)).mp c11_2
  refine lv_iload_n hx hb dX0_numberOf_16 rfl (lv_at hl 2 rfl) ?_
  refine lv_iconst (v := 1) hx hb dX0_numberOf_17 (by decide) ?_
  refine lv_icmp_lt (tgt := 30) hx hb dX0_numberOf_18 (by decide) (fun c18_3 => by exfalso; have c18_3 : ((d : Nat) : Int) < 1 := (cv_lt (nI_toInt (by omega)) (by decide)).mp c18_3; omega) (fun c18_3 => ?_)
  have c18_3 : ¬ (((d : Nat) : Int) < 1) := mt (cv_lt (nI_toInt (by omega)) (by decide)).mpr c18_3
  refine lv_iload_n hx hb dX0_numberOf_21 rfl (lv_at hl 2 rfl) ?_
  refine lv_iload_n hx hb dX0_numberOf_22 rfl (lv_at hl 0 rfl) ?_
  refine lv_iload_n hx hb dX0_numberOf_23 rfl (lv_at hl 1 rfl) ?_
  have hPc := hP.sub (ws' := []) [] rfl
  have hKc := hK.sub (tys' := []) [] rfl
  refine vp_callSi ((va_runS (As := [.int (nI (1700 + k)), .int (nI mo)]) (rest := [.int (nI d)]) ⟨hx, hb, hml, hown, hts⟩ (c_ml l dC dI g (1700 + k) (mo) (by omega) (by omega) (by omega)) (va_cwS 2 hts (gwS qw_4 qw_5 qw_3 qw_2) rfl rfl rfl (by decide +kernel) ⟨Nat.le_of_ble_eq_true rfl, Nat.le_of_ble_eq_true rfl⟩) ⟨fun a U g9 mk q => ⟨q.1, q.2.1, va_K.moved (u := U) (U := U.calling g9 mk a) (Vm.Alike.refl U.vm) q.2.2.1, Ev.bl q.2.2.2⟩, fun U hU hW => ⟨rfl, by rw [hU]; exact hPc, va_K.moved hW.alike hKc, hE.go hS (fun _ h => h.elim) hU hW⟩⟩ rfl rfl hl.1 rfl (lv_room (Nat.le_of_ble_eq_true rfl)) dX0_numberOf_24 ⟨Nat.le_of_ble_eq_true rfl, Nat.le_of_ble_eq_true rfl⟩)).run (fun r4 h_r4 => ?_)
  have h_r4 : r4 = nI (mlN (1700 + k) mo) := h_r4
  subst h_r4
  refine lv_icmp_le (tgt := 32) hx hb dX0_numberOf_27 (by decide) (fun c27_5 => ?_) (fun c27_5 => by exfalso; have c27_5 : ¬ (((d : Nat) : Int) ≤ ((mlN (1700 + k) mo : Nat) : Int)) := mt (cv_le (nI_toInt (by omega)) (nI_toInt (by omega))).mpr c27_5; omega)
  have c27_5 : ((d : Nat) : Int) ≤ ((mlN (1700 + k) mo : Nat) : Int) := (cv_le (nI_toInt (by omega)) (nI_toInt (by omega))).mp c27_5
  refine lv_iload_n hx hb dX0_numberOf_32 rfl (lv_at hl 0 rfl) ?_
  have hPc := hP.sub (ws' := []) [] rfl
  have hKc := hK.sub (tys' := []) [] rfl
  refine vp_callSi ((va_runS (As := [.int (nI (1700 + k))]) (rest := []) ⟨hx, hb, hml, hown, hts⟩ (c_so l dC dI g (k) (by omega)) (va_cwS 1 hts (gwS qw_7 qw_8 qw_3 qw_6) rfl rfl rfl (by decide +kernel) ⟨Nat.le_of_ble_eq_true rfl, Nat.le_of_ble_eq_true rfl⟩) ⟨fun a U g9 mk q => ⟨q.1, q.2.1, va_K.moved (u := U) (U := U.calling g9 mk a) (Vm.Alike.refl U.vm) q.2.2.1, Ev.bl q.2.2.2⟩, fun U hU hW => ⟨rfl, by rw [hU]; exact hPc, va_K.moved hW.alike hKc, hE.go hS (fun _ h => h.elim) hU hW⟩⟩ rfl rfl hl.1 rfl (lv_room (Nat.le_of_ble_eq_true rfl)) dX0_numberOf_33 ⟨Nat.le_of_ble_eq_true rfl, Nat.le_of_ble_eq_true rfl⟩)).run (fun r6 h_r6 => ?_)
  have h_r6 : r6 = nI (Fk k) := h_r6
  subst h_r6
  refine lv_istore_n (lv' := [(3, .int (nI (Fk k))), (0, .int (nI (1700 + k))), (1, .int (nI mo)), (2, .int (nI d))]) hx hb dX0_numberOf_36 rfl hl (by decide) rfl (fun ls hl => ?_)
  refine lv_iconst (v := 1) hx hb dX0_numberOf_37 (by decide) ?_
  refine lv_istore (lv' := [(4, .int 1), (3, .int (nI (Fk k))), (0, .int (nI (1700 + k))), (1, .int (nI mo)), (2, .int (nI d))]) hx hb dX0_numberOf_38 hl (by decide) rfl (fun ls hl => ?_)
  refine wloop (fun n H locs ls => ∃ (j : Nat), n = mo - j ∧ (1 ≤ j) ∧ (j ≤ mo) ∧ lv_has ls 5 [(0, .int (nI (1700 + k))), (1, .int (nI mo)), (2, .int (nI d)), (3, .int (nI (Fk k + Mk (1700 + k) j))), (4, .int (nI j))] ∧ H = s.heap ∧ locs = []) ?_ (mo - (1)) _ _ _ ⟨1, rfl, (by omega), (by omega), lv_sub hl [2, 3, 4, 1, 0] rfl, rfl, rfl⟩
  intro n H locs ls hI ih
  obtain ⟨j, hn9, j1, j2, hl, rfl, rfl⟩ := hI
  refine lv_iload hx hb dX0_numberOf_40 (lv_at hl 4 rfl) ?_
  refine lv_iload_n hx hb dX0_numberOf_42 rfl (lv_at hl 1 rfl) ?_
  refine lv_icmp_ge (tgt := 61) hx hb dX0_numberOf_43 (by decide) (fun c43_7 => ?_) (fun c43_7 => ?_)
  · have c43_7 : ((mo : Nat) : Int) ≤ ((j : Nat) : Int) := (cv_le (nI_toInt (by omega)) (nI_toInt (by omega))).mp c43_7
    refine lv_iload_n hx hb dX0_numberOf_61 rfl (lv_at hl 3 rfl) ?_
    refine lv_iload_n hx hb dX0_numberOf_62 rfl (lv_at hl 2 rfl) ?_
    refine lv_iadd hx hb dX0_numberOf_63 ?_
    refine cst (v := nI ((Fk k + Mk (1700 + k) j) + d)) (nI_add (Fk k + Mk (1700 + k) j) d) ?_
    refine lv_iconst (v := 1) hx hb dX0_numberOf_64 (by decide) ?_
    refine lv_isub hx hb dX0_numberOf_65 ?_
    refine cst (v := nI (((Fk k + Mk (1700 + k) j) + d) - 1)) (pk_sub (a := ((Fk k + Mk (1700 + k) j) + d)) (b := 1) (by omega)) ?_
    exact W.iret (v := (nI (((Fk k + Mk (1700 + k) j) + d) - 1))) hx hb hr (fun t ht hW => ⟨(nI (((Fk k + Mk (1700 + k) j) + d) - 1)), rfl, (by rw [show j = mo by omega]), ht⟩) (fun _ h => absurd h List.not_mem_nil) dX0_numberOf_66
  · have c43_7 : ¬ (((mo : Nat) : Int) ≤ ((j : Nat) : Int)) := mt (cv_le (nI_toInt (by omega)) (nI_toInt (by omega))).mpr c43_7
    refine lv_iload_n hx hb dX0_numberOf_46 rfl (lv_at hl 3 rfl) ?_
    refine lv_iload_n hx hb dX0_numberOf_47 rfl (lv_at hl 0 rfl) ?_
    refine lv_iload hx hb dX0_numberOf_48 (lv_at hl 4 rfl) ?_
    have hPc := hP.sub (ws' := []) [] rfl
    have hKc := hK.sub (tys' := []) [] rfl
    refine vp_callSi ((va_runS (As := [.int (nI (1700 + k)), .int (nI j)]) (rest := [.int (nI (Fk k + Mk (1700 + k) j))]) ⟨hx, hb, hml, hown, hts⟩ (c_ml l dC dI g (1700 + k) (j) (by omega) (by omega) (by omega)) (va_cwS 2 hts (gwS qw_4 qw_5 qw_3 qw_2) rfl rfl rfl (by decide +kernel) ⟨Nat.le_of_ble_eq_true rfl, Nat.le_of_ble_eq_true rfl⟩) ⟨fun a U g9 mk q => ⟨q.1, q.2.1, va_K.moved (u := U) (U := U.calling g9 mk a) (Vm.Alike.refl U.vm) q.2.2.1, Ev.bl q.2.2.2⟩, fun U hU hW => ⟨rfl, by rw [hU]; exact hPc, va_K.moved hW.alike hKc, hE.go hS (fun _ h => h.elim) hU hW⟩⟩ rfl rfl hl.1 rfl (lv_room (Nat.le_of_ble_eq_true rfl)) dX0_numberOf_50 ⟨Nat.le_of_ble_eq_true rfl, Nat.le_of_ble_eq_true rfl⟩)).run (fun r8 h_r8 => ?_)
    have h_r8 : r8 = nI (mlN (1700 + k) j) := h_r8
    subst h_r8
    refine lv_iadd hx hb dX0_numberOf_53 ?_
    refine cst (v := nI (Fk k + Mk (1700 + k) (j + 1))) (by rw [nI_add, Nat.add_assoc, ← Mk_s j1]) ?_
    refine lv_istore_n (lv' := [(3, .int (nI (Fk k + Mk (1700 + k) (j + 1)))), (0, .int (nI (1700 + k))), (1, .int (nI mo)), (2, .int (nI d)), (4, .int (nI j))]) hx hb dX0_numberOf_54 rfl hl (by decide) rfl (fun ls hl => ?_)
    refine lv_iinc (v := (nI (j + 1))) (lv' := [(4, .int (nI (j + 1))), (3, .int (nI (Fk k + Mk (1700 + k) (j + 1)))), (0, .int (nI (1700 + k))), (1, .int (nI mo)), (2, .int (nI d))]) hx hb dX0_numberOf_55 hl (k := 4) rfl (nI_add (j) 1) (by decide) rfl (fun ls hl => ?_)
    refine lv_goto (tgt := 40) hx hb dX0_numberOf_58 (by decide) ?_
    exact ih (mo - (j + 1)) _ _ _ (by omega) ⟨j + 1, rfl, (by omega), (by omega), lv_sub hl [2, 3, 4, 1, 0] rfl, rfl, rfl⟩
set_option maxHeartbeats 4000000 in
set_option maxRecDepth 100000 in
theorem c_no_B (l : Launch) (dC : Nat → ClassId) (dI : Nat → Nat → Nat) (g : Gv) (y : Int32) (mo : Int32) (d : Int32) (hy : ¬ (1700 ≤ y.toInt ∧ y.toInt ≤ 2299)) : Met l yX0_numberOf (.code yX0_numberOf cX0_numberOf 5 (some .int) :: TBL) ({ frames := 1, cells := 0, slots := 0, locals := 40 }) (va_Pc [.int y, .int mo, .int d] (fun U => va_P (dC, dI) vwCl [] U.heap ∧ va_K (dC, dI) vwCl [] U ∧ Ev g (fun _ => False) U)) (vp_Si (fun r => r = -1)) 0 0 (fun _ => False) := by
  refine Met.ofW (cc := cX0_numberOf) (maxL := 5) (ret := (some .int)) (by decide) rfl ?_
  intro p e s m args below meth c s₁ B hml hv
  obtain ⟨rfl, hP, hK, hE⟩ := hv
  have hx := B.exec
  have hb := B.bytes
  have hr := B.returns
  have hts0 := atoms_spec (ws := (.code yX0_numberOf cX0_numberOf 5 (some .int) :: TBL)) B.pre
  have hts := fun (w : Cond) (h : w ∈ TBL) => hts0 w (List.mem_cons_of_mem _ h)
  have hown : s.vm.findClass RX0 = some m.cls := findClass_of_methodNamed B.named
  have hlocks := B.notSynchronized
  have hN := hE.1
  have hS : va_S (fun _ => False) s.heap s.heap [] := va_S.rf
  have hP : va_P (dC, dI) vwCl [] s.heap := hP
  have hl := lv_entry ([.int y, .int mo, .int d]) (n := 5) (Nat.le_of_ble_eq_true rfl)
  rw [lg_entry_eq]
  generalize (lg_sl ([.int y, .int mo, .int d]) ++ List.replicate (5 - (lg_sl ([.int y, .int mo, .int d])).length) Slot.unset).toArray = ls at hl ⊢
  have hl : lv_has ls 5 [(0, .int y), (1, .int mo), (2, .int d)] := hl
  refine lv_iload_n hx hb dX0_numberOf_0 rfl (lv_at hl 0 rfl) ?_
  refine lv_sipush (v := 1700) hx hb dX0_numberOf_1 (by decide) ?_
  refine lv_icmp_lt (tgt := 14) hx hb dX0_numberOf_4 (by decide) (fun c4_1 => ?_) (fun c4_1 => ?_)
  · have c4_1 : y.toInt < 1700 := (cv_lt rfl (by decide)).mp c4_1
    refine lv_iconst (v := (-1)) hx hb dX0_numberOf_14 (by decide) ?_
    exact W.iret (v := (-1)) hx hb hr (fun t ht hW => ⟨(-1), rfl, (rfl), ht⟩) (fun _ h => absurd h List.not_mem_nil) dX0_numberOf_15
  · have c4_1 : ¬ (y.toInt < 1700) := mt (cv_lt rfl (by decide)).mpr c4_1
    refine lv_iload_n hx hb dX0_numberOf_7 rfl (lv_at hl 0 rfl) ?_
    refine lv_sipush (v := 2299) hx hb dX0_numberOf_8 (by decide) ?_
    refine lv_icmp_le (tgt := 16) hx hb dX0_numberOf_11 (by decide) (fun c11_2 => by exfalso; have c11_2 : y.toInt ≤ 2299 := (cv_le rfl (by decide)).mp c11_2; omega) (fun c11_2 => ?_)
    have c11_2 : ¬ (y.toInt ≤ 2299) := mt (cv_le rfl (by decide)).mpr c11_2
    refine lv_iconst (v := (-1)) hx hb dX0_numberOf_14 (by decide) ?_
    exact W.iret (v := (-1)) hx hb hr (fun t ht hW => ⟨(-1), rfl, (rfl), ht⟩) (fun _ h => absurd h List.not_mem_nil) dX0_numberOf_15
set_option maxHeartbeats 4000000 in
set_option maxRecDepth 100000 in
theorem c_no_C (l : Launch) (dC : Nat → ClassId) (dI : Nat → Nat → Nat) (g : Gv) (k : Nat) (mo : Int32) (d : Int32) (hk : k < 600) (hd : d.toInt < 1) : Met l yX0_numberOf (.code yX0_numberOf cX0_numberOf 5 (some .int) :: TBL) ({ frames := 1, cells := 0, slots := 0, locals := 40 }) (va_Pc [.int (nI (1700 + k)), .int mo, .int d] (fun U => va_P (dC, dI) vwCl [] U.heap ∧ va_K (dC, dI) vwCl [] U ∧ Ev g (fun _ => False) U)) (vp_Si (fun r => r = -1)) 0 0 (fun _ => False) := by
  refine Met.ofW (cc := cX0_numberOf) (maxL := 5) (ret := (some .int)) (by decide) rfl ?_
  intro p e s m args below meth c s₁ B hml hv
  obtain ⟨rfl, hP, hK, hE⟩ := hv
  have hx := B.exec
  have hb := B.bytes
  have hr := B.returns
  have hts0 := atoms_spec (ws := (.code yX0_numberOf cX0_numberOf 5 (some .int) :: TBL)) B.pre
  have hts := fun (w : Cond) (h : w ∈ TBL) => hts0 w (List.mem_cons_of_mem _ h)
  have hown : s.vm.findClass RX0 = some m.cls := findClass_of_methodNamed B.named
  have hlocks := B.notSynchronized
  have hN := hE.1
  have hS : va_S (fun _ => False) s.heap s.heap [] := va_S.rf
  have hP : va_P (dC, dI) vwCl [] s.heap := hP
  have hl := lv_entry ([.int (nI (1700 + k)), .int mo, .int d]) (n := 5) (Nat.le_of_ble_eq_true rfl)
  rw [lg_entry_eq]
  generalize (lg_sl ([.int (nI (1700 + k)), .int mo, .int d]) ++ List.replicate (5 - (lg_sl ([.int (nI (1700 + k)), .int mo, .int d])).length) Slot.unset).toArray = ls at hl ⊢
  have hl : lv_has ls 5 [(0, .int (nI (1700 + k))), (1, .int mo), (2, .int d)] := hl
  refine lv_iload_n hx hb dX0_numberOf_0 rfl (lv_at hl 0 rfl) ?_
  refine lv_sipush (v := 1700) hx hb dX0_numberOf_1 (by decide) ?_
  refine lv_icmp_lt (tgt := 14) hx hb dX0_numberOf_4 (by decide) (fun c4_1 => by exfalso; have c4_1 : ((1700 + k : Nat) : Int) < 1700 := (cv_lt (nI_toInt (by omega)) (by decide)).mp c4_1; omega) (fun c4_1 => ?_)
  have c4_1 : ¬ (((1700 + k : Nat) : Int) < 1700) := mt (cv_lt (nI_toInt (by omega)) (by decide)).mpr c4_1
  refine lv_iload_n hx hb dX0_numberOf_7 rfl (lv_at hl 0 rfl) ?_
  refine lv_sipush (v := 2299) hx hb dX0_numberOf_8 (by decide) ?_
  refine lv_icmp_le (tgt := 16) hx hb dX0_numberOf_11 (by decide) (fun c11_2 => ?_) (fun c11_2 => by exfalso; have c11_2 : ¬ (((1700 + k : Nat) : Int) ≤ 2299) := mt (cv_le (nI_toInt (by omega)) (by decide)).mpr c11_2; omega)
  have c11_2 : ((1700 + k : Nat) : Int) ≤ 2299 := (cv_le (nI_toInt (by omega)) (by decide)).mp c11_2
  refine lv_iload_n hx hb dX0_numberOf_16 rfl (lv_at hl 2 rfl) ?_
  refine lv_iconst (v := 1) hx hb dX0_numberOf_17 (by decide) ?_
  refine lv_icmp_lt (tgt := 30) hx hb dX0_numberOf_18 (by decide) (fun c18_3 => ?_) (fun c18_3 => by exfalso; have c18_3 : ¬ (d.toInt < 1) := mt (cv_lt rfl (by decide)).mpr c18_3; omega)
  have c18_3 : d.toInt < 1 := (cv_lt rfl (by decide)).mp c18_3
  refine lv_iconst (v := (-1)) hx hb dX0_numberOf_30 (by decide) ?_
  exact W.iret (v := (-1)) hx hb hr (fun t ht hW => ⟨(-1), rfl, (rfl), ht⟩) (fun _ h => absurd h List.not_mem_nil) dX0_numberOf_31
set_option maxHeartbeats 4000000 in
set_option maxRecDepth 100000 in
theorem c_no_D (l : Launch) (dC : Nat → ClassId) (dI : Nat → Nat → Nat) (g : Gv) (k : Nat) (mo : Int32) (d : Int32) (hk : k < 600) (hm : ¬ (1 ≤ mo.toInt ∧ mo.toInt ≤ 12)) : Met l yX0_numberOf (.code yX0_numberOf cX0_numberOf 5 (some .int) :: TBL) ({ frames := 1, cells := 0, slots := 0, locals := 40 }) (va_Pc [.int (nI (1700 + k)), .int mo, .int d] (fun U => va_P (dC, dI) vwCl [] U.heap ∧ va_K (dC, dI) vwCl [] U ∧ Ev g (fun _ => False) U)) (vp_Si (fun r => r = -1)) 0 0 (fun _ => False) := by
  refine Met.ofW (cc := cX0_numberOf) (maxL := 5) (ret := (some .int)) (by decide) rfl ?_
  intro p e s m args below meth c s₁ B hml hv
  obtain ⟨rfl, hP, hK, hE⟩ := hv
  have hx := B.exec
  have hb := B.bytes
  have hr := B.returns
  have hts0 := atoms_spec (ws := (.code yX0_numberOf cX0_numberOf 5 (some .int) :: TBL)) B.pre
  have hts := fun (w : Cond) (h : w ∈ TBL) => hts0 w (List.mem_cons_of_mem _ h)
  have hown : s.vm.findClass RX0 = some m.cls := findClass_of_methodNamed B.named
  have hlocks := B.notSynchronized
  have hN := hE.1
  have hS : va_S (fun _ => False) s.heap s.heap [] := va_S.rf
  have hP : va_P (dC, dI) vwCl [] s.heap := hP
  have hl := lv_entry ([.int (nI (1700 + k)), .int mo, .int d]) (n := 5) (Nat.le_of_ble_eq_true rfl)
  rw [lg_entry_eq]
  generalize (lg_sl ([.int (nI (1700 + k)), .int mo, .int d]) ++ List.replicate (5 - (lg_sl ([.int (nI (1700 + k)), .int mo, .int d])).length) Slot.unset).toArray = ls at hl ⊢
  have hl : lv_has ls 5 [(0, .int (nI (1700 + k))), (1, .int mo), (2, .int d)] := hl
  refine lv_iload_n hx hb dX0_numberOf_0 rfl (lv_at hl 0 rfl) ?_
  refine lv_sipush (v := 1700) hx hb dX0_numberOf_1 (by decide) ?_
  refine lv_icmp_lt (tgt := 14) hx hb dX0_numberOf_4 (by decide) (fun c4_1 => by exfalso; have c4_1 : ((1700 + k : Nat) : Int) < 1700 := (cv_lt (nI_toInt (by omega)) (by decide)).mp c4_1; omega) (fun c4_1 => ?_)
  have c4_1 : ¬ (((1700 + k : Nat) : Int) < 1700) := mt (cv_lt (nI_toInt (by omega)) (by decide)).mpr c4_1
  refine lv_iload_n hx hb dX0_numberOf_7 rfl (lv_at hl 0 rfl) ?_
  refine lv_sipush (v := 2299) hx hb dX0_numberOf_8 (by decide) ?_
  refine lv_icmp_le (tgt := 16) hx hb dX0_numberOf_11 (by decide) (fun c11_2 => ?_) (fun c11_2 => by exfalso; have c11_2 : ¬ (((1700 + k : Nat) : Int) ≤ 2299) := mt (cv_le (nI_toInt (by omega)) (by decide)).mpr c11_2; omega)
  have c11_2 : ((1700 + k : Nat) : Int) ≤ 2299 := (cv_le (nI_toInt (by omega)) (by decide)).mp c11_2
  refine lv_iload_n hx hb dX0_numberOf_16 rfl (lv_at hl 2 rfl) ?_
  refine lv_iconst (v := 1) hx hb dX0_numberOf_17 (by decide) ?_
  refine lv_icmp_lt (tgt := 30) hx hb dX0_numberOf_18 (by decide) (fun c18_3 => ?_) (fun c18_3 => ?_)
  · have c18_3 : d.toInt < 1 := (cv_lt rfl (by decide)).mp c18_3
    refine lv_iconst (v := (-1)) hx hb dX0_numberOf_30 (by decide) ?_
    exact W.iret (v := (-1)) hx hb hr (fun t ht hW => ⟨(-1), rfl, (rfl), ht⟩) (fun _ h => absurd h List.not_mem_nil) dX0_numberOf_31
  · have c18_3 : ¬ (d.toInt < 1) := mt (cv_lt rfl (by decide)).mpr c18_3
    refine lv_iload_n hx hb dX0_numberOf_21 rfl (lv_at hl 2 rfl) ?_
    refine lv_iload_n hx hb dX0_numberOf_22 rfl (lv_at hl 0 rfl) ?_
    refine lv_iload_n hx hb dX0_numberOf_23 rfl (lv_at hl 1 rfl) ?_
    have hPc := hP.sub (ws' := []) [] rfl
    have hKc := hK.sub (tys' := []) [] rfl
    refine vp_callSi ((va_runS (As := [.int (nI (1700 + k)), .int mo]) (rest := [.int d]) ⟨hx, hb, hml, hown, hts⟩ (c_ml_out l dC dI g ((nI (1700 + k))) (mo) hm) (va_cwS 2 hts (gwS qw_4 qw_5 qw_3 qw_2) rfl rfl rfl (by decide +kernel) ⟨Nat.le_of_ble_eq_true rfl, Nat.le_of_ble_eq_true rfl⟩) ⟨fun a U g9 mk q => ⟨q.1, q.2.1, va_K.moved (u := U) (U := U.calling g9 mk a) (Vm.Alike.refl U.vm) q.2.2.1, Ev.bl q.2.2.2⟩, fun U hU hW => ⟨rfl, by rw [hU]; exact hPc, va_K.moved hW.alike hKc, hE.go hS (fun _ h => h.elim) hU hW⟩⟩ rfl rfl hl.1 rfl (lv_room (Nat.le_of_ble_eq_true rfl)) dX0_numberOf_24 ⟨Nat.le_of_ble_eq_true rfl, Nat.le_of_ble_eq_true rfl⟩)).run (fun r4 h_r4 => ?_)
    have h_r4 : r4 = 0 := h_r4
    subst h_r4
    refine lv_icmp_le (tgt := 32) hx hb dX0_numberOf_27 (by decide) (fun c27_5 => by exfalso; have c27_5 : d.toInt ≤ 0 := (cv_le rfl (by decide)).mp c27_5; omega) (fun c27_5 => ?_)
    have c27_5 : ¬ (d.toInt ≤ 0) := mt (cv_le rfl (by decide)).mpr c27_5
    refine lv_iconst (v := (-1)) hx hb dX0_numberOf_30 (by decide) ?_
    exact W.iret (v := (-1)) hx hb hr (fun t ht hW => ⟨(-1), rfl, (rfl), ht⟩) (fun _ h => absurd h List.not_mem_nil) dX0_numberOf_31
set_option maxHeartbeats 4000000 in
set_option maxRecDepth 100000 in
theorem c_no_E (l : Launch) (dC : Nat → ClassId) (dI : Nat → Nat → Nat) (g : Gv) (k : Nat) (mo : Nat) (d : Int32) (hk : k < 600) (hm1 : 1 ≤ mo) (hm2 : mo ≤ 12) (hd : (mlN (1700 + k) mo : Int) < d.toInt) : Met l yX0_numberOf (.code yX0_numberOf cX0_numberOf 5 (some .int) :: TBL) ({ frames := 1, cells := 0, slots := 0, locals := 40 }) (va_Pc [.int (nI (1700 + k)), .int (nI mo), .int d] (fun U => va_P (dC, dI) vwCl [] U.heap ∧ va_K (dC, dI) vwCl [] U ∧ Ev g (fun _ => False) U)) (vp_Si (fun r => r = -1)) 0 0 (fun _ => False) := by
  refine Met.ofW (cc := cX0_numberOf) (maxL := 5) (ret := (some .int)) (by decide) rfl ?_
  intro p e s m args below meth c s₁ B hml hv
  obtain ⟨rfl, hP, hK, hE⟩ := hv
  have hx := B.exec
  have hb := B.bytes
  have hr := B.returns
  have hts0 := atoms_spec (ws := (.code yX0_numberOf cX0_numberOf 5 (some .int) :: TBL)) B.pre
  have hts := fun (w : Cond) (h : w ∈ TBL) => hts0 w (List.mem_cons_of_mem _ h)
  have hown : s.vm.findClass RX0 = some m.cls := findClass_of_methodNamed B.named
  have hlocks := B.notSynchronized
  have hN := hE.1
  have hS : va_S (fun _ => False) s.heap s.heap [] := va_S.rf
  have hP : va_P (dC, dI) vwCl [] s.heap := hP
  have hl := lv_entry ([.int (nI (1700 + k)), .int (nI mo), .int d]) (n := 5) (Nat.le_of_ble_eq_true rfl)
  rw [lg_entry_eq]
  generalize (lg_sl ([.int (nI (1700 + k)), .int (nI mo), .int d]) ++ List.replicate (5 - (lg_sl ([.int (nI (1700 + k)), .int (nI mo), .int d])).length) Slot.unset).toArray = ls at hl ⊢
  have hl : lv_has ls 5 [(0, .int (nI (1700 + k))), (1, .int (nI mo)), (2, .int d)] := hl
  have hb1 := mlN_b (1700 + k) mo
  refine lv_iload_n hx hb dX0_numberOf_0 rfl (lv_at hl 0 rfl) ?_
  refine lv_sipush (v := 1700) hx hb dX0_numberOf_1 (by decide) ?_
  refine lv_icmp_lt (tgt := 14) hx hb dX0_numberOf_4 (by decide) (fun c4_1 => by exfalso; have c4_1 : ((1700 + k : Nat) : Int) < 1700 := (cv_lt (nI_toInt (by omega)) (by decide)).mp c4_1; omega) (fun c4_1 => ?_)
  have c4_1 : ¬ (((1700 + k : Nat) : Int) < 1700) := mt (cv_lt (nI_toInt (by omega)) (by decide)).mpr c4_1
  refine lv_iload_n hx hb dX0_numberOf_7 rfl (lv_at hl 0 rfl) ?_
  refine lv_sipush (v := 2299) hx hb dX0_numberOf_8 (by decide) ?_
  refine lv_icmp_le (tgt := 16) hx hb dX0_numberOf_11 (by decide) (fun c11_2 => ?_) (fun c11_2 => by exfalso; have c11_2 : ¬ (((1700 + k : Nat) : Int) ≤ 2299) := mt (cv_le (nI_toInt (by omega)) (by decide)).mpr c11_2; omega)
  have c11_2 : ((1700 + k : Nat) : Int) ≤ 2299 := (cv_le (nI_toInt (by omega)) (by decide)).mp c11_2
  refine lv_iload_n hx hb dX0_numberOf_16 rfl (lv_at hl 2 rfl) ?_
  refine lv_iconst (v := 1) hx hb dX0_numberOf_17 (by decide) ?_
  refine lv_icmp_lt (tgt := 30) hx hb dX0_numberOf_18 (by decide) (fun c18_3 => ?_) (fun c18_3 => ?_)
  · have c18_3 : d.toInt < 1 := (cv_lt rfl (by decide)).mp c18_3
    refine lv_iconst (v := (-1)) hx hb dX0_numberOf_30 (by decide) ?_
    exact W.iret (v := (-1)) hx hb hr (fun t ht hW => ⟨(-1), rfl, (rfl), ht⟩) (fun _ h => absurd h List.not_mem_nil) dX0_numberOf_31
  · have c18_3 : ¬ (d.toInt < 1) := mt (cv_lt rfl (by decide)).mpr c18_3
    refine lv_iload_n hx hb dX0_numberOf_21 rfl (lv_at hl 2 rfl) ?_
    refine lv_iload_n hx hb dX0_numberOf_22 rfl (lv_at hl 0 rfl) ?_
    refine lv_iload_n hx hb dX0_numberOf_23 rfl (lv_at hl 1 rfl) ?_
    have hPc := hP.sub (ws' := []) [] rfl
    have hKc := hK.sub (tys' := []) [] rfl
    refine vp_callSi ((va_runS (As := [.int (nI (1700 + k)), .int (nI mo)]) (rest := [.int d]) ⟨hx, hb, hml, hown, hts⟩ (c_ml l dC dI g (1700 + k) (mo) (by omega) (by omega) (by omega)) (va_cwS 2 hts (gwS qw_4 qw_5 qw_3 qw_2) rfl rfl rfl (by decide +kernel) ⟨Nat.le_of_ble_eq_true rfl, Nat.le_of_ble_eq_true rfl⟩) ⟨fun a U g9 mk q => ⟨q.1, q.2.1, va_K.moved (u := U) (U := U.calling g9 mk a) (Vm.Alike.refl U.vm) q.2.2.1, Ev.bl q.2.2.2⟩, fun U hU hW => ⟨rfl, by rw [hU]; exact hPc, va_K.moved hW.alike hKc, hE.go hS (fun _ h => h.elim) hU hW⟩⟩ rfl rfl hl.1 rfl (lv_room (Nat.le_of_ble_eq_true rfl)) dX0_numberOf_24 ⟨Nat.le_of_ble_eq_true rfl, Nat.le_of_ble_eq_true rfl⟩)).run (fun r4 h_r4 => ?_)
    have h_r4 : r4 = nI (mlN (1700 + k) mo) := h_r4
    subst h_r4
    refine lv_icmp_le (tgt := 32) hx hb dX0_numberOf_27 (by decide) (fun c27_5 => by exfalso; have c27_5 : d.toInt ≤ ((mlN (1700 + k) mo : Nat) : Int) := (cv_le rfl (nI_toInt (by omega))).mp c27_5; omega) (fun c27_5 => ?_)
    have c27_5 : ¬ (d.toInt ≤ ((mlN (1700 + k) mo : Nat) : Int)) := mt (cv_le rfl (nI_toInt (by omega))).mpr c27_5
    refine lv_iconst (v := (-1)) hx hb dX0_numberOf_30 (by decide) ?_
    exact W.iret (v := (-1)) hx hb hr (fun t ht hW => ⟨(-1), rfl, (rfl), ht⟩) (fun _ h => absurd h List.not_mem_nil) dX0_numberOf_31
set_option maxHeartbeats 4000000 in
set_option maxRecDepth 100000 in
theorem c_8day_A (l : Launch) (dC : Nat → ClassId) (dI : Nat → Nat → Nat) (g : Gv) (x0 : Nat) (k : Nat) (mo : Nat) (d : Nat) (hk : k < 600) (hm1 : 1 ≤ mo) (hm2 : mo ≤ 12) (hd1 : 1 ≤ d) (hd2 : d ≤ mlN (1700 + k) mo) : Met l yX8_day (.code yX8_day cX8_day 4 (some .int) :: TBL) ({ frames := 3, cells := 0, slots := 0, locals := 120 }) (va_Pc [.ref x0, .int (nI (1700 + k)), .int (nI mo), .int (nI d)] (fun U => va_P (dC, dI) vwCl [] U.heap ∧ va_K (dC, dI) vwCl [] U ∧ Ev g (fun _ => False) U)) (vp_Si (fun r => r = nI (Fk k + Mk (1700 + k) mo + d - 1))) 0 0 (fun _ => False) := by
  refine Met.ofW (cc := cX8_day) (maxL := 4) (ret := (some .int)) (by decide) rfl ?_
  intro p e s m args below meth c s₁ B hml hv
  obtain ⟨rfl, hP, hK, hE⟩ := hv
  have hx := B.exec
  have hb := B.bytes
  have hr := B.returns
  have hts0 := atoms_spec (ws := (.code yX8_day cX8_day 4 (some .int) :: TBL)) B.pre
  have hts := fun (w : Cond) (h : w ∈ TBL) => hts0 w (List.mem_cons_of_mem _ h)
  have hown : s.vm.findClass RX8 = some m.cls := findClass_of_methodNamed B.named
  have hlocks := B.notSynchronized
  have hN := hE.1
  have hS : va_S (fun _ => False) s.heap s.heap [] := va_S.rf
  have hP : va_P (dC, dI) vwCl [] s.heap := hP
  have hl := lv_entry ([.ref x0, .int (nI (1700 + k)), .int (nI mo), .int (nI d)]) (n := 4) (Nat.le_of_ble_eq_true rfl)
  rw [lg_entry_eq]
  generalize (lg_sl ([.ref x0, .int (nI (1700 + k)), .int (nI mo), .int (nI d)]) ++ List.replicate (4 - (lg_sl ([.ref x0, .int (nI (1700 + k)), .int (nI mo), .int (nI d)])).length) Slot.unset).toArray = ls at hl ⊢
  have hl : lv_has ls 4 [(0, .ref x0), (1, .int (nI (1700 + k))), (2, .int (nI mo)), (3, .int (nI d))] := hl
  refine lv_iload_n hx hb dX8_day_0 rfl (lv_at hl 1 rfl) ?_
  refine lv_iload_n hx hb dX8_day_1 rfl (lv_at hl 2 rfl) ?_
  refine lv_iload_n hx hb dX8_day_2 rfl (lv_at hl 3 rfl) ?_
  have hPc := hP.sub (ws' := []) [] rfl
  have hKc := hK.sub (tys' := []) [] rfl
  refine vp_callSi ((va_runSN (As := [.int (nI (1700 + k)), .int (nI mo), .int (nI d)]) (rest := []) ⟨hx, hb, hml, hown, hts⟩ (c_no_in l dC dI g (k) (mo) (d) hk hm1 hm2 hd1 hd2) ⟨va_cnB 3 hts (gwC qw_19) rfl rfl rfl (nm_18 hN) (hts (.initialized RX0) qw_3) (by decide +kernel) ⟨Nat.le_of_ble_eq_true rfl, Nat.le_of_ble_eq_true rfl⟩, (hts (.static yX0_numberOf) qw_21), trivial⟩ ⟨fun a U g9 mk q => ⟨q.1, q.2.1, va_K.moved (u := U) (U := U.calling g9 mk a) (Vm.Alike.refl U.vm) q.2.2.1, Ev.bl q.2.2.2⟩, fun U hU hW => ⟨rfl, by rw [hU]; exact hPc, va_K.moved hW.alike hKc, hE.go hS (fun _ h => h.elim) hU hW⟩⟩ rfl rfl hl.1 rfl (lv_room (Nat.le_of_ble_eq_true rfl)) dX8_day_3 ⟨Nat.le_of_ble_eq_true rfl, Nat.le_of_ble_eq_true rfl⟩)).run (fun r1 h_r1 => ?_)
  have h_r1 : r1 = nI (Fk k + Mk (1700 + k) mo + d - 1) := h_r1
  subst h_r1
  exact W.iret (v := (nI (Fk k + Mk (1700 + k) mo + d - 1))) hx hb hr (fun t ht hW => ⟨(nI (Fk k + Mk (1700 + k) mo + d - 1)), rfl, (rfl), ht⟩) (fun _ h => absurd h List.not_mem_nil) dX8_day_6
set_option maxHeartbeats 4000000 in
set_option maxRecDepth 100000 in
theorem c_8day_B (l : Launch) (dC : Nat → ClassId) (dI : Nat → Nat → Nat) (g : Gv) (x0 : Nat) (y : Int32) (mo : Int32) (d : Int32) (hy : ¬ (1700 ≤ y.toInt ∧ y.toInt ≤ 2299)) : Met l yX8_day (.code yX8_day cX8_day 4 (some .int) :: TBL) ({ frames := 3, cells := 0, slots := 0, locals := 120 }) (va_Pc [.ref x0, .int y, .int mo, .int d] (fun U => va_P (dC, dI) vwCl [] U.heap ∧ va_K (dC, dI) vwCl [] U ∧ Ev g (fun _ => False) U)) (vp_Si (fun r => r = -1)) 0 0 (fun _ => False) := by
  refine Met.ofW (cc := cX8_day) (maxL := 4) (ret := (some .int)) (by decide) rfl ?_
  intro p e s m args below meth c s₁ B hml hv
  obtain ⟨rfl, hP, hK, hE⟩ := hv
  have hx := B.exec
  have hb := B.bytes
  have hr := B.returns
  have hts0 := atoms_spec (ws := (.code yX8_day cX8_day 4 (some .int) :: TBL)) B.pre
  have hts := fun (w : Cond) (h : w ∈ TBL) => hts0 w (List.mem_cons_of_mem _ h)
  have hown : s.vm.findClass RX8 = some m.cls := findClass_of_methodNamed B.named
  have hlocks := B.notSynchronized
  have hN := hE.1
  have hS : va_S (fun _ => False) s.heap s.heap [] := va_S.rf
  have hP : va_P (dC, dI) vwCl [] s.heap := hP
  have hl := lv_entry ([.ref x0, .int y, .int mo, .int d]) (n := 4) (Nat.le_of_ble_eq_true rfl)
  rw [lg_entry_eq]
  generalize (lg_sl ([.ref x0, .int y, .int mo, .int d]) ++ List.replicate (4 - (lg_sl ([.ref x0, .int y, .int mo, .int d])).length) Slot.unset).toArray = ls at hl ⊢
  have hl : lv_has ls 4 [(0, .ref x0), (1, .int y), (2, .int mo), (3, .int d)] := hl
  refine lv_iload_n hx hb dX8_day_0 rfl (lv_at hl 1 rfl) ?_
  refine lv_iload_n hx hb dX8_day_1 rfl (lv_at hl 2 rfl) ?_
  refine lv_iload_n hx hb dX8_day_2 rfl (lv_at hl 3 rfl) ?_
  have hPc := hP.sub (ws' := []) [] rfl
  have hKc := hK.sub (tys' := []) [] rfl
  refine vp_callSi ((va_runSN (As := [.int y, .int mo, .int d]) (rest := []) ⟨hx, hb, hml, hown, hts⟩ (c_no_B l dC dI g (y) (mo) (d) hy) ⟨va_cnB 3 hts (gwC qw_19) rfl rfl rfl (nm_18 hN) (hts (.initialized RX0) qw_3) (by decide +kernel) ⟨Nat.le_of_ble_eq_true rfl, Nat.le_of_ble_eq_true rfl⟩, (hts (.static yX0_numberOf) qw_21), trivial⟩ ⟨fun a U g9 mk q => ⟨q.1, q.2.1, va_K.moved (u := U) (U := U.calling g9 mk a) (Vm.Alike.refl U.vm) q.2.2.1, Ev.bl q.2.2.2⟩, fun U hU hW => ⟨rfl, by rw [hU]; exact hPc, va_K.moved hW.alike hKc, hE.go hS (fun _ h => h.elim) hU hW⟩⟩ rfl rfl hl.1 rfl (lv_room (Nat.le_of_ble_eq_true rfl)) dX8_day_3 ⟨Nat.le_of_ble_eq_true rfl, Nat.le_of_ble_eq_true rfl⟩)).run (fun r1 h_r1 => ?_)
  have h_r1 : r1 = (-1) := h_r1
  subst h_r1
  exact W.iret (v := (-1)) hx hb hr (fun t ht hW => ⟨(-1), rfl, (rfl), ht⟩) (fun _ h => absurd h List.not_mem_nil) dX8_day_6
set_option maxHeartbeats 4000000 in
set_option maxRecDepth 100000 in
theorem c_8day_C (l : Launch) (dC : Nat → ClassId) (dI : Nat → Nat → Nat) (g : Gv) (x0 : Nat) (k : Nat) (mo : Int32) (d : Int32) (hk : k < 600) (hd : d.toInt < 1) : Met l yX8_day (.code yX8_day cX8_day 4 (some .int) :: TBL) ({ frames := 3, cells := 0, slots := 0, locals := 120 }) (va_Pc [.ref x0, .int (nI (1700 + k)), .int mo, .int d] (fun U => va_P (dC, dI) vwCl [] U.heap ∧ va_K (dC, dI) vwCl [] U ∧ Ev g (fun _ => False) U)) (vp_Si (fun r => r = -1)) 0 0 (fun _ => False) := by
  refine Met.ofW (cc := cX8_day) (maxL := 4) (ret := (some .int)) (by decide) rfl ?_
  intro p e s m args below meth c s₁ B hml hv
  obtain ⟨rfl, hP, hK, hE⟩ := hv
  have hx := B.exec
  have hb := B.bytes
  have hr := B.returns
  have hts0 := atoms_spec (ws := (.code yX8_day cX8_day 4 (some .int) :: TBL)) B.pre
  have hts := fun (w : Cond) (h : w ∈ TBL) => hts0 w (List.mem_cons_of_mem _ h)
  have hown : s.vm.findClass RX8 = some m.cls := findClass_of_methodNamed B.named
  have hlocks := B.notSynchronized
  have hN := hE.1
  have hS : va_S (fun _ => False) s.heap s.heap [] := va_S.rf
  have hP : va_P (dC, dI) vwCl [] s.heap := hP
  have hl := lv_entry ([.ref x0, .int (nI (1700 + k)), .int mo, .int d]) (n := 4) (Nat.le_of_ble_eq_true rfl)
  rw [lg_entry_eq]
  generalize (lg_sl ([.ref x0, .int (nI (1700 + k)), .int mo, .int d]) ++ List.replicate (4 - (lg_sl ([.ref x0, .int (nI (1700 + k)), .int mo, .int d])).length) Slot.unset).toArray = ls at hl ⊢
  have hl : lv_has ls 4 [(0, .ref x0), (1, .int (nI (1700 + k))), (2, .int mo), (3, .int d)] := hl
  refine lv_iload_n hx hb dX8_day_0 rfl (lv_at hl 1 rfl) ?_
  refine lv_iload_n hx hb dX8_day_1 rfl (lv_at hl 2 rfl) ?_
  refine lv_iload_n hx hb dX8_day_2 rfl (lv_at hl 3 rfl) ?_
  have hPc := hP.sub (ws' := []) [] rfl
  have hKc := hK.sub (tys' := []) [] rfl
  refine vp_callSi ((va_runSN (As := [.int (nI (1700 + k)), .int mo, .int d]) (rest := []) ⟨hx, hb, hml, hown, hts⟩ (c_no_C l dC dI g (k) (mo) (d) hk hd) ⟨va_cnB 3 hts (gwC qw_19) rfl rfl rfl (nm_18 hN) (hts (.initialized RX0) qw_3) (by decide +kernel) ⟨Nat.le_of_ble_eq_true rfl, Nat.le_of_ble_eq_true rfl⟩, (hts (.static yX0_numberOf) qw_21), trivial⟩ ⟨fun a U g9 mk q => ⟨q.1, q.2.1, va_K.moved (u := U) (U := U.calling g9 mk a) (Vm.Alike.refl U.vm) q.2.2.1, Ev.bl q.2.2.2⟩, fun U hU hW => ⟨rfl, by rw [hU]; exact hPc, va_K.moved hW.alike hKc, hE.go hS (fun _ h => h.elim) hU hW⟩⟩ rfl rfl hl.1 rfl (lv_room (Nat.le_of_ble_eq_true rfl)) dX8_day_3 ⟨Nat.le_of_ble_eq_true rfl, Nat.le_of_ble_eq_true rfl⟩)).run (fun r1 h_r1 => ?_)
  have h_r1 : r1 = (-1) := h_r1
  subst h_r1
  exact W.iret (v := (-1)) hx hb hr (fun t ht hW => ⟨(-1), rfl, (rfl), ht⟩) (fun _ h => absurd h List.not_mem_nil) dX8_day_6
set_option maxHeartbeats 4000000 in
set_option maxRecDepth 100000 in
theorem c_8day_D (l : Launch) (dC : Nat → ClassId) (dI : Nat → Nat → Nat) (g : Gv) (x0 : Nat) (k : Nat) (mo : Int32) (d : Int32) (hk : k < 600) (hm : ¬ (1 ≤ mo.toInt ∧ mo.toInt ≤ 12)) : Met l yX8_day (.code yX8_day cX8_day 4 (some .int) :: TBL) ({ frames := 3, cells := 0, slots := 0, locals := 120 }) (va_Pc [.ref x0, .int (nI (1700 + k)), .int mo, .int d] (fun U => va_P (dC, dI) vwCl [] U.heap ∧ va_K (dC, dI) vwCl [] U ∧ Ev g (fun _ => False) U)) (vp_Si (fun r => r = -1)) 0 0 (fun _ => False) := by
  refine Met.ofW (cc := cX8_day) (maxL := 4) (ret := (some .int)) (by decide) rfl ?_
  intro p e s m args below meth c s₁ B hml hv
  obtain ⟨rfl, hP, hK, hE⟩ := hv
  have hx := B.exec
  have hb := B.bytes
  have hr := B.returns
  have hts0 := atoms_spec (ws := (.code yX8_day cX8_day 4 (some .int) :: TBL)) B.pre
  have hts := fun (w : Cond) (h : w ∈ TBL) => hts0 w (List.mem_cons_of_mem _ h)
  have hown : s.vm.findClass RX8 = some m.cls := findClass_of_methodNamed B.named
  have hlocks := B.notSynchronized
  have hN := hE.1
  have hS : va_S (fun _ => False) s.heap s.heap [] := va_S.rf
  have hP : va_P (dC, dI) vwCl [] s.heap := hP
  have hl := lv_entry ([.ref x0, .int (nI (1700 + k)), .int mo, .int d]) (n := 4) (Nat.le_of_ble_eq_true rfl)
  rw [lg_entry_eq]
  generalize (lg_sl ([.ref x0, .int (nI (1700 + k)), .int mo, .int d]) ++ List.replicate (4 - (lg_sl ([.ref x0, .int (nI (1700 + k)), .int mo, .int d])).length) Slot.unset).toArray = ls at hl ⊢
  have hl : lv_has ls 4 [(0, .ref x0), (1, .int (nI (1700 + k))), (2, .int mo), (3, .int d)] := hl
  refine lv_iload_n hx hb dX8_day_0 rfl (lv_at hl 1 rfl) ?_
  refine lv_iload_n hx hb dX8_day_1 rfl (lv_at hl 2 rfl) ?_
  refine lv_iload_n hx hb dX8_day_2 rfl (lv_at hl 3 rfl) ?_
  have hPc := hP.sub (ws' := []) [] rfl
  have hKc := hK.sub (tys' := []) [] rfl
  refine vp_callSi ((va_runSN (As := [.int (nI (1700 + k)), .int mo, .int d]) (rest := []) ⟨hx, hb, hml, hown, hts⟩ (c_no_D l dC dI g (k) (mo) (d) hk hm) ⟨va_cnB 3 hts (gwC qw_19) rfl rfl rfl (nm_18 hN) (hts (.initialized RX0) qw_3) (by decide +kernel) ⟨Nat.le_of_ble_eq_true rfl, Nat.le_of_ble_eq_true rfl⟩, (hts (.static yX0_numberOf) qw_21), trivial⟩ ⟨fun a U g9 mk q => ⟨q.1, q.2.1, va_K.moved (u := U) (U := U.calling g9 mk a) (Vm.Alike.refl U.vm) q.2.2.1, Ev.bl q.2.2.2⟩, fun U hU hW => ⟨rfl, by rw [hU]; exact hPc, va_K.moved hW.alike hKc, hE.go hS (fun _ h => h.elim) hU hW⟩⟩ rfl rfl hl.1 rfl (lv_room (Nat.le_of_ble_eq_true rfl)) dX8_day_3 ⟨Nat.le_of_ble_eq_true rfl, Nat.le_of_ble_eq_true rfl⟩)).run (fun r1 h_r1 => ?_)
  have h_r1 : r1 = (-1) := h_r1
  subst h_r1
  exact W.iret (v := (-1)) hx hb hr (fun t ht hW => ⟨(-1), rfl, (rfl), ht⟩) (fun _ h => absurd h List.not_mem_nil) dX8_day_6
set_option maxHeartbeats 4000000 in
set_option maxRecDepth 100000 in
theorem c_8day_E (l : Launch) (dC : Nat → ClassId) (dI : Nat → Nat → Nat) (g : Gv) (x0 : Nat) (k : Nat) (mo : Nat) (d : Int32) (hk : k < 600) (hm1 : 1 ≤ mo) (hm2 : mo ≤ 12) (hd : (mlN (1700 + k) mo : Int) < d.toInt) : Met l yX8_day (.code yX8_day cX8_day 4 (some .int) :: TBL) ({ frames := 3, cells := 0, slots := 0, locals := 120 }) (va_Pc [.ref x0, .int (nI (1700 + k)), .int (nI mo), .int d] (fun U => va_P (dC, dI) vwCl [] U.heap ∧ va_K (dC, dI) vwCl [] U ∧ Ev g (fun _ => False) U)) (vp_Si (fun r => r = -1)) 0 0 (fun _ => False) := by
  refine Met.ofW (cc := cX8_day) (maxL := 4) (ret := (some .int)) (by decide) rfl ?_
  intro p e s m args below meth c s₁ B hml hv
  obtain ⟨rfl, hP, hK, hE⟩ := hv
  have hx := B.exec
  have hb := B.bytes
  have hr := B.returns
  have hts0 := atoms_spec (ws := (.code yX8_day cX8_day 4 (some .int) :: TBL)) B.pre
  have hts := fun (w : Cond) (h : w ∈ TBL) => hts0 w (List.mem_cons_of_mem _ h)
  have hown : s.vm.findClass RX8 = some m.cls := findClass_of_methodNamed B.named
  have hlocks := B.notSynchronized
  have hN := hE.1
  have hS : va_S (fun _ => False) s.heap s.heap [] := va_S.rf
  have hP : va_P (dC, dI) vwCl [] s.heap := hP
  have hl := lv_entry ([.ref x0, .int (nI (1700 + k)), .int (nI mo), .int d]) (n := 4) (Nat.le_of_ble_eq_true rfl)
  rw [lg_entry_eq]
  generalize (lg_sl ([.ref x0, .int (nI (1700 + k)), .int (nI mo), .int d]) ++ List.replicate (4 - (lg_sl ([.ref x0, .int (nI (1700 + k)), .int (nI mo), .int d])).length) Slot.unset).toArray = ls at hl ⊢
  have hl : lv_has ls 4 [(0, .ref x0), (1, .int (nI (1700 + k))), (2, .int (nI mo)), (3, .int d)] := hl
  refine lv_iload_n hx hb dX8_day_0 rfl (lv_at hl 1 rfl) ?_
  refine lv_iload_n hx hb dX8_day_1 rfl (lv_at hl 2 rfl) ?_
  refine lv_iload_n hx hb dX8_day_2 rfl (lv_at hl 3 rfl) ?_
  have hPc := hP.sub (ws' := []) [] rfl
  have hKc := hK.sub (tys' := []) [] rfl
  refine vp_callSi ((va_runSN (As := [.int (nI (1700 + k)), .int (nI mo), .int d]) (rest := []) ⟨hx, hb, hml, hown, hts⟩ (c_no_E l dC dI g (k) (mo) (d) hk hm1 hm2 hd) ⟨va_cnB 3 hts (gwC qw_19) rfl rfl rfl (nm_18 hN) (hts (.initialized RX0) qw_3) (by decide +kernel) ⟨Nat.le_of_ble_eq_true rfl, Nat.le_of_ble_eq_true rfl⟩, (hts (.static yX0_numberOf) qw_21), trivial⟩ ⟨fun a U g9 mk q => ⟨q.1, q.2.1, va_K.moved (u := U) (U := U.calling g9 mk a) (Vm.Alike.refl U.vm) q.2.2.1, Ev.bl q.2.2.2⟩, fun U hU hW => ⟨rfl, by rw [hU]; exact hPc, va_K.moved hW.alike hKc, hE.go hS (fun _ h => h.elim) hU hW⟩⟩ rfl rfl hl.1 rfl (lv_room (Nat.le_of_ble_eq_true rfl)) dX8_day_3 ⟨Nat.le_of_ble_eq_true rfl, Nat.le_of_ble_eq_true rfl⟩)).run (fun r1 h_r1 => ?_)
  have h_r1 : r1 = (-1) := h_r1
  subst h_r1
  exact W.iret (v := (-1)) hx hb hr (fun t ht hW => ⟨(-1), rfl, (rfl), ht⟩) (fun _ h => absurd h List.not_mem_nil) dX8_day_6
