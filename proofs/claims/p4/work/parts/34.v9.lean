theorem i32n {x : Int32} (lo hi : Nat) (h : (lo : Int) ≤ x.toInt ∧ x.toInt ≤ (hi : Int)) (hh : hi < 2 ^ 31) : ∃ k : Nat, lo + k ≤ hi ∧ x = nI (lo + k) := by
  refine ⟨(x.toInt - lo).toNat, by omega, Int32.toInt_inj.mp ?_⟩
  rw [nI_toInt (by omega)]; omega
theorem i32z {x : Int32} (hi : Nat) (h : 0 ≤ x.toInt ∧ x.toInt ≤ (hi : Int)) (hh : hi < 2 ^ 31) : ∃ k : Nat, k ≤ hi ∧ x = nI k := by
  refine ⟨x.toInt.toNat, by omega, Int32.toInt_inj.mp ?_⟩
  rw [nI_toInt (by omega)]; omega
def dW (y m d : Int32) : Int32 := nI (Fk (y.toInt.toNat - 1700) + Mk y.toInt.toNat m.toInt.toNat + d.toInt.toNat - 1)
def dV (y m d : Int32) : Int32 := if 1700 ≤ y.toInt ∧ y.toInt ≤ 2299 ∧ 1 ≤ m.toInt ∧ m.toInt ≤ 12 ∧ 1 ≤ d.toInt ∧ d.toInt ≤ (mlN y.toInt.toNat m.toInt.toNat : Int) then dW y m d else -1
theorem dV_no {y m d : Int32} (h : ¬ (1700 ≤ y.toInt ∧ y.toInt ≤ 2299 ∧ 1 ≤ m.toInt ∧ m.toInt ≤ 12 ∧ 1 ≤ d.toInt ∧ d.toInt ≤ (mlN y.toInt.toNat m.toInt.toNat : Int))) : dV y m d = -1 := if_neg h
theorem dV_ok {y m d : Int32} (h : 1700 ≤ y.toInt ∧ y.toInt ≤ 2299 ∧ 1 ≤ m.toInt ∧ m.toInt ≤ 12 ∧ 1 ≤ d.toInt ∧ d.toInt ≤ (mlN y.toInt.toNat m.toInt.toNat : Int)) : dV y m d = dW y m d := if_pos h
theorem nIt {k : Nat} (h : k < 2 ^ 31) : (nI k).toInt.toNat = k := by rw [nI_toInt h]; omega
theorem dW_nI {k mo d : Nat} (hk : k < 600) (hm : mo ≤ 12) (hd : d ≤ 31) : dW (nI (1700 + k)) (nI mo) (nI d) = nI (Fk k + Mk (1700 + k) mo + d - 1) := by
  unfold dW
  rw [nIt (by omega), nIt (by omega), nIt (by omega), show 1700 + k - 1700 = k by omega]


set_option maxHeartbeats 4000000 in
set_option maxRecDepth 100000 in
theorem c_lp (l : Launch) (dC : Nat → ClassId) (dI : Nat → Nat → Nat) (g : Gv) (y : Nat) (hy : y < 3000) : Met l yX9_isLeap (.code yX9_isLeap cX9_isLeap 1 (some .boolean) :: TBL) ({ frames := 0, cells := 0, slots := 0, locals := 0 }) (va_Pc [.int (nI y)] (fun U => va_P (dC, dI) vwCl [] U.heap ∧ va_K (dC, dI) vwCl [] U ∧ Ev g (fun _ => False) U)) (vp_Si (fun r => (lpB y = true ∧ r = 1) ∨ (lpB y = false ∧ r = 0))) 0 0 (fun _ => False) := by
  refine Met.ofW (cc := cX9_isLeap) (maxL := 1) (ret := (some .boolean)) (by decide) rfl ?_
  intro p e s m args below meth c s₁ B hml hv
  obtain ⟨rfl, hP, hK, hE⟩ := hv
  have hx := B.exec
  have hb := B.bytes
  have hr := B.returns
  have hts0 := atoms_spec (ws := (.code yX9_isLeap cX9_isLeap 1 (some .boolean) :: TBL)) B.pre
  have hts := fun (w : Cond) (h : w ∈ TBL) => hts0 w (List.mem_cons_of_mem _ h)
  have hown : s.vm.findClass RX9 = some m.cls := findClass_of_methodNamed B.named
  have hlocks := B.notSynchronized
  have hN := hE.1
  have hS : va_S (fun _ => False) s.heap s.heap [] := va_S.rf
  have hP : va_P (dC, dI) vwCl [] s.heap := hP
  have hl := lv_entry ([.int (nI y)]) (n := 1) (Nat.le_of_ble_eq_true rfl)
  rw [lg_entry_eq]
  generalize (lg_sl ([.int (nI y)]) ++ List.replicate (1 - (lg_sl ([.int (nI y)])).length) Slot.unset).toArray = ls at hl ⊢
  have hl : lv_has ls 1 [(0, .int (nI y))] := hl
  refine lv_iload_n hx hb dX9_isLeap_0 rfl (lv_at hl 0 rfl) ?_
  refine lv_iconst (v := 4) hx hb dX9_isLeap_1 (by decide) ?_
  refine lv_irem hx hb dX9_isLeap_2 (by decide) ?_
  refine cst (v := nI (y % 4)) (pk_rem (a := y) (d := 4) (by omega) (by omega) (by omega)) ?_
  refine lv_if_ne (tgt := 25) hx hb dX9_isLeap_3 (by decide) (fun c3_1 => ?_) (fun c3_1 => ?_)
  · have c3_1 : ¬ (((y % 4 : Nat) : Int) = 0) := mt (cv_eq (nI_toInt (by omega)) (by decide)).mpr c3_1
    refine lv_iconst (v := 0) hx hb dX9_isLeap_25 (by decide) ?_
    exact W.zret (v := 0) hx hb hr rfl (fun t ht hW => ⟨0, rfl, (by first | exact Or.inl ⟨lpB_iff.mpr (by omega), rfl⟩ | exact Or.inr ⟨by rw [Bool.eq_false_iff]; exact fun q => absurd (lpB_iff.mp q) (by omega), rfl⟩), ht⟩) (fun _ h => absurd h List.not_mem_nil) dX9_isLeap_26
  · have c3_1 : ((y % 4 : Nat) : Int) = 0 := (cv_eq (nI_toInt (by omega)) (by decide)).mp c3_1
    refine lv_iload_n hx hb dX9_isLeap_6 rfl (lv_at hl 0 rfl) ?_
    refine lv_bipush (v := 100) hx hb dX9_isLeap_7 (by decide) ?_
    refine lv_irem hx hb dX9_isLeap_9 (by decide) ?_
    refine cst (v := nI (y % 100)) (pk_rem (a := y) (d := 100) (by omega) (by omega) (by omega)) ?_
    refine lv_if_ne (tgt := 21) hx hb dX9_isLeap_10 (by decide) (fun c10_2 => ?_) (fun c10_2 => ?_)
    · have c10_2 : ¬ (((y % 100 : Nat) : Int) = 0) := mt (cv_eq (nI_toInt (by omega)) (by decide)).mpr c10_2
      refine lv_iconst (v := 1) hx hb dX9_isLeap_21 (by decide) ?_
      refine lv_goto (tgt := 26) hx hb dX9_isLeap_22 (by decide) ?_
      exact W.zret (v := 1) hx hb hr rfl (fun t ht hW => ⟨1, rfl, (by first | exact Or.inl ⟨lpB_iff.mpr (by omega), rfl⟩ | exact Or.inr ⟨by rw [Bool.eq_false_iff]; exact fun q => absurd (lpB_iff.mp q) (by omega), rfl⟩), ht⟩) (fun _ h => absurd h List.not_mem_nil) dX9_isLeap_26
    · have c10_2 : ((y % 100 : Nat) : Int) = 0 := (cv_eq (nI_toInt (by omega)) (by decide)).mp c10_2
      refine lv_iload_n hx hb dX9_isLeap_13 rfl (lv_at hl 0 rfl) ?_
      refine lv_sipush (v := 400) hx hb dX9_isLeap_14 (by decide) ?_
      refine lv_irem hx hb dX9_isLeap_17 (by decide) ?_
      refine cst (v := nI (y % 400)) (pk_rem (a := y) (d := 400) (by omega) (by omega) (by omega)) ?_
      refine lv_if_ne (tgt := 25) hx hb dX9_isLeap_18 (by decide) (fun c18_3 => ?_) (fun c18_3 => ?_)
      · have c18_3 : ¬ (((y % 400 : Nat) : Int) = 0) := mt (cv_eq (nI_toInt (by omega)) (by decide)).mpr c18_3
        refine lv_iconst (v := 0) hx hb dX9_isLeap_25 (by decide) ?_
        exact W.zret (v := 0) hx hb hr rfl (fun t ht hW => ⟨0, rfl, (by first | exact Or.inl ⟨lpB_iff.mpr (by omega), rfl⟩ | exact Or.inr ⟨by rw [Bool.eq_false_iff]; exact fun q => absurd (lpB_iff.mp q) (by omega), rfl⟩), ht⟩) (fun _ h => absurd h List.not_mem_nil) dX9_isLeap_26
      · have c18_3 : ((y % 400 : Nat) : Int) = 0 := (cv_eq (nI_toInt (by omega)) (by decide)).mp c18_3
        refine lv_iconst (v := 1) hx hb dX9_isLeap_21 (by decide) ?_
        refine lv_goto (tgt := 26) hx hb dX9_isLeap_22 (by decide) ?_
        exact W.zret (v := 1) hx hb hr rfl (fun t ht hW => ⟨1, rfl, (by first | exact Or.inl ⟨lpB_iff.mpr (by omega), rfl⟩ | exact Or.inr ⟨by rw [Bool.eq_false_iff]; exact fun q => absurd (lpB_iff.mp q) (by omega), rfl⟩), ht⟩) (fun _ h => absurd h List.not_mem_nil) dX9_isLeap_26
set_option maxHeartbeats 4000000 in
set_option maxRecDepth 100000 in
theorem c_di (l : Launch) (dC : Nat → ClassId) (dI : Nat → Nat → Nat) (g : Gv) (y : Nat) (mo : Nat) (hy : y < 3000) (hm1 : 1 ≤ mo) (hm2 : mo ≤ 12) : Met l yX9_daysIn (.code yX9_daysIn cX9_daysIn 2 (some .int) :: TBL) ({ frames := 1, cells := 0, slots := 0, locals := 40 }) (va_Pc [.int (nI y), .int (nI mo)] (fun U => va_P (dC, dI) vwCl [] U.heap ∧ va_K (dC, dI) vwCl [] U ∧ Ev g (fun _ => False) U)) (vp_Si (fun r => r = nI (mlN y mo))) 0 0 (fun _ => False) := by
  refine Met.ofW (cc := cX9_daysIn) (maxL := 2) (ret := (some .int)) (by decide) rfl ?_
  intro p e s m args below meth c s₁ B hml hv
  obtain ⟨rfl, hP, hK, hE⟩ := hv
  have hx := B.exec
  have hb := B.bytes
  have hr := B.returns
  have hts0 := atoms_spec (ws := (.code yX9_daysIn cX9_daysIn 2 (some .int) :: TBL)) B.pre
  have hts := fun (w : Cond) (h : w ∈ TBL) => hts0 w (List.mem_cons_of_mem _ h)
  have hown : s.vm.findClass RX9 = some m.cls := findClass_of_methodNamed B.named
  have hlocks := B.notSynchronized
  have hN := hE.1
  have hS : va_S (fun _ => False) s.heap s.heap [] := va_S.rf
  have hP : va_P (dC, dI) vwCl [] s.heap := hP
  have hl := lv_entry ([.int (nI y), .int (nI mo)]) (n := 2) (Nat.le_of_ble_eq_true rfl)
  rw [lg_entry_eq]
  generalize (lg_sl ([.int (nI y), .int (nI mo)]) ++ List.replicate (2 - (lg_sl ([.int (nI y), .int (nI mo)])).length) Slot.unset).toArray = ls at hl ⊢
  have hl : lv_has ls 2 [(0, .int (nI y)), (1, .int (nI mo))] := hl
  refine lv_iload_n hx hb dX9_daysIn_0 rfl (lv_at hl 1 rfl) ?_
  refine lv_iconst (v := 2) hx hb dX9_daysIn_1 (by decide) ?_
  refine lv_icmp_ne (tgt := 22) hx hb dX9_daysIn_2 (by decide) (fun c2_1 => ?_) (fun c2_1 => ?_)
  · have c2_1 : ¬ (((mo : Nat) : Int) = 2) := mt (cv_eq (nI_toInt (by omega)) (by decide)).mpr c2_1
    refine lv_iload_n hx hb dX9_daysIn_22 rfl (lv_at hl 1 rfl) ?_
    refine lv_iconst (v := 4) hx hb dX9_daysIn_23 (by decide) ?_
    refine lv_icmp_eq (tgt := 45) hx hb dX9_daysIn_24 (by decide) (fun c24_2 => ?_) (fun c24_2 => ?_)
    · have c24_2 : ((mo : Nat) : Int) = 4 := (cv_eq (nI_toInt (by omega)) (by decide)).mp c24_2
      refine lv_bipush (v := 30) hx hb dX9_daysIn_45 (by decide) ?_
      refine lv_goto (tgt := 52) hx hb dX9_daysIn_47 (by decide) ?_
      exact W.iret (v := 30) hx hb hr (fun t ht hW => ⟨30, rfl, (by first | exact di_c (by omega) | exact di_d (by omega) (by omega)), ht⟩) (fun _ h => absurd h List.not_mem_nil) dX9_daysIn_52
    · have c24_2 : ¬ (((mo : Nat) : Int) = 4) := mt (cv_eq (nI_toInt (by omega)) (by decide)).mpr c24_2
      refine lv_iload_n hx hb dX9_daysIn_27 rfl (lv_at hl 1 rfl) ?_
      refine lv_bipush (v := 6) hx hb dX9_daysIn_28 (by decide) ?_
      refine lv_icmp_eq (tgt := 45) hx hb dX9_daysIn_30 (by decide) (fun c30_3 => ?_) (fun c30_3 => ?_)
      · have c30_3 : ((mo : Nat) : Int) = 6 := (cv_eq (nI_toInt (by omega)) (by decide)).mp c30_3
        refine lv_bipush (v := 30) hx hb dX9_daysIn_45 (by decide) ?_
        refine lv_goto (tgt := 52) hx hb dX9_daysIn_47 (by decide) ?_
        exact W.iret (v := 30) hx hb hr (fun t ht hW => ⟨30, rfl, (by first | exact di_c (by omega) | exact di_d (by omega) (by omega)), ht⟩) (fun _ h => absurd h List.not_mem_nil) dX9_daysIn_52
      · have c30_3 : ¬ (((mo : Nat) : Int) = 6) := mt (cv_eq (nI_toInt (by omega)) (by decide)).mpr c30_3
        refine lv_iload_n hx hb dX9_daysIn_33 rfl (lv_at hl 1 rfl) ?_
        refine lv_bipush (v := 9) hx hb dX9_daysIn_34 (by decide) ?_
        refine lv_icmp_eq (tgt := 45) hx hb dX9_daysIn_36 (by decide) (fun c36_4 => ?_) (fun c36_4 => ?_)
        · have c36_4 : ((mo : Nat) : Int) = 9 := (cv_eq (nI_toInt (by omega)) (by decide)).mp c36_4
          refine lv_bipush (v := 30) hx hb dX9_daysIn_45 (by decide) ?_
          refine lv_goto (tgt := 52) hx hb dX9_daysIn_47 (by decide) ?_
          exact W.iret (v := 30) hx hb hr (fun t ht hW => ⟨30, rfl, (by first | exact di_c (by omega) | exact di_d (by omega) (by omega)), ht⟩) (fun _ h => absurd h List.not_mem_nil) dX9_daysIn_52
        · have c36_4 : ¬ (((mo : Nat) : Int) = 9) := mt (cv_eq (nI_toInt (by omega)) (by decide)).mpr c36_4
          refine lv_iload_n hx hb dX9_daysIn_39 rfl (lv_at hl 1 rfl) ?_
          refine lv_bipush (v := 11) hx hb dX9_daysIn_40 (by decide) ?_
          refine lv_icmp_ne (tgt := 50) hx hb dX9_daysIn_42 (by decide) (fun c42_5 => ?_) (fun c42_5 => ?_)
          · have c42_5 : ¬ (((mo : Nat) : Int) = 11) := mt (cv_eq (nI_toInt (by omega)) (by decide)).mpr c42_5
            refine lv_bipush (v := 31) hx hb dX9_daysIn_50 (by decide) ?_
            exact W.iret (v := 31) hx hb hr (fun t ht hW => ⟨31, rfl, (by first | exact di_c (by omega) | exact di_d (by omega) (by omega)), ht⟩) (fun _ h => absurd h List.not_mem_nil) dX9_daysIn_52
          · have c42_5 : ((mo : Nat) : Int) = 11 := (cv_eq (nI_toInt (by omega)) (by decide)).mp c42_5
            refine lv_bipush (v := 30) hx hb dX9_daysIn_45 (by decide) ?_
            refine lv_goto (tgt := 52) hx hb dX9_daysIn_47 (by decide) ?_
            exact W.iret (v := 30) hx hb hr (fun t ht hW => ⟨30, rfl, (by first | exact di_c (by omega) | exact di_d (by omega) (by omega)), ht⟩) (fun _ h => absurd h List.not_mem_nil) dX9_daysIn_52
  · have c2_1 : ((mo : Nat) : Int) = 2 := (cv_eq (nI_toInt (by omega)) (by decide)).mp c2_1
    refine lv_iload_n hx hb dX9_daysIn_5 rfl (lv_at hl 0 rfl) ?_
    have hPc := hP.sub (ws' := []) [] rfl
    have hKc := hK.sub (tys' := []) [] rfl
    refine vp_callSi ((va_runS (As := [.int (nI y)]) (rest := []) ⟨hx, hb, hml, hown, hts⟩ (c_lp l dC dI g (y) (by omega)) (va_cwS 1 hts (gwS qw_387 qw_388 qw_386 qw_385) rfl rfl rfl (by decide +kernel) ⟨Nat.le_of_ble_eq_true rfl, Nat.le_of_ble_eq_true rfl⟩) ⟨fun a U g9 mk q => ⟨q.1, q.2.1, va_K.moved (u := U) (U := U.calling g9 mk a) (Vm.Alike.refl U.vm) q.2.2.1, Ev.bl q.2.2.2⟩, fun U hU hW => ⟨rfl, by rw [hU]; exact hPc, va_K.moved hW.alike hKc, hE.go hS (fun _ h => h.elim) hU hW⟩⟩ rfl rfl hl.1 rfl (lv_room (Nat.le_of_ble_eq_true rfl)) dX9_daysIn_6 ⟨Nat.le_of_ble_eq_true rfl, Nat.le_of_ble_eq_true rfl⟩)).run (fun r6 h_r6 => ?_)
    rcases h_r6 with ⟨hq7, rfl⟩ | ⟨hq7, rfl⟩
    · refine lv_if_eq (tgt := 17) hx hb dX9_daysIn_9 (by decide) (fun c9_8 => by exfalso; exact absurd c9_8 (by decide)) (fun c9_8 => ?_)
      refine lv_bipush (v := 29) hx hb dX9_daysIn_12 (by decide) ?_
      refine lv_goto (tgt := 52) hx hb dX9_daysIn_14 (by decide) ?_
      exact W.iret (v := 29) hx hb hr (fun t ht hW => ⟨29, rfl, (di_a (by omega) hq7), ht⟩) (fun _ h => absurd h List.not_mem_nil) dX9_daysIn_52
    · refine lv_if_eq (tgt := 17) hx hb dX9_daysIn_9 (by decide) (fun c9_9 => ?_) (fun c9_9 => by exfalso; exact absurd c9_9 (by decide))
      refine lv_bipush (v := 28) hx hb dX9_daysIn_17 (by decide) ?_
      refine lv_goto (tgt := 52) hx hb dX9_daysIn_19 (by decide) ?_
      exact W.iret (v := 28) hx hb hr (fun t ht hW => ⟨28, rfl, (di_b (by omega) hq7), ht⟩) (fun _ h => absurd h List.not_mem_nil) dX9_daysIn_52
set_option maxHeartbeats 4000000 in
set_option maxRecDepth 100000 in
theorem c_fo (l : Launch) (dC : Nat → ClassId) (dI : Nat → Nat → Nat) (g : Gv) (k : Nat) (hk : k < 600) : Met l yX9_firstOf (.code yX9_firstOf cX9_firstOf 3 (some .int) :: TBL) ({ frames := 1, cells := 0, slots := 0, locals := 40 }) (va_Pc [.int (nI (1700 + k))] (fun U => va_P (dC, dI) vwCl [] U.heap ∧ va_K (dC, dI) vwCl [] U ∧ Ev g (fun _ => False) U)) (vp_Si (fun r => r = nI (Fk k))) 0 0 (fun _ => False) := by
  refine Met.ofW (cc := cX9_firstOf) (maxL := 3) (ret := (some .int)) (by decide) rfl ?_
  intro p e s m args below meth c s₁ B hml hv
  obtain ⟨rfl, hP, hK, hE⟩ := hv
  have hx := B.exec
  have hb := B.bytes
  have hr := B.returns
  have hts0 := atoms_spec (ws := (.code yX9_firstOf cX9_firstOf 3 (some .int) :: TBL)) B.pre
  have hts := fun (w : Cond) (h : w ∈ TBL) => hts0 w (List.mem_cons_of_mem _ h)
  have hown : s.vm.findClass RX9 = some m.cls := findClass_of_methodNamed B.named
  have hlocks := B.notSynchronized
  have hN := hE.1
  have hS : va_S (fun _ => False) s.heap s.heap [] := va_S.rf
  have hP : va_P (dC, dI) vwCl [] s.heap := hP
  have hl := lv_entry ([.int (nI (1700 + k))]) (n := 3) (Nat.le_of_ble_eq_true rfl)
  rw [lg_entry_eq]
  generalize (lg_sl ([.int (nI (1700 + k))]) ++ List.replicate (3 - (lg_sl ([.int (nI (1700 + k))])).length) Slot.unset).toArray = ls at hl ⊢
  have hl : lv_has ls 3 [(0, .int (nI (1700 + k)))] := hl
  refine lv_iconst (v := 0) hx hb dX9_firstOf_0 (by decide) ?_
  refine lv_istore_n (lv' := [(1, .int 0), (0, .int (nI (1700 + k)))]) hx hb dX9_firstOf_1 rfl hl (by decide) rfl (fun ls hl => ?_)
  refine lv_sipush (v := 1700) hx hb dX9_firstOf_2 (by decide) ?_
  refine lv_istore_n (lv' := [(2, .int 1700), (1, .int 0), (0, .int (nI (1700 + k)))]) hx hb dX9_firstOf_5 rfl hl (by decide) rfl (fun ls hl => ?_)
  refine wloop (fun n H locs ls => ∃ (j : Nat), n = k - j ∧ (j ≤ k) ∧ lv_has ls 3 [(0, .int (nI (1700 + k))), (1, .int (nI (Fk j))), (2, .int (nI (1700 + j)))] ∧ H = s.heap ∧ locs = []) ?_ (k - (0)) _ _ _ ⟨0, rfl, (by omega), lv_sub hl [2, 1, 0] rfl, rfl, rfl⟩
  intro n H locs ls hI ih
  obtain ⟨j, hn9, j2, hl, rfl, rfl⟩ := hI
  refine lv_iload_n hx hb dX9_firstOf_6 rfl (lv_at hl 2 rfl) ?_
  refine lv_iload_n hx hb dX9_firstOf_7 rfl (lv_at hl 0 rfl) ?_
  refine lv_icmp_ge (tgt := 36) hx hb dX9_firstOf_8 (by decide) (fun c8_1 => ?_) (fun c8_1 => ?_)
  · have c8_1 : ((1700 + k : Nat) : Int) ≤ ((1700 + j : Nat) : Int) := (cv_le (nI_toInt (by omega)) (nI_toInt (by omega))).mp c8_1
    refine lv_iload_n hx hb dX9_firstOf_36 rfl (lv_at hl 1 rfl) ?_
    exact W.iret (v := (nI (Fk j))) hx hb hr (fun t ht hW => ⟨(nI (Fk j)), rfl, (by rw [show j = k by omega]), ht⟩) (fun _ h => absurd h List.not_mem_nil) dX9_firstOf_37
  · have c8_1 : ¬ (((1700 + k : Nat) : Int) ≤ ((1700 + j : Nat) : Int)) := mt (cv_le (nI_toInt (by omega)) (nI_toInt (by omega))).mpr c8_1
    refine lv_iload_n hx hb dX9_firstOf_11 rfl (lv_at hl 1 rfl) ?_
    refine lv_iload_n hx hb dX9_firstOf_12 rfl (lv_at hl 2 rfl) ?_
    have hPc := hP.sub (ws' := []) [] rfl
    have hKc := hK.sub (tys' := []) [] rfl
    refine vp_callSi ((va_runS (As := [.int (nI (1700 + j))]) (rest := [.int (nI (Fk j))]) ⟨hx, hb, hml, hown, hts⟩ (c_lp l dC dI g (1700 + j) (by omega)) (va_cwS 1 hts (gwS qw_387 qw_388 qw_386 qw_385) rfl rfl rfl (by decide +kernel) ⟨Nat.le_of_ble_eq_true rfl, Nat.le_of_ble_eq_true rfl⟩) ⟨fun a U g9 mk q => ⟨q.1, q.2.1, va_K.moved (u := U) (U := U.calling g9 mk a) (Vm.Alike.refl U.vm) q.2.2.1, Ev.bl q.2.2.2⟩, fun U hU hW => ⟨rfl, by rw [hU]; exact hPc, va_K.moved hW.alike hKc, hE.go hS (fun _ h => h.elim) hU hW⟩⟩ rfl rfl hl.1 rfl (lv_room (Nat.le_of_ble_eq_true rfl)) dX9_firstOf_13 ⟨Nat.le_of_ble_eq_true rfl, Nat.le_of_ble_eq_true rfl⟩)).run (fun r2 h_r2 => ?_)
    rcases h_r2 with ⟨hq3, rfl⟩ | ⟨hq3, rfl⟩
    · refine lv_if_eq (tgt := 25) hx hb dX9_firstOf_16 (by decide) (fun c16_4 => by exfalso; exact absurd c16_4 (by decide)) (fun c16_4 => ?_)
      refine lv_sipush (v := 366) hx hb dX9_firstOf_19 (by decide) ?_
      refine lv_goto (tgt := 28) hx hb dX9_firstOf_22 (by decide) ?_
      refine lv_iadd hx hb dX9_firstOf_28 ?_
      refine cst (v := nI (Fk (j + 1))) (fo_1 (by omega) hq3) ?_
      refine lv_istore_n (lv' := [(1, .int (nI (Fk (j + 1)))), (0, .int (nI (1700 + k))), (2, .int (nI (1700 + j)))]) hx hb dX9_firstOf_29 rfl hl (by decide) rfl (fun ls hl => ?_)
      refine lv_iinc (v := (nI (1700 + j + 1))) (lv' := [(2, .int (nI (1700 + j + 1))), (1, .int (nI (Fk (j + 1)))), (0, .int (nI (1700 + k)))]) hx hb dX9_firstOf_30 hl (k := 2) rfl (nI_add (1700 + j) 1) (by decide) rfl (fun ls hl => ?_)
      refine lv_goto (tgt := 6) hx hb dX9_firstOf_33 (by decide) ?_
      exact ih (k - (j + 1)) _ _ _ (by omega) ⟨j + 1, rfl, (by omega), lv_sub hl [2, 1, 0] rfl, rfl, rfl⟩
    · refine lv_if_eq (tgt := 25) hx hb dX9_firstOf_16 (by decide) (fun c16_5 => ?_) (fun c16_5 => by exfalso; exact absurd c16_5 (by decide))
      refine lv_sipush (v := 365) hx hb dX9_firstOf_25 (by decide) ?_
      refine lv_iadd hx hb dX9_firstOf_28 ?_
      refine cst (v := nI (Fk (j + 1))) (fo_0 (by omega) hq3) ?_
      refine lv_istore_n (lv' := [(1, .int (nI (Fk (j + 1)))), (0, .int (nI (1700 + k))), (2, .int (nI (1700 + j)))]) hx hb dX9_firstOf_29 rfl hl (by decide) rfl (fun ls hl => ?_)
      refine lv_iinc (v := (nI (1700 + j + 1))) (lv' := [(2, .int (nI (1700 + j + 1))), (1, .int (nI (Fk (j + 1)))), (0, .int (nI (1700 + k)))]) hx hb dX9_firstOf_30 hl (k := 2) rfl (nI_add (1700 + j) 1) (by decide) rfl (fun ls hl => ?_)
      refine lv_goto (tgt := 6) hx hb dX9_firstOf_33 (by decide) ?_
      exact ih (k - (j + 1)) _ _ _ (by omega) ⟨j + 1, rfl, (by omega), lv_sub hl [2, 1, 0] rfl, rfl, rfl⟩
set_option maxHeartbeats 4000000 in
set_option maxRecDepth 100000 in
theorem c_do (l : Launch) (dC : Nat → ClassId) (dI : Nat → Nat → Nat) (g : Gv) (k : Nat) (mo : Nat) (d : Nat) (hk : k < 600) (hm1 : 1 ≤ mo) (hm2 : mo ≤ 12) (hd1 : 1 ≤ d) (hd2 : d ≤ 31) : Met l yX9_dayOf (.code yX9_dayOf cX9_dayOf 5 (some .int) :: TBL) ({ frames := 2, cells := 0, slots := 0, locals := 80 }) (va_Pc [.int (nI (1700 + k)), .int (nI mo), .int (nI d)] (fun U => va_P (dC, dI) vwCl [] U.heap ∧ va_K (dC, dI) vwCl [] U ∧ Ev g (fun _ => False) U)) (vp_Si (fun r => r = nI (Fk k + Mk (1700 + k) mo + d - 1))) 0 0 (fun _ => False) := by
  refine Met.ofW (cc := cX9_dayOf) (maxL := 5) (ret := (some .int)) (by decide) rfl ?_
  intro p e s m args below meth c s₁ B hml hv
  obtain ⟨rfl, hP, hK, hE⟩ := hv
  have hx := B.exec
  have hb := B.bytes
  have hr := B.returns
  have hts0 := atoms_spec (ws := (.code yX9_dayOf cX9_dayOf 5 (some .int) :: TBL)) B.pre
  have hts := fun (w : Cond) (h : w ∈ TBL) => hts0 w (List.mem_cons_of_mem _ h)
  have hown : s.vm.findClass RX9 = some m.cls := findClass_of_methodNamed B.named
  have hlocks := B.notSynchronized
  have hN := hE.1
  have hS : va_S (fun _ => False) s.heap s.heap [] := va_S.rf
  have hP : va_P (dC, dI) vwCl [] s.heap := hP
  have hl := lv_entry ([.int (nI (1700 + k)), .int (nI mo), .int (nI d)]) (n := 5) (Nat.le_of_ble_eq_true rfl)
  rw [lg_entry_eq]
  generalize (lg_sl ([.int (nI (1700 + k)), .int (nI mo), .int (nI d)]) ++ List.replicate (5 - (lg_sl ([.int (nI (1700 + k)), .int (nI mo), .int (nI d)])).length) Slot.unset).toArray = ls at hl ⊢
  have hl : lv_has ls 5 [(0, .int (nI (1700 + k))), (1, .int (nI mo)), (2, .int (nI d))] := hl
  have hb2 := Fk_b (k := k) (by omega)
  refine lv_iload_n hx hb dX9_dayOf_0 rfl (lv_at hl 0 rfl) ?_
  have hPc := hP.sub (ws' := []) [] rfl
  have hKc := hK.sub (tys' := []) [] rfl
  refine vp_callSi ((va_runS (As := [.int (nI (1700 + k))]) (rest := []) ⟨hx, hb, hml, hown, hts⟩ (c_fo l dC dI g (k) hk) (va_cwS 1 hts (gwS qw_390 qw_391 qw_386 qw_389) rfl rfl rfl (by decide +kernel) ⟨Nat.le_of_ble_eq_true rfl, Nat.le_of_ble_eq_true rfl⟩) ⟨fun a U g9 mk q => ⟨q.1, q.2.1, va_K.moved (u := U) (U := U.calling g9 mk a) (Vm.Alike.refl U.vm) q.2.2.1, Ev.bl q.2.2.2⟩, fun U hU hW => ⟨rfl, by rw [hU]; exact hPc, va_K.moved hW.alike hKc, hE.go hS (fun _ h => h.elim) hU hW⟩⟩ rfl rfl hl.1 rfl (lv_room (Nat.le_of_ble_eq_true rfl)) dX9_dayOf_1 ⟨Nat.le_of_ble_eq_true rfl, Nat.le_of_ble_eq_true rfl⟩)).run (fun r1 h_r1 => ?_)
  have h_r1 : r1 = nI (Fk k) := h_r1
  subst h_r1
  refine lv_iload_n hx hb dX9_dayOf_4 rfl (lv_at hl 2 rfl) ?_
  refine lv_iadd hx hb dX9_dayOf_5 ?_
  refine cst (v := nI ((Fk k) + d)) (nI_add (Fk k) d) ?_
  refine lv_iconst (v := 1) hx hb dX9_dayOf_6 (by decide) ?_
  refine lv_isub hx hb dX9_dayOf_7 ?_
  refine cst (v := nI (Fk k + d - 1)) (pk_sub (a := Fk k + d) (b := 1) (by omega)) ?_
  refine lv_istore_n (lv' := [(3, .int (nI (Fk k + d - 1))), (0, .int (nI (1700 + k))), (1, .int (nI mo)), (2, .int (nI d))]) hx hb dX9_dayOf_8 rfl hl (by decide) rfl (fun ls hl => ?_)
  refine lv_iconst (v := 1) hx hb dX9_dayOf_9 (by decide) ?_
  refine lv_istore (lv' := [(4, .int 1), (3, .int (nI (Fk k + d - 1))), (0, .int (nI (1700 + k))), (1, .int (nI mo)), (2, .int (nI d))]) hx hb dX9_dayOf_10 hl (by decide) rfl (fun ls hl => ?_)
  refine wloop (fun n H locs ls => ∃ (j : Nat), n = mo - j ∧ (1 ≤ j) ∧ (j ≤ mo) ∧ lv_has ls 5 [(0, .int (nI (1700 + k))), (1, .int (nI mo)), (2, .int (nI d)), (3, .int (nI (Fk k + d - 1 + Mk (1700 + k) j))), (4, .int (nI j))] ∧ H = s.heap ∧ locs = []) ?_ (mo - (1)) _ _ _ ⟨1, rfl, (by omega), (by omega), lv_sub hl [2, 3, 4, 1, 0] rfl, rfl, rfl⟩
  intro n H locs ls hI ih
  obtain ⟨j, hn9, j1, j2, hl, rfl, rfl⟩ := hI
  refine lv_iload hx hb dX9_dayOf_12 (lv_at hl 4 rfl) ?_
  refine lv_iload_n hx hb dX9_dayOf_14 rfl (lv_at hl 1 rfl) ?_
  refine lv_icmp_ge (tgt := 33) hx hb dX9_dayOf_15 (by decide) (fun c15_2 => ?_) (fun c15_2 => ?_)
  · have c15_2 : ((mo : Nat) : Int) ≤ ((j : Nat) : Int) := (cv_le (nI_toInt (by omega)) (nI_toInt (by omega))).mp c15_2
    refine lv_iload_n hx hb dX9_dayOf_33 rfl (lv_at hl 3 rfl) ?_
    exact W.iret (v := (nI (Fk k + d - 1 + Mk (1700 + k) j))) hx hb hr (fun t ht hW => ⟨(nI (Fk k + d - 1 + Mk (1700 + k) j)), rfl, (by rw [show j = mo by omega]; congr 1; omega), ht⟩) (fun _ h => absurd h List.not_mem_nil) dX9_dayOf_34
  · have c15_2 : ¬ (((mo : Nat) : Int) ≤ ((j : Nat) : Int)) := mt (cv_le (nI_toInt (by omega)) (nI_toInt (by omega))).mpr c15_2
    refine lv_iload_n hx hb dX9_dayOf_18 rfl (lv_at hl 3 rfl) ?_
    refine lv_iload_n hx hb dX9_dayOf_19 rfl (lv_at hl 0 rfl) ?_
    refine lv_iload hx hb dX9_dayOf_20 (lv_at hl 4 rfl) ?_
    have hPc := hP.sub (ws' := []) [] rfl
    have hKc := hK.sub (tys' := []) [] rfl
    refine vp_callSi ((va_runS (As := [.int (nI (1700 + k)), .int (nI j)]) (rest := [.int (nI (Fk k + d - 1 + Mk (1700 + k) j))]) ⟨hx, hb, hml, hown, hts⟩ (c_di l dC dI g (1700 + k) (j) (by omega) (by omega) (by omega)) (va_cwS 2 hts (gwS qw_393 qw_394 qw_386 qw_392) rfl rfl rfl (by decide +kernel) ⟨Nat.le_of_ble_eq_true rfl, Nat.le_of_ble_eq_true rfl⟩) ⟨fun a U g9 mk q => ⟨q.1, q.2.1, va_K.moved (u := U) (U := U.calling g9 mk a) (Vm.Alike.refl U.vm) q.2.2.1, Ev.bl q.2.2.2⟩, fun U hU hW => ⟨rfl, by rw [hU]; exact hPc, va_K.moved hW.alike hKc, hE.go hS (fun _ h => h.elim) hU hW⟩⟩ rfl rfl hl.1 rfl (lv_room (Nat.le_of_ble_eq_true rfl)) dX9_dayOf_22 ⟨Nat.le_of_ble_eq_true rfl, Nat.le_of_ble_eq_true rfl⟩)).run (fun r3 h_r3 => ?_)
    have h_r3 : r3 = nI (mlN (1700 + k) j) := h_r3
    subst h_r3
    refine lv_iadd hx hb dX9_dayOf_25 ?_
    refine cst (v := nI (Fk k + d - 1 + Mk (1700 + k) (j + 1))) (by rw [nI_add, Nat.add_assoc, ← Mk_s j1]) ?_
    refine lv_istore_n (lv' := [(3, .int (nI (Fk k + d - 1 + Mk (1700 + k) (j + 1)))), (0, .int (nI (1700 + k))), (1, .int (nI mo)), (2, .int (nI d)), (4, .int (nI j))]) hx hb dX9_dayOf_26 rfl hl (by decide) rfl (fun ls hl => ?_)
    refine lv_iinc (v := (nI (j + 1))) (lv' := [(4, .int (nI (j + 1))), (3, .int (nI (Fk k + d - 1 + Mk (1700 + k) (j + 1)))), (0, .int (nI (1700 + k))), (1, .int (nI mo)), (2, .int (nI d))]) hx hb dX9_dayOf_27 hl (k := 4) rfl (nI_add (j) 1) (by decide) rfl (fun ls hl => ?_)
    refine lv_goto (tgt := 12) hx hb dX9_dayOf_30 (by decide) ?_
    exact ih (mo - (j + 1)) _ _ _ (by omega) ⟨j + 1, rfl, (by omega), (by omega), lv_sub hl [2, 3, 4, 1, 0] rfl, rfl, rfl⟩
set_option maxHeartbeats 4000000 in
set_option maxRecDepth 100000 in
theorem kv_daysIn (l : Launch) (dC : Nat → ClassId) (dI : Nat → Nat → Nat) (g : Gv) (a0 : Int32) (a1 : Int32) (hy : 1700 ≤ a0.toInt ∧ a0.toInt ≤ 2299) (hm : 1 ≤ a1.toInt ∧ a1.toInt ≤ 12) : Met l yX9_daysIn (.code yX9_daysIn cX9_daysIn 2 (some .int) :: TBL) ({ frames := 1, cells := 0, slots := 0, locals := 40 }) (va_Pc [.int a0, .int a1] (fun U => va_P (dC, dI) vwCl [] U.heap ∧ va_K (dC, dI) vwCl [] U ∧ Ev g (fun _ => False) U)) (vp_Si (fun (r : Int32) => (r = nI (mlN a0.toInt.toNat a1.toInt.toNat)))) 0 0 (fun _ => False) := by
  obtain ⟨k, hk, rfl⟩ := i32n 1700 2299 hy (by omega)
  obtain ⟨mo, hmo, rfl⟩ := i32z 12 ⟨by omega, hm.2⟩ (by omega)
  rw [nI_toInt (by omega)] at hm
  have hb := mlN_b (1700 + k) mo
  rw [nIt (by omega), nIt (by omega)]
  exact c_di l dC dI g (1700 + k) mo (by omega) (by omega) hmo
set_option maxHeartbeats 4000000 in
set_option maxRecDepth 100000 in
theorem kv_dayOf (l : Launch) (dC : Nat → ClassId) (dI : Nat → Nat → Nat) (g : Gv) (a0 : Int32) (a1 : Int32) (a2 : Int32) (hy : 1700 ≤ a0.toInt ∧ a0.toInt ≤ 2299) (hm : 1 ≤ a1.toInt ∧ a1.toInt ≤ 12) (hd : 1 ≤ a2.toInt ∧ a2.toInt ≤ 31) : Met l yX9_dayOf (.code yX9_dayOf cX9_dayOf 5 (some .int) :: TBL) ({ frames := 2, cells := 0, slots := 0, locals := 80 }) (va_Pc [.int a0, .int a1, .int a2] (fun U => va_P (dC, dI) vwCl [] U.heap ∧ va_K (dC, dI) vwCl [] U ∧ Ev g (fun _ => False) U)) (vp_Si (fun (r : Int32) => (r = dW a0 a1 a2))) 0 0 (fun _ => False) := by
  obtain ⟨k, hk, rfl⟩ := i32n 1700 2299 hy (by omega)
  obtain ⟨mo, hmo, rfl⟩ := i32z 12 ⟨by omega, hm.2⟩ (by omega)
  obtain ⟨d, hdd, rfl⟩ := i32z 31 ⟨by omega, hd.2⟩ (by omega)
  rw [nI_toInt (by omega)] at hm hd
  rw [dW_nI (by omega) hmo hdd]
  exact c_do l dC dI g k mo d (by omega) (by omega) hmo (by omega) (by omega)
set_option maxHeartbeats 4000000 in
set_option maxRecDepth 100000 in
theorem kv_X8_day (l : Launch) (dC : Nat → ClassId) (dI : Nat → Nat → Nat) (g : Gv) (a0 : Nat) (a1 : Int32) (a2 : Int32) (a3 : Int32)  : Met l yX8_day (.code yX8_day cX8_day 4 (some .int) :: TBL) ({ frames := 3, cells := 0, slots := 0, locals := 120 }) (va_Pc [.ref a0, .int a1, .int a2, .int a3] (fun U => va_P (dC, dI) vwCl [] U.heap ∧ va_K (dC, dI) vwCl [] U ∧ Ev g (fun _ => False) U)) (vp_Si (fun (r : Int32) => (r = dV a1 a2 a3))) 0 0 (fun _ => False) := by
  by_cases hy : 1700 ≤ a1.toInt ∧ a1.toInt ≤ 2299
  · obtain ⟨k, hk, e1⟩ := i32n 1700 2299 hy (by omega)
    by_cases hm : 1 ≤ a2.toInt ∧ a2.toInt ≤ 12
    · obtain ⟨mo, hm2, e2⟩ := i32z 12 ⟨by omega, hm.2⟩ (by omega)
      have hm1 : 1 ≤ mo := by have q := hm.1; rw [e2, nI_toInt (by omega)] at q; omega
      have hb := mlN_b (1700 + k) mo
      have hyt : a1.toInt.toNat = 1700 + k := by rw [e1]; exact nIt (by omega)
      have hmt : a2.toInt.toNat = mo := by rw [e2]; exact nIt (by omega)
      by_cases hd1 : a3.toInt < 1
      · rw [dV_no (by omega)]
        subst e1
        exact c_8day_C l dC dI g a0 k a2 a3 (by omega) hd1
      · by_cases hd2 : (mlN (1700 + k) mo : Int) < a3.toInt
        · rw [dV_no (by rw [hyt, hmt]; omega)]
          subst e1; subst e2
          exact c_8day_E l dC dI g a0 k mo a3 (by omega) hm1 hm2 hd2
        · rw [dV_ok (by rw [hyt, hmt]; omega)]
          obtain ⟨d, hd, e3⟩ := i32z (x := a3) 31 ⟨by omega, by omega⟩ (by omega)
          rw [e3, nI_toInt (by omega)] at hd1 hd2
          subst e1; subst e2; subst e3
          rw [dW_nI (by omega) hm2 hd]
          exact c_8day_A l dC dI g a0 k mo d (by omega) hm1 hm2 (by omega) (by omega)
    · rw [dV_no (by omega)]
      subst e1
      exact c_8day_D l dC dI g a0 k a2 a3 (by omega) hm
  · rw [dV_no (by omega)]
    exact c_8day_B l dC dI g a0 a1 a2 a3 hy
set_option maxHeartbeats 4000000 in
set_option maxRecDepth 100000 in
theorem kv_X9_day (l : Launch) (dC : Nat → ClassId) (dI : Nat → Nat → Nat) (g : Gv) (sz : Nat) (a0 : Nat) (a1 : Int32) (a2 : Int32) (a3 : Int32) (a0_0 : Int32) (a0_1 : Int32) (a0_2 : Int32) (a0_3 : Int32) (a0_4 : Nat) (a0_5 : Int32) (a0_6 : Int32) (a0_7 : Int32) (a0_8 : Int32) (a0_9 : Int32) (a0_10 : Int32) (a0_11 : Int64) (a0_12 : Int32) (a0_13 : Int32) (a0_14 : Int32) (a0_15 : Int32) (a0_16 : Int32) (a0_17 : Int32) (a0_18 : Nat) (a0_19 : Nat) (a0_20 : Nat) (a0_21 : Nat) (a0_22 : Nat) (a0_23 : Nat) (a0_24 : Nat) (a0_25 : Nat) (a0_26 : Nat) (a0_27 : Nat) (a0_28 : Nat) (a0_29 : Nat) (a0_30 : Nat) (a0_31 : Nat) (a0_32 : Nat) (a0_33 : Nat) (a0_34 : Nat) (a0_35 : Nat) (a0_36 : Int64) (a0_37 : Int32) (a0_38 : Nat) (a0_39 : Nat) (a0_40 : Int32) (a0_41 : Nat) (a0_42 : Nat) (a0_43 : Nat) (h_a0_5 : 0 ≤ a0_5.toInt ∧ a0_5.toInt ≤ 1000) (h_a0_6 : 0 ≤ a0_6.toInt ∧ a0_6.toInt ≤ 1000) (h_a0_7 : 0 ≤ a0_7.toInt ∧ a0_7.toInt ≤ 1000) (h_a0_8 : 0 ≤ a0_8.toInt ∧ a0_8.toInt ≤ 1000) (h_a0_17 : 0 ≤ a0_17.toInt ∧ a0_17.toInt ≤ 1) (h_a0_37 : (-1) ≤ a0_37.toInt ∧ a0_37.toInt ≤ 23) (h_a0_40 : 0 ≤ a0_40.toInt ∧ a0_40.toInt ≤ 12) : Met l yX9_day (.code yX9_day cX9_day 4 (some .int) :: TBL) ({ frames := 3, cells := 0, slots := 0, locals := 104 }) (va_Pc [.ref a0, .int a1, .int a2, .int a3] (fun U => U.heap.size = sz ∧ va_P (dC, dI) vwCl [(a0, .inr (8, [.int a0_0, .int a0_1, .int a0_2, .int a0_3, .ref a0_4, .int a0_5, .int a0_6, .int a0_7, .int a0_8, .int a0_9, .int a0_10, .long a0_11, .int a0_12, .int a0_13, .int a0_14, .int a0_15, .int a0_16, .int a0_17, .ref a0_18, .ref a0_19, .ref a0_20, .ref a0_21, .ref a0_22, .ref a0_23, .ref a0_24, .ref a0_25, .ref a0_26, .ref a0_27, .ref a0_28, .ref a0_29, .ref a0_30, .ref a0_31, .ref a0_32, .ref a0_33, .ref a0_34, .ref a0_35, .long a0_36, .int a0_37, .ref a0_38, .ref a0_39, .int a0_40, .ref a0_41, .ref a0_42, .ref a0_43]))] U.heap ∧ va_K (dC, dI) vwCl [] U ∧ va_D (fun _ => True) [(a0, .inr (8, [.int a0_0, .int a0_1, .int a0_2, .int a0_3, .ref a0_4, .int a0_5, .int a0_6, .int a0_7, .int a0_8, .int a0_9, .int a0_10, .long a0_11, .int a0_12, .int a0_13, .int a0_14, .int a0_15, .int a0_16, .int a0_17, .ref a0_18, .ref a0_19, .ref a0_20, .ref a0_21, .ref a0_22, .ref a0_23, .ref a0_24, .ref a0_25, .ref a0_26, .ref a0_27, .ref a0_28, .ref a0_29, .ref a0_30, .ref a0_31, .ref a0_32, .ref a0_33, .ref a0_34, .ref a0_35, .long a0_36, .int a0_37, .ref a0_38, .ref a0_39, .int a0_40, .ref a0_41, .ref a0_42, .ref a0_43]))] ∧ Ev g (va_A [(a0, .inr (8, [.int a0_0, .int a0_1, .int a0_2, .int a0_3, .ref a0_4, .int a0_5, .int a0_6, .int a0_7, .int a0_8, .int a0_9, .int a0_10, .long a0_11, .int a0_12, .int a0_13, .int a0_14, .int a0_15, .int a0_16, .int a0_17, .ref a0_18, .ref a0_19, .ref a0_20, .ref a0_21, .ref a0_22, .ref a0_23, .ref a0_24, .ref a0_25, .ref a0_26, .ref a0_27, .ref a0_28, .ref a0_29, .ref a0_30, .ref a0_31, .ref a0_32, .ref a0_33, .ref a0_34, .ref a0_35, .long a0_36, .int a0_37, .ref a0_38, .ref a0_39, .int a0_40, .ref a0_41, .ref a0_42, .ref a0_43]))] sz) U)) (va_Qi (fun (r : Int32) (u : Int32) => u = r) (fun (u : Int32) (t : State) => ∃ (za0_0 : Int32), (u = dV a1 a2 a3) ∧ va_P (dC, dI) vwCl [(a0, .inr (8, [.int za0_0, .int a0_1, .int a0_2, .int a0_3, .ref a0_4, .int a0_5, .int a0_6, .int a0_7, .int a0_8, .int a0_9, .int a0_10, .long a0_11, .int a0_12, .int a0_13, .int a0_14, .int a0_15, .int a0_16, .int a0_17, .ref a0_18, .ref a0_19, .ref a0_20, .ref a0_21, .ref a0_22, .ref a0_23, .ref a0_24, .ref a0_25, .ref a0_26, .ref a0_27, .ref a0_28, .ref a0_29, .ref a0_30, .ref a0_31, .ref a0_32, .ref a0_33, .ref a0_34, .ref a0_35, .long a0_36, .int a0_37, .ref a0_38, .ref a0_39, .int a0_40, .ref a0_41, .ref a0_42, .ref a0_43]))] t.heap ∧ va_K (dC, dI) vwCl [] t ∧ va_D (va_A [(a0, .inr (8, [.int a0_0, .int a0_1, .int a0_2, .int a0_3, .ref a0_4, .int a0_5, .int a0_6, .int a0_7, .int a0_8, .int a0_9, .int a0_10, .long a0_11, .int a0_12, .int a0_13, .int a0_14, .int a0_15, .int a0_16, .int a0_17, .ref a0_18, .ref a0_19, .ref a0_20, .ref a0_21, .ref a0_22, .ref a0_23, .ref a0_24, .ref a0_25, .ref a0_26, .ref a0_27, .ref a0_28, .ref a0_29, .ref a0_30, .ref a0_31, .ref a0_32, .ref a0_33, .ref a0_34, .ref a0_35, .long a0_36, .int a0_37, .ref a0_38, .ref a0_39, .int a0_40, .ref a0_41, .ref a0_42, .ref a0_43]))] sz) [(a0, .inr (8, [.int za0_0, .int a0_1, .int a0_2, .int a0_3, .ref a0_4, .int a0_5, .int a0_6, .int a0_7, .int a0_8, .int a0_9, .int a0_10, .long a0_11, .int a0_12, .int a0_13, .int a0_14, .int a0_15, .int a0_16, .int a0_17, .ref a0_18, .ref a0_19, .ref a0_20, .ref a0_21, .ref a0_22, .ref a0_23, .ref a0_24, .ref a0_25, .ref a0_26, .ref a0_27, .ref a0_28, .ref a0_29, .ref a0_30, .ref a0_31, .ref a0_32, .ref a0_33, .ref a0_34, .ref a0_35, .long a0_36, .int a0_37, .ref a0_38, .ref a0_39, .int a0_40, .ref a0_41, .ref a0_42, .ref a0_43]))]) (va_A [(a0, .inr (8, [.int a0_0, .int a0_1, .int a0_2, .int a0_3, .ref a0_4, .int a0_5, .int a0_6, .int a0_7, .int a0_8, .int a0_9, .int a0_10, .long a0_11, .int a0_12, .int a0_13, .int a0_14, .int a0_15, .int a0_16, .int a0_17, .ref a0_18, .ref a0_19, .ref a0_20, .ref a0_21, .ref a0_22, .ref a0_23, .ref a0_24, .ref a0_25, .ref a0_26, .ref a0_27, .ref a0_28, .ref a0_29, .ref a0_30, .ref a0_31, .ref a0_32, .ref a0_33, .ref a0_34, .ref a0_35, .long a0_36, .int a0_37, .ref a0_38, .ref a0_39, .int a0_40, .ref a0_41, .ref a0_42, .ref a0_43]))] sz)) 0 0 (va_A [(a0, .inr (8, [.int a0_0, .int a0_1, .int a0_2, .int a0_3, .ref a0_4, .int a0_5, .int a0_6, .int a0_7, .int a0_8, .int a0_9, .int a0_10, .long a0_11, .int a0_12, .int a0_13, .int a0_14, .int a0_15, .int a0_16, .int a0_17, .ref a0_18, .ref a0_19, .ref a0_20, .ref a0_21, .ref a0_22, .ref a0_23, .ref a0_24, .ref a0_25, .ref a0_26, .ref a0_27, .ref a0_28, .ref a0_29, .ref a0_30, .ref a0_31, .ref a0_32, .ref a0_33, .ref a0_34, .ref a0_35, .long a0_36, .int a0_37, .ref a0_38, .ref a0_39, .int a0_40, .ref a0_41, .ref a0_42, .ref a0_43]))] sz) := by
  refine Met.ofW (cc := cX9_day) (maxL := 4) (ret := (some .int)) (by decide) rfl ?_
  intro p e s m args below meth c s₁ B hml hv
  obtain ⟨rfl, hsz, hP, hK, hD0, hE⟩ := hv
  have hx := B.exec
  have hb := B.bytes
  have hr := B.returns
  have hts0 := atoms_spec (ws := (.code yX9_day cX9_day 4 (some .int) :: TBL)) B.pre
  have hts := fun (w : Cond) (h : w ∈ TBL) => hts0 w (List.mem_cons_of_mem _ h)
  have hown : s.vm.findClass RX9 = some m.cls := findClass_of_methodNamed B.named
  have hlocks := B.notSynchronized
  have hN := hE.1
  subst hsz
  have hD := hD0.self (sz := s.heap.size)
  generalize hAe : va_A [(a0, .inr (8, [.int a0_0, .int a0_1, .int a0_2, .int a0_3, .ref a0_4, .int a0_5, .int a0_6, .int a0_7, .int a0_8, .int a0_9, .int a0_10, .long a0_11, .int a0_12, .int a0_13, .int a0_14, .int a0_15, .int a0_16, .int a0_17, .ref a0_18, .ref a0_19, .ref a0_20, .ref a0_21, .ref a0_22, .ref a0_23, .ref a0_24, .ref a0_25, .ref a0_26, .ref a0_27, .ref a0_28, .ref a0_29, .ref a0_30, .ref a0_31, .ref a0_32, .ref a0_33, .ref a0_34, .ref a0_35, .long a0_36, .int a0_37, .ref a0_38, .ref a0_39, .int a0_40, .ref a0_41, .ref a0_42, .ref a0_43]))] s.heap.size = A at hD hE ⊢
  have hA : ∀ q : Nat, s.heap.size ≤ q → A q := fun q h => by rw [← hAe]; exact Or.inr h
  have hS : va_S A s.heap s.heap [] := va_S.rf
  replace hP : va_P (dC, dI) vwCl [(a0, .inr (8, [.int a0_0, .int a0_1, .int a0_2, .int a0_3, .ref a0_4, .int a0_5, .int a0_6, .int a0_7, .int a0_8, .int a0_9, .int a0_10, .long a0_11, .int a0_12, .int a0_13, .int a0_14, .int a0_15, .int a0_16, .int a0_17, .ref a0_18, .ref a0_19, .ref a0_20, .ref a0_21, .ref a0_22, .ref a0_23, .ref a0_24, .ref a0_25, .ref a0_26, .ref a0_27, .ref a0_28, .ref a0_29, .ref a0_30, .ref a0_31, .ref a0_32, .ref a0_33, .ref a0_34, .ref a0_35, .long a0_36, .int a0_37, .ref a0_38, .ref a0_39, .int a0_40, .ref a0_41, .ref a0_42, .ref a0_43]))] s.heap := hP
  have hl := lv_entry ([.ref a0, .int a1, .int a2, .int a3]) (n := 4) (Nat.le_of_ble_eq_true rfl)
  rw [lg_entry_eq]
  generalize (lg_sl ([.ref a0, .int a1, .int a2, .int a3]) ++ List.replicate (4 - (lg_sl ([.ref a0, .int a1, .int a2, .int a3])).length) Slot.unset).toArray = ls at hl ⊢
  have hl : lv_has ls 4 [(0, .ref a0), (1, .int a1), (2, .int a2), (3, .int a3)] := hl
  have b_a1 := i32b a1
  have b_a2 := i32b a2
  have b_a3 := i32b a3
  have b_a0_0 := i32b a0_0
  have b_a0_1 := i32b a0_1
  have b_a0_2 := i32b a0_2
  have b_a0_3 := i32b a0_3
  have b_a0_9 := i32b a0_9
  have b_a0_10 := i32b a0_10
  have b_a0_12 := i32b a0_12
  have b_a0_13 := i32b a0_13
  have b_a0_14 := i32b a0_14
  have b_a0_15 := i32b a0_15
  have b_a0_16 := i32b a0_16
  have hbm := mlN_b a1.toInt.toNat a2.toInt.toNat
  refine lv_aload_n hx hb dX9_day_0 rfl (lv_at hl 0 rfl) ?_
  refine lv_iconst (v := 0) hx hb dX9_day_1 (by decide) ?_
  refine va_put (D := (dC, dI)) (ci := 8) (v := .int 0) (ty := .int) (C := RX9) (T := TX9) (N := 44) hx hb hts inlX9 tyX9 tyX9_ok nmX9 hown hK hP hD hS 0 rgL1_f9e15c6 rfl 0 (by decide) (hts (.fieldLink RX9 85 "ClosedUntilModel" "thrown" "I") qw_408) (fun _ h9 => h9) rfl (by decide +kernel) rfl rfl (Nat.le_of_ble_eq_true rfl) dX9_day_2 (fun H locs hP9 hD9 hS9 => ?_)
  clear hP hD hS
  obtain ⟨hP, hD⟩ := rgS1_4a8b427 (e := (a0, .inr (8, [.int 0, .int a0_1, .int a0_2, .int a0_3, .ref a0_4, .int a0_5, .int a0_6, .int a0_7, .int a0_8, .int a0_9, .int a0_10, .long a0_11, .int a0_12, .int a0_13, .int a0_14, .int a0_15, .int a0_16, .int a0_17, .ref a0_18, .ref a0_19, .ref a0_20, .ref a0_21, .ref a0_22, .ref a0_23, .ref a0_24, .ref a0_25, .ref a0_26, .ref a0_27, .ref a0_28, .ref a0_29, .ref a0_30, .ref a0_31, .ref a0_32, .ref a0_33, .ref a0_34, .ref a0_35, .long a0_36, .int a0_37, .ref a0_38, .ref a0_39, .int a0_40, .ref a0_41, .ref a0_42, .ref a0_43]))) hP9 hD9 rfl
  have hS := hS9; clear hP9 hD9 hS9
  refine lv_iload_n hx hb dX9_day_5 rfl (lv_at hl 1 rfl) ?_
  refine lv_i2l hx hb dX9_day_6 rfl ?_
  refine lv_ldc2 (v := 1700) hx hb hown (hts (.constantLong RX9 119 (1700)) qw_441) dX9_day_7 ?_
  refine lv_ldc2 (v := 2299) hx hb hown (hts (.constantLong RX9 121 (2299)) qw_442) dX9_day_10 ?_
  have hPc := (rgP1_e1bfc9f hP)
  have hKc := hK
  refine vp_callSi ((va_runS (As := [.long (a1.toInt64), .long 1700, .long 2299]) (rest := []) ⟨hx, hb, hml, hown, hts⟩ (k_X9_within l dC dI g ((a1.toInt64)) (1700) (2299) (a1.toInt) (1700) (2299) (w_li rfl) (by decide) (by decide)) (va_cwS 3 hts (gwS qw_444 qw_445 qw_386 qw_443) rfl rfl rfl (by decide +kernel) ⟨Nat.le_of_ble_eq_true rfl, Nat.le_of_ble_eq_true rfl⟩) ⟨fun a U g9 mk q => ⟨q.1, q.2.1, va_K.moved (u := U) (U := U.calling g9 mk a) (Vm.Alike.refl U.vm) q.2.2.1, Ev.bl q.2.2.2⟩, fun U hU hW => ⟨rfl, atB hU hPc, va_K.moved hW.alike hKc, hE.go hS (fun _ h => h.elim) hU hW⟩⟩ rfl rfl hl.1 rfl (lv_room (Nat.le_of_ble_eq_true rfl)) dX9_day_13 ⟨Nat.le_of_ble_eq_true rfl, Nat.le_of_ble_eq_true rfl⟩)).run (fun r1 h_r1 => ?_)
  have h_r1 : (r1 = 0 ∨ r1 = 1) ∧ ((r1.toInt = 1 ∧ 1700 ≤ a1.toInt ∧ a1.toInt ≤ 2299) ∨ (r1.toInt = 0 ∧ ¬ (1700 ≤ a1.toInt ∧ a1.toInt ≤ 2299))) := h_r1
  have b_r1 := z01 h_r1.1
  refine lv_if_eq (tgt := 55) hx hb dX9_day_16 (by decide) (fun c16_2 => ?_) (fun c16_2 => ?_)
  · have c16_2 : r1.toInt = 0 := (cv_eq rfl (by decide)).mp c16_2
    refine lv_iconst (v := (-1)) hx hb dX9_day_55 (by decide) ?_
    have qcm1 : ((-1) : Int32).toInt = (-1) := by decide
    have qc0 : (0 : Int32).toInt = 0 := by decide
    refine W.widen (k := 0) (n := 0) (Nat.le_of_ble_eq_true rfl) (Nat.le_of_ble_eq_true rfl) ?_
    have hP9 := hP
    have hD9 := hD
    have hK9 := hK
    have hf9_0 : (((-1) : Int32) = dV a1 a2 a3) := (dV_no (by omega)).symm
    exact W.iret (v := (-1)) hx hb hr (fun t ht hW => ⟨⟨(-1), (-1), rfl, rfl, 0, hf9_0, atB ht hP9, va_K.moved hW.alike hK9, hD9⟩, hS.F ht⟩) hS.2.2 dX9_day_56
  · have c16_2 : ¬ (r1.toInt = 0) := mt (cv_eq rfl (by decide)).mpr c16_2
    refine lv_iload_n hx hb dX9_day_19 rfl (lv_at hl 2 rfl) ?_
    refine lv_i2l hx hb dX9_day_20 rfl ?_
    refine lv_lconst (v := 1) hx hb dX9_day_21 (by decide) ?_
    refine lv_ldc2 (v := 12) hx hb hown (hts (.constantLong RX9 127 (12)) qw_446) dX9_day_22 ?_
    have hPc := (rgP1_e1bfc9f hP)
    have hKc := hK
    refine vp_callSi ((va_runS (As := [.long (a2.toInt64), .long 1, .long 12]) (rest := []) ⟨hx, hb, hml, hown, hts⟩ (k_X9_within l dC dI g ((a2.toInt64)) (1) (12) (a2.toInt) (1) (12) (w_li rfl) (by decide) (by decide)) (va_cwS 3 hts (gwS qw_444 qw_445 qw_386 qw_443) rfl rfl rfl (by decide +kernel) ⟨Nat.le_of_ble_eq_true rfl, Nat.le_of_ble_eq_true rfl⟩) ⟨fun a U g9 mk q => ⟨q.1, q.2.1, va_K.moved (u := U) (U := U.calling g9 mk a) (Vm.Alike.refl U.vm) q.2.2.1, Ev.bl q.2.2.2⟩, fun U hU hW => ⟨rfl, atB hU hPc, va_K.moved hW.alike hKc, hE.go hS (fun _ h => h.elim) hU hW⟩⟩ rfl rfl hl.1 rfl (lv_room (Nat.le_of_ble_eq_true rfl)) dX9_day_25 ⟨Nat.le_of_ble_eq_true rfl, Nat.le_of_ble_eq_true rfl⟩)).run (fun r3 h_r3 => ?_)
    have h_r3 : (r3 = 0 ∨ r3 = 1) ∧ ((r3.toInt = 1 ∧ 1 ≤ a2.toInt ∧ a2.toInt ≤ 12) ∨ (r3.toInt = 0 ∧ ¬ (1 ≤ a2.toInt ∧ a2.toInt ≤ 12))) := h_r3
    have b_r3 := z01 h_r3.1
    refine lv_if_eq (tgt := 55) hx hb dX9_day_28 (by decide) (fun c28_4 => ?_) (fun c28_4 => ?_)
    · have c28_4 : r3.toInt = 0 := (cv_eq rfl (by decide)).mp c28_4
      refine lv_iconst (v := (-1)) hx hb dX9_day_55 (by decide) ?_
      have qcm1 : ((-1) : Int32).toInt = (-1) := by decide
      have qc0 : (0 : Int32).toInt = 0 := by decide
      refine W.widen (k := 0) (n := 0) (Nat.le_of_ble_eq_true rfl) (Nat.le_of_ble_eq_true rfl) ?_
      have hP9 := hP
      have hD9 := hD
      have hK9 := hK
      have hf9_0 : (((-1) : Int32) = dV a1 a2 a3) := (dV_no (by omega)).symm
      exact W.iret (v := (-1)) hx hb hr (fun t ht hW => ⟨⟨(-1), (-1), rfl, rfl, 0, hf9_0, atB ht hP9, va_K.moved hW.alike hK9, hD9⟩, hS.F ht⟩) hS.2.2 dX9_day_56
    · have c28_4 : ¬ (r3.toInt = 0) := mt (cv_eq rfl (by decide)).mpr c28_4
      refine lv_iload_n hx hb dX9_day_31 rfl (lv_at hl 3 rfl) ?_
      refine lv_i2l hx hb dX9_day_32 rfl ?_
      refine lv_lconst (v := 1) hx hb dX9_day_33 (by decide) ?_
      refine lv_iload_n hx hb dX9_day_34 rfl (lv_at hl 1 rfl) ?_
      refine lv_iload_n hx hb dX9_day_35 rfl (lv_at hl 2 rfl) ?_
      have hPc := (rgP1_e1bfc9f hP)
      have hKc := hK
      refine vp_callSi ((va_runS (As := [.int a1, .int a2]) (rest := [.long 1, .long (a3.toInt64)]) ⟨hx, hb, hml, hown, hts⟩ (kv_daysIn l dC dI g (a1) (a2) (by omega) (by omega)) (va_cwS 2 hts (gwS qw_393 qw_394 qw_386 qw_392) rfl rfl rfl (by decide +kernel) ⟨Nat.le_of_ble_eq_true rfl, Nat.le_of_ble_eq_true rfl⟩) ⟨fun a U g9 mk q => ⟨q.1, q.2.1, va_K.moved (u := U) (U := U.calling g9 mk a) (Vm.Alike.refl U.vm) q.2.2.1, Ev.bl q.2.2.2⟩, fun U hU hW => ⟨rfl, atB hU hPc, va_K.moved hW.alike hKc, hE.go hS (fun _ h => h.elim) hU hW⟩⟩ rfl rfl hl.1 rfl (lv_room (Nat.le_of_ble_eq_true rfl)) dX9_day_36 ⟨Nat.le_of_ble_eq_true rfl, Nat.le_of_ble_eq_true rfl⟩)).run (fun r5 h_r5 => ?_)
      have h_r5 : (r5 = nI (mlN a1.toInt.toNat a2.toInt.toNat)) := h_r5
      have b_r5 := i32b r5
      have hdi : r5.toInt = (mlN a1.toInt.toNat a2.toInt.toNat : Int) := by rw [h_r5, nI_toInt (by omega)]
      refine lv_i2l hx hb dX9_day_39 rfl ?_
      have hPc := (rgP1_e1bfc9f hP)
      have hKc := hK
      refine vp_callSi ((va_runS (As := [.long (a3.toInt64), .long 1, .long (r5.toInt64)]) (rest := []) ⟨hx, hb, hml, hown, hts⟩ (k_X9_within l dC dI g ((a3.toInt64)) (1) ((r5.toInt64)) (a3.toInt) (1) (r5.toInt) (w_li rfl) (by decide) (w_li rfl)) (va_cwS 3 hts (gwS qw_444 qw_445 qw_386 qw_443) rfl rfl rfl (by decide +kernel) ⟨Nat.le_of_ble_eq_true rfl, Nat.le_of_ble_eq_true rfl⟩) ⟨fun a U g9 mk q => ⟨q.1, q.2.1, va_K.moved (u := U) (U := U.calling g9 mk a) (Vm.Alike.refl U.vm) q.2.2.1, Ev.bl q.2.2.2⟩, fun U hU hW => ⟨rfl, atB hU hPc, va_K.moved hW.alike hKc, hE.go hS (fun _ h => h.elim) hU hW⟩⟩ rfl rfl hl.1 rfl (lv_room (Nat.le_of_ble_eq_true rfl)) dX9_day_40 ⟨Nat.le_of_ble_eq_true rfl, Nat.le_of_ble_eq_true rfl⟩)).run (fun r6 h_r6 => ?_)
      have h_r6 : (r6 = 0 ∨ r6 = 1) ∧ ((r6.toInt = 1 ∧ 1 ≤ a3.toInt ∧ a3.toInt ≤ r5.toInt) ∨ (r6.toInt = 0 ∧ ¬ (1 ≤ a3.toInt ∧ a3.toInt ≤ r5.toInt))) := h_r6
      have b_r6 := z01 h_r6.1
      refine lv_if_eq (tgt := 55) hx hb dX9_day_43 (by decide) (fun c43_7 => ?_) (fun c43_7 => ?_)
      · have c43_7 : r6.toInt = 0 := (cv_eq rfl (by decide)).mp c43_7
        refine lv_iconst (v := (-1)) hx hb dX9_day_55 (by decide) ?_
        have qcm1 : ((-1) : Int32).toInt = (-1) := by decide
        have qc0 : (0 : Int32).toInt = 0 := by decide
        refine W.widen (k := 0) (n := 0) (Nat.le_of_ble_eq_true rfl) (Nat.le_of_ble_eq_true rfl) ?_
        have hP9 := hP
        have hD9 := hD
        have hK9 := hK
        have hf9_0 : (((-1) : Int32) = dV a1 a2 a3) := (dV_no (by omega)).symm
        exact W.iret (v := (-1)) hx hb hr (fun t ht hW => ⟨⟨(-1), (-1), rfl, rfl, 0, hf9_0, atB ht hP9, va_K.moved hW.alike hK9, hD9⟩, hS.F ht⟩) hS.2.2 dX9_day_56
      · have c43_7 : ¬ (r6.toInt = 0) := mt (cv_eq rfl (by decide)).mpr c43_7
        refine lv_iload_n hx hb dX9_day_46 rfl (lv_at hl 1 rfl) ?_
        refine lv_iload_n hx hb dX9_day_47 rfl (lv_at hl 2 rfl) ?_
        refine lv_iload_n hx hb dX9_day_48 rfl (lv_at hl 3 rfl) ?_
        have hPc := (rgP1_e1bfc9f hP)
        have hKc := hK
        refine vp_callSi ((va_runS (As := [.int a1, .int a2, .int a3]) (rest := []) ⟨hx, hb, hml, hown, hts⟩ (kv_dayOf l dC dI g (a1) (a2) (a3) (by omega) (by omega) (by omega)) (va_cwS 3 hts (gwS qw_404 qw_405 qw_386 qw_403) rfl rfl rfl (by decide +kernel) ⟨Nat.le_of_ble_eq_true rfl, Nat.le_of_ble_eq_true rfl⟩) ⟨fun a U g9 mk q => ⟨q.1, q.2.1, va_K.moved (u := U) (U := U.calling g9 mk a) (Vm.Alike.refl U.vm) q.2.2.1, Ev.bl q.2.2.2⟩, fun U hU hW => ⟨rfl, atB hU hPc, va_K.moved hW.alike hKc, hE.go hS (fun _ h => h.elim) hU hW⟩⟩ rfl rfl hl.1 rfl (lv_room (Nat.le_of_ble_eq_true rfl)) dX9_day_49 ⟨Nat.le_of_ble_eq_true rfl, Nat.le_of_ble_eq_true rfl⟩)).run (fun r8 h_r8 => ?_)
        have h_r8 : (r8 = dW a1 a2 a3) := h_r8
        have b_r8 := i32b r8
        refine lv_goto (tgt := 56) hx hb dX9_day_52 (by decide) ?_
        have qc0 : (0 : Int32).toInt = 0 := by decide
        refine W.widen (k := 0) (n := 0) (Nat.le_of_ble_eq_true rfl) (Nat.le_of_ble_eq_true rfl) ?_
        have hP9 := hP
        have hD9 := hD
        have hK9 := hK
        have hf9_0 : (r8 = dV a1 a2 a3) := h_r8.trans (dV_ok (by omega)).symm
        exact W.iret (v := r8) hx hb hr (fun t ht hW => ⟨⟨r8, r8, rfl, rfl, 0, hf9_0, atB ht hP9, va_K.moved hW.alike hK9, hD9⟩, hS.F ht⟩) hS.2.2 dX9_day_56
