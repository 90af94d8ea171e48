theorem i32n {x : Int32} (lo hi : Nat) (h : (lo : Int) ≤ x.toInt ∧ x.toInt ≤ (hi : Int)) (hh : hi < 2 ^ 31) : ∃ k : Nat, lo + k ≤ hi ∧ x = nI (lo + k) := by
  refine ⟨(x.toInt - lo).toNat, by omega, Int32.toInt_inj.mp ?_⟩
  rw [nI_toInt (by omega)]; omega
theorem i32z {x : Int32} (hi : Nat) (h : 0 ≤ x.toInt ∧ x.toInt ≤ (hi : Int)) (hh : hi < 2 ^ 31) : ∃ k : Nat, k ≤ hi ∧ x = nI k := by
  refine ⟨x.toInt.toNat, by omega, Int32.toInt_inj.mp ?_⟩
  rw [nI_toInt (by omega)]; omega
def dW (y m d : Int32) : Int32 := nI (Fk (y.toInt.toNat - 1700) + Mk y.toInt.toNat m.toInt.toNat + d.toInt.toNat - 1)
def dV (y m d : Int32) : Int32 := if 1700 ≤ y.toInt ∧ y.toInt ≤ 2299 ∧ 1 ≤ m.toInt ∧ m.toInt ≤ 12 ∧ 1 ≤ d.toInt ∧ d.toInt ≤ (mlN y.toInt.toNat m.toInt.toNat : Int) then dW y m d else -1
theorem dV_no {y m d : Int32} (h : ¬ (1700 ≤ y.toInt ∧ y.toInt ≤ 2299 ∧ 1 ≤ m.toInt ∧ m.toInt ≤ 12 ∧ 1 ≤ d.toInt ∧ d.toInt ≤ (mlN y.toInt.toNat m.toInt.toNat : Int))) : dV y m d = -1 := if_neg h
theorem dV_ok {y m d : Int32} (h : 1700 ≤ y.toInt ∧ y.toInt ≤ 2299 ∧ 1 ≤ m.toInt ∧ m.toInt ≤ 12 ∧ 1 ≤ d.toInt ∧ d.toInt ≤ (mlN y.toInt.toNat m.toInt.toNat : Int)) : dV y m d = dW y m d := if_pos h
theorem nIt {k : Nat} (h : k < 2 ^ 31) : (nI k).toInt.toNat = k := by rw [nI_toInt h]; omega
theorem dW_nI {k mo d : Nat} (hk : k < 600) (hm : mo ≤ 12) (hd : d ≤ 31) : dW (nI (1700 + k)) (nI mo) (nI d) = nI (Fk k + Mk (1700 + k) mo + d - 1) := by
  unfold dW
  rw [nIt (by omega), nIt (by omega), nIt (by omega), show 1700 + k - 1700 = k by omega]
theorem day_ex {d : Nat} (h : d < 219145) : ∃ k mo dd : Nat, k < 600 ∧ 1 ≤ mo ∧ mo ≤ 12 ∧ 1 ≤ dd ∧ dd ≤ mlN (1700 + k) mo ∧ d = Fk k + Mk (1700 + k) mo + (dd - 1) := by
  obtain ⟨k, hk, h1, h2⟩ := Fk_ex h
  rw [Fk_s k hk] at h2
  obtain ⟨mo, m1, m2, m3, m4⟩ := Mk_ex (y := 1700 + k) (r := d - Fk k) (by omega)
  exact ⟨k, mo, d - Fk k - Mk (1700 + k) mo + 1, hk, m1, m2, by omega, by omega, by omega⟩
def dXp (d : Nat) (q : Nat × Nat × Nat) : Prop := q.1 < 600 ∧ 1 ≤ q.2.1 ∧ q.2.1 ≤ 12 ∧ 1 ≤ q.2.2 ∧ q.2.2 ≤ mlN (1700 + q.1) q.2.1 ∧ d = Fk q.1 + Mk (1700 + q.1) q.2.1 + (q.2.2 - 1)
theorem day_ex1 (d : Nat) : ∃ q : Nat × Nat × Nat, d < 219145 → dXp d q := by
  by_cases h : d < 219145
  · obtain ⟨k, mo, dd, h1⟩ := day_ex h
    exact ⟨(k, mo, dd), fun _ => h1⟩
  · exact ⟨(0, 0, 0), fun q => absurd q h⟩
noncomputable def dX (d : Nat) : Nat × Nat × Nat := Classical.choose (day_ex1 d)
theorem dX_ok {d : Nat} (h : d < 219145) : dXp d (dX d) := Classical.choose_spec (day_ex1 d) h
/-- the day's year, month and day in it -/
noncomputable def dK (x : Int32) : Nat := (dX x.toInt.toNat).1
noncomputable def dM (x : Int32) : Nat := (dX x.toInt.toNat).2.1
noncomputable def dD (x : Int32) : Nat := (dX x.toInt.toNat).2.2
theorem dA {x : Int32} (h : 0 ≤ x.toInt ∧ x.toInt < 219145) : dK x < 600 ∧ 1 ≤ dM x ∧ dM x ≤ 12 ∧ 1 ≤ dD x ∧ dD x ≤ mlN (1700 + dK x) (dM x) ∧ x.toInt.toNat = Fk (dK x) + Mk (1700 + dK x) (dM x) + (dD x - 1) := dX_ok (by omega)
theorem nIs {x : Int32} (h : 0 ≤ x.toInt) : x = nI x.toInt.toNat := Int32.toInt_inj.mp (by rw [nI_toInt (by have := (i32b x).2; omega)]; omega)
noncomputable def tV (d w : Int32) : Int32 := if 0 ≤ d.toInt ∧ d.toInt < 219145 ∧ 0 ≤ w.toInt ∧ w.toInt ≤ 3 then (if w.toInt = 0 then nI (1700 + dK d) else if w.toInt = 1 then nI (dM d) else if w.toInt = 2 then nI (dD d) else nI ((d.toInt.toNat + 4) % 7)) else -1
theorem tV_no {d w : Int32} (h : ¬ (0 ≤ d.toInt ∧ d.toInt < 219145 ∧ 0 ≤ w.toInt ∧ w.toInt ≤ 3)) : tV d w = -1 := if_neg h
theorem tV_0 {d w : Int32} (h : 0 ≤ d.toInt ∧ d.toInt < 219145) (q : w.toInt = 0) : tV d w = nI (1700 + dK d) := by unfold tV; rw [if_pos (by omega), if_pos q]
theorem tV_1 {d w : Int32} (h : 0 ≤ d.toInt ∧ d.toInt < 219145) (q : w.toInt = 1) : tV d w = nI (dM d) := by unfold tV; rw [if_pos (by omega), if_neg (by omega), if_pos q]
theorem tV_2 {d w : Int32} (h : 0 ≤ d.toInt ∧ d.toInt < 219145) (q : w.toInt = 2) : tV d w = nI (dD d) := by unfold tV; rw [if_pos (by omega), if_neg (by omega), if_neg (by omega), if_pos q]
theorem tV_3 {d w : Int32} (h : 0 ≤ d.toInt ∧ d.toInt < 219145) (q : w.toInt = 3) : tV d w = nI ((d.toInt.toNat + 4) % 7) := by unfold tV; rw [if_pos (by omega), if_neg (by omega), if_neg (by omega), if_neg (by omega)]
theorem tV_w {d x y : Int32} (h : 0 ≤ d.toInt ∧ d.toInt < 219145) (hx : x.toInt = d.toInt + 4) (hy : y = x - x / 7 * 7) : y = nI ((d.toInt.toNat + 4) % 7) := by
  have e : x = nI (d.toInt.toNat + 4) := Int32.toInt_inj.mp (by rw [nI_toInt (by omega)]; omega)
  rw [hy, e]; exact pk_rem (a := d.toInt.toNat + 4) (d := 7) (by omega) (by omega) (by omega)
noncomputable def pK (d n : Int32) : Nat := (((dK d : Nat) : Int) + n.toInt).toNat
noncomputable def pW (d n : Int32) : Int32 := if d.toInt = 219145 then nI 219145 else if ((dK d : Nat) : Int) + n.toInt < 0 then nI 0 else if 599 < ((dK d : Nat) : Int) + n.toInt then nI 219145 else nI (Fk (pK d n) + Mk (1700 + pK d n) (dM d) + min (dD d) (mlN (1700 + pK d n) (dM d)) - 1)
noncomputable def pV (d n : Int32) : Int32 := if 0 ≤ d.toInt ∧ d.toInt ≤ 219145 ∧ -600 ≤ n.toInt ∧ n.toInt ≤ 600 then pW d n else -1
theorem pV_no {d n : Int32} (h : ¬ (0 ≤ d.toInt ∧ d.toInt ≤ 219145 ∧ -600 ≤ n.toInt ∧ n.toInt ≤ 600)) : pV d n = -1 := if_neg h
theorem pV_ok {d n : Int32} (h : 0 ≤ d.toInt ∧ d.toInt ≤ 219145 ∧ -600 ≤ n.toInt ∧ n.toInt ≤ 600) : pV d n = pW d n := if_pos h
theorem pW_L {d n : Int32} (h : d.toInt = 219145) : pW d n = nI 219145 := if_pos h
theorem pW_A {d n : Int32} (h : d.toInt ≠ 219145) (h1 : ((dK d : Nat) : Int) + n.toInt < 0) : pW d n = nI 0 := by unfold pW; rw [if_neg h, if_pos h1]
theorem pW_B {d n : Int32} (h : d.toInt ≠ 219145) (h1 : 599 < ((dK d : Nat) : Int) + n.toInt) : pW d n = nI 219145 := by unfold pW; rw [if_neg h, if_neg (by omega), if_pos h1]
theorem pW_C {d n : Int32} (h : d.toInt ≠ 219145) (h1 : 0 ≤ ((dK d : Nat) : Int) + n.toInt) (h2 : ((dK d : Nat) : Int) + n.toInt ≤ 599) : pW d n = nI (Fk (pK d n) + Mk (1700 + pK d n) (dM d) + min (dD d) (mlN (1700 + pK d n) (dM d)) - 1) := by unfold pW; rw [if_neg h, if_neg (by omega), if_neg (by omega)]
theorem pK_e {d n : Int32} (h : 0 ≤ ((dK d : Nat) : Int) + n.toInt) : ((pK d n : Nat) : Int) = ((dK d : Nat) : Int) + n.toInt := by unfold pK; omega
theorem pW_min {d n y x : Int32} {r : Int32} (hd : 0 ≤ d.toInt ∧ d.toInt < 219145) (hy : y.toInt = 1700 + ((dK d : Nat) : Int) + n.toInt) (h1 : 1700 ≤ y.toInt) (h2 : y.toInt ≤ 2299) (hx : x.toInt = (min (dD d) (mlN (1700 + pK d n) (dM d)) : Nat)) (hr : r = dW y (nI (dM d)) x) : r = pW d n := by
  have ha := dA hd
  have hb := mlN_b (1700 + pK d n) (dM d)
  have hk := pK_e (d := d) (n := n) (by omega)
  rw [pW_C (by omega) (by omega) (by omega), hr]
  unfold dW
  rw [nIt (by omega)]
  have e1 : y.toInt.toNat - 1700 = pK d n := by omega
  have e2 : y.toInt.toNat = 1700 + pK d n := by omega
  have e3 : x.toInt.toNat = min (dD d) (mlN (1700 + pK d n) (dM d)) := by omega
  rw [e1, e2, e3]


set_option maxHeartbeats 4000000 in
set_option maxRecDepth 100000 in
theorem c_lp (l : Launch) (dC : Nat → ClassId) (dI : Nat → Nat → Nat) (g : Gv) (y : Nat) (hy : y < 3000) : Met l yX9_isLeap (.code yX9_isLeap cX9_isLeap 1 (some .boolean) :: TBL) ({ frames := 0, cells := 0, slots := 0, locals := 0 }) (va_Pc [.int (nI y)] (fun U => va_P (dC, dI) vwCl [] U.heap ∧ va_K (dC, dI) vwCl [] U ∧ Ev g (fun _ => False) U)) (vp_Si (fun r => (lpB y = true ∧ r = 1) ∨ (lpB y = false ∧ r = 0))) 0 0 (fun _ => False) := by
  refine Met.ofW (cc := cX9_isLeap) (maxL := 1) (ret := (some .boolean)) (by decide) rfl ?_
  intro p e s m args below meth c s₁ B hml hv
  obtain ⟨rfl, hP, hK, hE⟩ := hv
  have hx := B.exec
  have hb := B.bytes
  have hr := B.returns
  have hts0 := atoms_spec (ws := (.code yX9_isLeap cX9_isLeap 1 (some .boolean) :: TBL)) B.pre
  have hts := fun (w : Cond) (h : w ∈ TBL) => hts0 w (List.mem_cons_of_mem _ h)
  have hown : s.vm.findClass RX9 = some m.cls := findClass_of_methodNamed B.named
  have hlocks := B.notSynchronized
  have hN := hE.1
  have hS : va_S (fun _ => False) s.heap s.heap [] := va_S.rf
  have hP : va_P (dC, dI) vwCl [] s.heap := hP
  have hl := lv_entry ([.int (nI y)]) (n := 1) (Nat.le_of_ble_eq_true rfl)
  rw [lg_entry_eq]
  generalize (lg_sl ([.int (nI y)]) ++ List.replicate (1 - (lg_sl ([.int (nI y)])).length) Slot.unset).toArray = ls at hl ⊢
  have hl : lv_has ls 1 [(0, .int (nI y))] := hl
  refine lv_iload_n hx hb dX9_isLeap_0 rfl (lv_at hl 0 rfl) ?_
  refine lv_iconst (v := 4) hx hb dX9_isLeap_1 (by decide) ?_
  refine lv_irem hx hb dX9_isLeap_2 (by decide) ?_
  refine cst (v := nI (y % 4)) (pk_rem (a := y) (d := 4) (by omega) (by omega) (by omega)) ?_
  refine lv_if_ne (tgt := 25) hx hb dX9_isLeap_3 (by decide) (fun c3_1 => ?_) (fun c3_1 => ?_)
  · have c3_1 : ¬ (((y % 4 : Nat) : Int) = 0) := mt (cv_eq (nI_toInt (by omega)) (by decide)).mpr c3_1
    refine lv_iconst (v := 0) hx hb dX9_isLeap_25 (by decide) ?_
    exact W.zret (v := 0) hx hb hr rfl (fun t ht hW => ⟨0, rfl, (by first | exact Or.inl ⟨lpB_iff.mpr (by omega), rfl⟩ | exact Or.inr ⟨by rw [Bool.eq_false_iff]; exact fun q => absurd (lpB_iff.mp q) (by omega), rfl⟩), ht⟩) (fun _ h => absurd h List.not_mem_nil) dX9_isLeap_26
  · have c3_1 : ((y % 4 : Nat) : Int) = 0 := (cv_eq (nI_toInt (by omega)) (by decide)).mp c3_1
    refine lv_iload_n hx hb dX9_isLeap_6 rfl (lv_at hl 0 rfl) ?_
    refine lv_bipush (v := 100) hx hb dX9_isLeap_7 (by decide) ?_
    refine lv_irem hx hb dX9_isLeap_9 (by decide) ?_
    refine cst (v := nI (y % 100)) (pk_rem (a := y) (d := 100) (by omega) (by omega) (by omega)) ?_
    refine lv_if_ne (tgt := 21) hx hb dX9_isLeap_10 (by decide) (fun c10_2 => ?_) (fun c10_2 => ?_)
    · have c10_2 : ¬ (((y % 100 : Nat) : Int) = 0) := mt (cv_eq (nI_toInt (by omega)) (by decide)).mpr c10_2
      refine lv_iconst (v := 1) hx hb dX9_isLeap_21 (by decide) ?_
      refine lv_goto (tgt := 26) hx hb dX9_isLeap_22 (by decide) ?_
      exact W.zret (v := 1) hx hb hr rfl (fun t ht hW => ⟨1, rfl, (by first | exact Or.inl ⟨lpB_iff.mpr (by omega), rfl⟩ | exact Or.inr ⟨by rw [Bool.eq_false_iff]; exact fun q => absurd (lpB_iff.mp q) (by omega), rfl⟩), ht⟩) (fun _ h => absurd h List.not_mem_nil) dX9_isLeap_26
    · have c10_2 : ((y % 100 : Nat) : Int) = 0 := (cv_eq (nI_toInt (by omega)) (by decide)).mp c10_2
      refine lv_iload_n hx hb dX9_isLeap_13 rfl (lv_at hl 0 rfl) ?_
      refine lv_sipush (v := 400) hx hb dX9_isLeap_14 (by decide) ?_
      refine lv_irem hx hb dX9_isLeap_17 (by decide) ?_
      refine cst (v := nI (y % 400)) (pk_rem (a := y) (d := 400) (by omega) (by omega) (by omega)) ?_
      refine lv_if_ne (tgt := 25) hx hb dX9_isLeap_18 (by decide) (fun c18_3 => ?_) (fun c18_3 => ?_)
      · have c18_3 : ¬ (((y % 400 : Nat) : Int) = 0) := mt (cv_eq (nI_toInt (by omega)) (by decide)).mpr c18_3
        refine lv_iconst (v := 0) hx hb dX9_isLeap_25 (by decide) ?_
        exact W.zret (v := 0) hx hb hr rfl (fun t ht hW => ⟨0, rfl, (by first | exact Or.inl ⟨lpB_iff.mpr (by omega), rfl⟩ | exact Or.inr ⟨by rw [Bool.eq_false_iff]; exact fun q => absurd (lpB_iff.mp q) (by omega), rfl⟩), ht⟩) (fun _ h => absurd h List.not_mem_nil) dX9_isLeap_26
      · have c18_3 : ((y % 400 : Nat) : Int) = 0 := (cv_eq (nI_toInt (by omega)) (by decide)).mp c18_3
        refine lv_iconst (v := 1) hx hb dX9_isLeap_21 (by decide) ?_
        refine lv_goto (tgt := 26) hx hb dX9_isLeap_22 (by decide) ?_
        exact W.zret (v := 1) hx hb hr rfl (fun t ht hW => ⟨1, rfl, (by first | exact Or.inl ⟨lpB_iff.mpr (by omega), rfl⟩ | exact Or.inr ⟨by rw [Bool.eq_false_iff]; exact fun q => absurd (lpB_iff.mp q) (by omega), rfl⟩), ht⟩) (fun _ h => absurd h List.not_mem_nil) dX9_isLeap_26
set_option maxHeartbeats 4000000 in
set_option maxRecDepth 100000 in
theorem c_di (l : Launch) (dC : Nat → ClassId) (dI : Nat → Nat → Nat) (g : Gv) (y : Nat) (mo : Nat) (hy : y < 3000) (hm1 : 1 ≤ mo) (hm2 : mo ≤ 12) : Met l yX9_daysIn (.code yX9_daysIn cX9_daysIn 2 (some .int) :: TBL) ({ frames := 1, cells := 0, slots := 0, locals := 40 }) (va_Pc [.int (nI y), .int (nI mo)] (fun U => va_P (dC, dI) vwCl [] U.heap ∧ va_K (dC, dI) vwCl [] U ∧ Ev g (fun _ => False) U)) (vp_Si (fun r => r = nI (mlN y mo))) 0 0 (fun _ => False) := by
  refine Met.ofW (cc := cX9_daysIn) (maxL := 2) (ret := (some .int)) (by decide) rfl ?_
  intro p e s m args below meth c s₁ B hml hv
  obtain ⟨rfl, hP, hK, hE⟩ := hv
  have hx := B.exec
  have hb := B.bytes
  have hr := B.returns
  have hts0 := atoms_spec (ws := (.code yX9_daysIn cX9_daysIn 2 (some .int) :: TBL)) B.pre
  have hts := fun (w : Cond) (h : w ∈ TBL) => hts0 w (List.mem_cons_of_mem _ h)
  have hown : s.vm.findClass RX9 = some m.cls := findClass_of_methodNamed B.named
  have hlocks := B.notSynchronized
  have hN := hE.1
  have hS : va_S (fun _ => False) s.heap s.heap [] := va_S.rf
  have hP : va_P (dC, dI) vwCl [] s.heap := hP
  have hl := lv_entry ([.int (nI y), .int (nI mo)]) (n := 2) (Nat.le_of_ble_eq_true rfl)
  rw [lg_entry_eq]
  generalize (lg_sl ([.int (nI y), .int (nI mo)]) ++ List.replicate (2 - (lg_sl ([.int (nI y), .int (nI mo)])).length) Slot.unset).toArray = ls at hl ⊢
  have hl : lv_has ls 2 [(0, .int (nI y)), (1, .int (nI mo))] := hl
  refine lv_iload_n hx hb dX9_daysIn_0 rfl (lv_at hl 1 rfl) ?_
  refine lv_iconst (v := 2) hx hb dX9_daysIn_1 (by decide) ?_
  refine lv_icmp_ne (tgt := 22) hx hb dX9_daysIn_2 (by decide) (fun c2_1 => ?_) (fun c2_1 => ?_)
  · have c2_1 : ¬ (((mo : Nat) : Int) = 2) := mt (cv_eq (nI_toInt (by omega)) (by decide)).mpr c2_1
    refine lv_iload_n hx hb dX9_daysIn_22 rfl (lv_at hl 1 rfl) ?_
    refine lv_iconst (v := 4) hx hb dX9_daysIn_23 (by decide) ?_
    refine lv_icmp_eq (tgt := 45) hx hb dX9_daysIn_24 (by decide) (fun c24_2 => ?_) (fun c24_2 => ?_)
    · have c24_2 : ((mo : Nat) : Int) = 4 := (cv_eq (nI_toInt (by omega)) (by decide)).mp c24_2
      refine lv_bipush (v := 30) hx hb dX9_daysIn_45 (by decide) ?_
      refine lv_goto (tgt := 52) hx hb dX9_daysIn_47 (by decide) ?_
      exact W.iret (v := 30) hx hb hr (fun t ht hW => ⟨30, rfl, (by first | exact di_c (by omega) | exact di_d (by omega) (by omega)), ht⟩) (fun _ h => absurd h List.not_mem_nil) dX9_daysIn_52
    · have c24_2 : ¬ (((mo : Nat) : Int) = 4) := mt (cv_eq (nI_toInt (by omega)) (by decide)).mpr c24_2
      refine lv_iload_n hx hb dX9_daysIn_27 rfl (lv_at hl 1 rfl) ?_
      refine lv_bipush (v := 6) hx hb dX9_daysIn_28 (by decide) ?_
      refine lv_icmp_eq (tgt := 45) hx hb dX9_daysIn_30 (by decide) (fun c30_3 => ?_) (fun c30_3 => ?_)
      · have c30_3 : ((mo : Nat) : Int) = 6 := (cv_eq (nI_toInt (by omega)) (by decide)).mp c30_3
        refine lv_bipush (v := 30) hx hb dX9_daysIn_45 (by decide) ?_
        refine lv_goto (tgt := 52) hx hb dX9_daysIn_47 (by decide) ?_
        exact W.iret (v := 30) hx hb hr (fun t ht hW => ⟨30, rfl, (by first | exact di_c (by omega) | exact di_d (by omega) (by omega)), ht⟩) (fun _ h => absurd h List.not_mem_nil) dX9_daysIn_52
      · have c30_3 : ¬ (((mo : Nat) : Int) = 6) := mt (cv_eq (nI_toInt (by omega)) (by decide)).mpr c30_3
        refine lv_iload_n hx hb dX9_daysIn_33 rfl (lv_at hl 1 rfl) ?_
        refine lv_bipush (v := 9) hx hb dX9_daysIn_34 (by decide) ?_
        refine lv_icmp_eq (tgt := 45) hx hb dX9_daysIn_36 (by decide) (fun c36_4 => ?_) (fun c36_4 => ?_)
        · have c36_4 : ((mo : Nat) : Int) = 9 := (cv_eq (nI_toInt (by omega)) (by decide)).mp c36_4
          refine lv_bipush (v := 30) hx hb dX9_daysIn_45 (by decide) ?_
          refine lv_goto (tgt := 52) hx hb dX9_daysIn_47 (by decide) ?_
          exact W.iret (v := 30) hx hb hr (fun t ht hW => ⟨30, rfl, (by first | exact di_c (by omega) | exact di_d (by omega) (by omega)), ht⟩) (fun _ h => absurd h List.not_mem_nil) dX9_daysIn_52
        · have c36_4 : ¬ (((mo : Nat) : Int) = 9) := mt (cv_eq (nI_toInt (by omega)) (by decide)).mpr c36_4
          refine lv_iload_n hx hb dX9_daysIn_39 rfl (lv_at hl 1 rfl) ?_
          refine lv_bipush (v := 11) hx hb dX9_daysIn_40 (by decide) ?_
          refine lv_icmp_ne (tgt := 50) hx hb dX9_daysIn_42 (by decide) (fun c42_5 => ?_) (fun c42_5 => ?_)
          · have c42_5 : ¬ (((mo : Nat) : Int) = 11) := mt (cv_eq (nI_toInt (by omega)) (by decide)).mpr c42_5
            refine lv_bipush (v := 31) hx hb dX9_daysIn_50 (by decide) ?_
            exact W.iret (v := 31) hx hb hr (fun t ht hW => ⟨31, rfl, (by first | exact di_c (by omega) | exact di_d (by omega) (by omega)), ht⟩) (fun _ h => absurd h List.not_mem_nil) dX9_daysIn_52
          · have c42_5 : ((mo : Nat) : Int) = 11 := (cv_eq (nI_toInt (by omega)) (by decide)).mp c42_5
            refine lv_bipush (v := 30) hx hb dX9_daysIn_45 (by decide) ?_
            refine lv_goto (tgt := 52) hx hb dX9_daysIn_47 (by decide) ?_
            exact W.iret (v := 30) hx hb hr (fun t ht hW => ⟨30, rfl, (by first | exact di_c (by omega) | exact di_d (by omega) (by omega)), ht⟩) (fun _ h => absurd h List.not_mem_nil) dX9_daysIn_52
  · have c2_1 : ((mo : Nat) : Int) = 2 := (cv_eq (nI_toInt (by omega)) (by decide)).mp c2_1
    refine lv_iload_n hx hb dX9_daysIn_5 rfl (lv_at hl 0 rfl) ?_
    have hPc := hP.sub (ws' := []) [] rfl
    have hKc := hK.sub (tys' := []) [] rfl
    refine vp_callSi ((va_runS (As := [.int (nI y)]) (rest := []) ⟨hx, hb, hml, hown, hts⟩ (c_lp l dC dI g (y) (by omega)) (va_cwS 1 hts (gwS qw_387 qw_388 qw_386 qw_385) rfl rfl rfl (by decide +kernel) ⟨Nat.le_of_ble_eq_true rfl, Nat.le_of_ble_eq_true rfl⟩) ⟨fun a U g9 mk q => ⟨q.1, q.2.1, va_K.moved (u := U) (U := U.calling g9 mk a) (Vm.Alike.refl U.vm) q.2.2.1, Ev.bl q.2.2.2⟩, fun U hU hW => ⟨rfl, by rw [hU]; exact hPc, va_K.moved hW.alike hKc, hE.go hS (fun _ h => h.elim) hU hW⟩⟩ rfl rfl hl.1 rfl (lv_room (Nat.le_of_ble_eq_true rfl)) dX9_daysIn_6 ⟨Nat.le_of_ble_eq_true rfl, Nat.le_of_ble_eq_true rfl⟩)).run (fun r6 h_r6 => ?_)
    rcases h_r6 with ⟨hq7, rfl⟩ | ⟨hq7, rfl⟩
    · refine lv_if_eq (tgt := 17) hx hb dX9_daysIn_9 (by decide) (fun c9_8 => by exfalso; exact absurd c9_8 (by decide)) (fun c9_8 => ?_)
      refine lv_bipush (v := 29) hx hb dX9_daysIn_12 (by decide) ?_
      refine lv_goto (tgt := 52) hx hb dX9_daysIn_14 (by decide) ?_
      exact W.iret (v := 29) hx hb hr (fun t ht hW => ⟨29, rfl, (di_a (by omega) hq7), ht⟩) (fun _ h => absurd h List.not_mem_nil) dX9_daysIn_52
    · refine lv_if_eq (tgt := 17) hx hb dX9_daysIn_9 (by decide) (fun c9_9 => ?_) (fun c9_9 => by exfalso; exact absurd c9_9 (by decide))
      refine lv_bipush (v := 28) hx hb dX9_daysIn_17 (by decide) ?_
      refine lv_goto (tgt := 52) hx hb dX9_daysIn_19 (by decide) ?_
      exact W.iret (v := 28) hx hb hr (fun t ht hW => ⟨28, rfl, (di_b (by omega) hq7), ht⟩) (fun _ h => absurd h List.not_mem_nil) dX9_daysIn_52
set_option maxHeartbeats 4000000 in
set_option maxRecDepth 100000 in
theorem c_fo (l : Launch) (dC : Nat → ClassId) (dI : Nat → Nat → Nat) (g : Gv) (k : Nat) (hk : k < 600) : Met l yX9_firstOf (.code yX9_firstOf cX9_firstOf 3 (some .int) :: TBL) ({ frames := 1, cells := 0, slots := 0, locals := 40 }) (va_Pc [.int (nI (1700 + k))] (fun U => va_P (dC, dI) vwCl [] U.heap ∧ va_K (dC, dI) vwCl [] U ∧ Ev g (fun _ => False) U)) (vp_Si (fun r => r = nI (Fk k))) 0 0 (fun _ => False) := by
  refine Met.ofW (cc := cX9_firstOf) (maxL := 3) (ret := (some .int)) (by decide) rfl ?_
  intro p e s m args below meth c s₁ B hml hv
  obtain ⟨rfl, hP, hK, hE⟩ := hv
  have hx := B.exec
  have hb := B.bytes
  have hr := B.returns
  have hts0 := atoms_spec (ws := (.code yX9_firstOf cX9_firstOf 3 (some .int) :: TBL)) B.pre
  have hts := fun (w : Cond) (h : w ∈ TBL) => hts0 w (List.mem_cons_of_mem _ h)
  have hown : s.vm.findClass RX9 = some m.cls := findClass_of_methodNamed B.named
  have hlocks := B.notSynchronized
  have hN := hE.1
  have hS : va_S (fun _ => False) s.heap s.heap [] := va_S.rf
  have hP : va_P (dC, dI) vwCl [] s.heap := hP
  have hl := lv_entry ([.int (nI (1700 + k))]) (n := 3) (Nat.le_of_ble_eq_true rfl)
  rw [lg_entry_eq]
  generalize (lg_sl ([.int (nI (1700 + k))]) ++ List.replicate (3 - (lg_sl ([.int (nI (1700 + k))])).length) Slot.unset).toArray = ls at hl ⊢
  have hl : lv_has ls 3 [(0, .int (nI (1700 + k)))] := hl
  refine lv_iconst (v := 0) hx hb dX9_firstOf_0 (by decide) ?_
  refine lv_istore_n (lv' := [(1, .int 0), (0, .int (nI (1700 + k)))]) hx hb dX9_firstOf_1 rfl hl (by decide) rfl (fun ls hl => ?_)
  refine lv_sipush (v := 1700) hx hb dX9_firstOf_2 (by decide) ?_
  refine lv_istore_n (lv' := [(2, .int 1700), (1, .int 0), (0, .int (nI (1700 + k)))]) hx hb dX9_firstOf_5 rfl hl (by decide) rfl (fun ls hl => ?_)
  refine wloop (fun n H locs ls => ∃ (j : Nat), n = k - j ∧ (j ≤ k) ∧ lv_has ls 3 [(0, .int (nI (1700 + k))), (1, .int (nI (Fk j))), (2, .int (nI (1700 + j)))] ∧ H = s.heap ∧ locs = []) ?_ (k - (0)) _ _ _ ⟨0, rfl, (by omega), lv_sub hl [2, 1, 0] rfl, rfl, rfl⟩
  intro n H locs ls hI ih
  obtain ⟨j, hn9, j2, hl, rfl, rfl⟩ := hI
  refine lv_iload_n hx hb dX9_firstOf_6 rfl (lv_at hl 2 rfl) ?_
  refine lv_iload_n hx hb dX9_firstOf_7 rfl (lv_at hl 0 rfl) ?_
  refine lv_icmp_ge (tgt := 36) hx hb dX9_firstOf_8 (by decide) (fun c8_1 => ?_) (fun c8_1 => ?_)
  · have c8_1 : ((1700 + k : Nat) : Int) ≤ ((1700 + j : Nat) : Int) := (cv_le (nI_toInt (by omega)) (nI_toInt (by omega))).mp c8_1
    refine lv_iload_n hx hb dX9_firstOf_36 rfl (lv_at hl 1 rfl) ?_
    exact W.iret (v := (nI (Fk j))) hx hb hr (fun t ht hW => ⟨(nI (Fk j)), rfl, (by rw [show j = k by omega]), ht⟩) (fun _ h => absurd h List.not_mem_nil) dX9_firstOf_37
  · have c8_1 : ¬ (((1700 + k : Nat) : Int) ≤ ((1700 + j : Nat) : Int)) := mt (cv_le (nI_toInt (by omega)) (nI_toInt (by omega))).mpr c8_1
    refine lv_iload_n hx hb dX9_firstOf_11 rfl (lv_at hl 1 rfl) ?_
    refine lv_iload_n hx hb dX9_firstOf_12 rfl (lv_at hl 2 rfl) ?_
    have hPc := hP.sub (ws' := []) [] rfl
    have hKc := hK.sub (tys' := []) [] rfl
    refine vp_callSi ((va_runS (As := [.int (nI (1700 + j))]) (rest := [.int (nI (Fk j))]) ⟨hx, hb, hml, hown, hts⟩ (c_lp l dC dI g (1700 + j) (by omega)) (va_cwS 1 hts (gwS qw_387 qw_388 qw_386 qw_385) rfl rfl rfl (by decide +kernel) ⟨Nat.le_of_ble_eq_true rfl, Nat.le_of_ble_eq_true rfl⟩) ⟨fun a U g9 mk q => ⟨q.1, q.2.1, va_K.moved (u := U) (U := U.calling g9 mk a) (Vm.Alike.refl U.vm) q.2.2.1, Ev.bl q.2.2.2⟩, fun U hU hW => ⟨rfl, by rw [hU]; exact hPc, va_K.moved hW.alike hKc, hE.go hS (fun _ h => h.elim) hU hW⟩⟩ rfl rfl hl.1 rfl (lv_room (Nat.le_of_ble_eq_true rfl)) dX9_firstOf_13 ⟨Nat.le_of_ble_eq_true rfl, Nat.le_of_ble_eq_true rfl⟩)).run (fun r2 h_r2 => ?_)
    rcases h_r2 with ⟨hq3, rfl⟩ | ⟨hq3, rfl⟩
    · refine lv_if_eq (tgt := 25) hx hb dX9_firstOf_16 (by decide) (fun c16_4 => by exfalso; exact absurd c16_4 (by decide)) (fun c16_4 => ?_)
      refine lv_sipush (v := 366) hx hb dX9_firstOf_19 (by decide) ?_
      refine lv_goto (tgt := 28) hx hb dX9_firstOf_22 (by decide) ?_
      refine lv_iadd hx hb dX9_firstOf_28 ?_
      refine cst (v := nI (Fk (j + 1))) (fo_1 (by omega) hq3) ?_
      refine lv_istore_n (lv' := [(1, .int (nI (Fk (j + 1)))), (0, .int (nI (1700 + k))), (2, .int (nI (1700 + j)))]) hx hb dX9_firstOf_29 rfl hl (by decide) rfl (fun ls hl => ?_)
      refine lv_iinc (v := (nI (1700 + j + 1))) (lv' := [(2, .int (nI (1700 + j + 1))), (1, .int (nI (Fk (j + 1)))), (0, .int (nI (1700 + k)))]) hx hb dX9_firstOf_30 hl (k := 2) rfl (nI_add (1700 + j) 1) (by decide) rfl (fun ls hl => ?_)
      refine lv_goto (tgt := 6) hx hb dX9_firstOf_33 (by decide) ?_
      exact ih (k - (j + 1)) _ _ _ (by omega) ⟨j + 1, rfl, (by omega), lv_sub hl [2, 1, 0] rfl, rfl, rfl⟩
    · refine lv_if_eq (tgt := 25) hx hb dX9_firstOf_16 (by decide) (fun c16_5 => ?_) (fun c16_5 => by exfalso; exact absurd c16_5 (by decide))
      refine lv_sipush (v := 365) hx hb dX9_firstOf_25 (by decide) ?_
      refine lv_iadd hx hb dX9_firstOf_28 ?_
      refine cst (v := nI (Fk (j + 1))) (fo_0 (by omega) hq3) ?_
      refine lv_istore_n (lv' := [(1, .int (nI (Fk (j + 1)))), (0, .int (nI (1700 + k))), (2, .int (nI (1700 + j)))]) hx hb dX9_firstOf_29 rfl hl (by decide) rfl (fun ls hl => ?_)
      refine lv_iinc (v := (nI (1700 + j + 1))) (lv' := [(2, .int (nI (1700 + j + 1))), (1, .int (nI (Fk (j + 1)))), (0, .int (nI (1700 + k)))]) hx hb dX9_firstOf_30 hl (k := 2) rfl (nI_add (1700 + j) 1) (by decide) rfl (fun ls hl => ?_)
      refine lv_goto (tgt := 6) hx hb dX9_firstOf_33 (by decide) ?_
      exact ih (k - (j + 1)) _ _ _ (by omega) ⟨j + 1, rfl, (by omega), lv_sub hl [2, 1, 0] rfl, rfl, rfl⟩
set_option maxHeartbeats 4000000 in
set_option maxRecDepth 100000 in
theorem c_do (l : Launch) (dC : Nat → ClassId) (dI : Nat → Nat → Nat) (g : Gv) (k : Nat) (mo : Nat) (d : Nat) (hk : k < 600) (hm1 : 1 ≤ mo) (hm2 : mo ≤ 12) (hd1 : 1 ≤ d) (hd2 : d ≤ 31) : Met l yX9_dayOf (.code yX9_dayOf cX9_dayOf 5 (some .int) :: TBL) ({ frames := 2, cells := 0, slots := 0, locals := 80 }) (va_Pc [.int (nI (1700 + k)), .int (nI mo), .int (nI d)] (fun U => va_P (dC, dI) vwCl [] U.heap ∧ va_K (dC, dI) vwCl [] U ∧ Ev g (fun _ => False) U)) (vp_Si (fun r => r = nI (Fk k + Mk (1700 + k) mo + d - 1))) 0 0 (fun _ => False) := by
  refine Met.ofW (cc := cX9_dayOf) (maxL := 5) (ret := (some .int)) (by decide) rfl ?_
  intro p e s m args below meth c s₁ B hml hv
  obtain ⟨rfl, hP, hK, hE⟩ := hv
  have hx := B.exec
  have hb := B.bytes
  have hr := B.returns
  have hts0 := atoms_spec (ws := (.code yX9_dayOf cX9_dayOf 5 (some .int) :: TBL)) B.pre
  have hts := fun (w : Cond) (h : w ∈ TBL) => hts0 w (List.mem_cons_of_mem _ h)
  have hown : s.vm.findClass RX9 = some m.cls := findClass_of_methodNamed B.named
  have hlocks := B.notSynchronized
  have hN := hE.1
  have hS : va_S (fun _ => False) s.heap s.heap [] := va_S.rf
  have hP : va_P (dC, dI) vwCl [] s.heap := hP
  have hl := lv_entry ([.int (nI (1700 + k)), .int (nI mo), .int (nI d)]) (n := 5) (Nat.le_of_ble_eq_true rfl)
  rw [lg_entry_eq]
  generalize (lg_sl ([.int (nI (1700 + k)), .int (nI mo), .int (nI d)]) ++ List.replicate (5 - (lg_sl ([.int (nI (1700 + k)), .int (nI mo), .int (nI d)])).length) Slot.unset).toArray = ls at hl ⊢
  have hl : lv_has ls 5 [(0, .int (nI (1700 + k))), (1, .int (nI mo)), (2, .int (nI d))] := hl
  have hb2 := Fk_b (k := k) (by omega)
  refine lv_iload_n hx hb dX9_dayOf_0 rfl (lv_at hl 0 rfl) ?_
  have hPc := hP.sub (ws' := []) [] rfl
  have hKc := hK.sub (tys' := []) [] rfl
  refine vp_callSi ((va_runS (As := [.int (nI (1700 + k))]) (rest := []) ⟨hx, hb, hml, hown, hts⟩ (c_fo l dC dI g (k) hk) (va_cwS 1 hts (gwS qw_390 qw_391 qw_386 qw_389) rfl rfl rfl (by decide +kernel) ⟨Nat.le_of_ble_eq_true rfl, Nat.le_of_ble_eq_true rfl⟩) ⟨fun a U g9 mk q => ⟨q.1, q.2.1, va_K.moved (u := U) (U := U.calling g9 mk a) (Vm.Alike.refl U.vm) q.2.2.1, Ev.bl q.2.2.2⟩, fun U hU hW => ⟨rfl, by rw [hU]; exact hPc, va_K.moved hW.alike hKc, hE.go hS (fun _ h => h.elim) hU hW⟩⟩ rfl rfl hl.1 rfl (lv_room (Nat.le_of_ble_eq_true rfl)) dX9_dayOf_1 ⟨Nat.le_of_ble_eq_true rfl, Nat.le_of_ble_eq_true rfl⟩)).run (fun r1 h_r1 => ?_)
  have h_r1 : r1 = nI (Fk k) := h_r1
  subst h_r1
  refine lv_iload_n hx hb dX9_dayOf_4 rfl (lv_at hl 2 rfl) ?_
  refine lv_iadd hx hb dX9_dayOf_5 ?_
  refine cst (v := nI ((Fk k) + d)) (nI_add (Fk k) d) ?_
  refine lv_iconst (v := 1) hx hb dX9_dayOf_6 (by decide) ?_
  refine lv_isub hx hb dX9_dayOf_7 ?_
  refine cst (v := nI (Fk k + d - 1)) (pk_sub (a := Fk k + d) (b := 1) (by omega)) ?_
  refine lv_istore_n (lv' := [(3, .int (nI (Fk k + d - 1))), (0, .int (nI (1700 + k))), (1, .int (nI mo)), (2, .int (nI d))]) hx hb dX9_dayOf_8 rfl hl (by decide) rfl (fun ls hl => ?_)
  refine lv_iconst (v := 1) hx hb dX9_dayOf_9 (by decide) ?_
  refine lv_istore (lv' := [(4, .int 1), (3, .int (nI (Fk k + d - 1))), (0, .int (nI (1700 + k))), (1, .int (nI mo)), (2, .int (nI d))]) hx hb dX9_dayOf_10 hl (by decide) rfl (fun ls hl => ?_)
  refine wloop (fun n H locs ls => ∃ (j : Nat), n = mo - j ∧ (1 ≤ j) ∧ (j ≤ mo) ∧ lv_has ls 5 [(0, .int (nI (1700 + k))), (1, .int (nI mo)), (2, .int (nI d)), (3, .int (nI (Fk k + d - 1 + Mk (1700 + k) j))), (4, .int (nI j))] ∧ H = s.heap ∧ locs = []) ?_ (mo - (1)) _ _ _ ⟨1, rfl, (by omega), (by omega), lv_sub hl [2, 3, 4, 1, 0] rfl, rfl, rfl⟩
  intro n H locs ls hI ih
  obtain ⟨j, hn9, j1, j2, hl, rfl, rfl⟩ := hI
  refine lv_iload hx hb dX9_dayOf_12 (lv_at hl 4 rfl) ?_
  refine lv_iload_n hx hb dX9_dayOf_14 rfl (lv_at hl 1 rfl) ?_
  refine lv_icmp_ge (tgt := 33) hx hb dX9_dayOf_15 (by decide) (fun c15_2 => ?_) (fun c15_2 => ?_)
  · have c15_2 : ((mo : Nat) : Int) ≤ ((j : Nat) : Int) := (cv_le (nI_toInt (by omega)) (nI_toInt (by omega))).mp c15_2
    refine lv_iload_n hx hb dX9_dayOf_33 rfl (lv_at hl 3 rfl) ?_
    exact W.iret (v := (nI (Fk k + d - 1 + Mk (1700 + k) j))) hx hb hr (fun t ht hW => ⟨(nI (Fk k + d - 1 + Mk (1700 + k) j)), rfl, (by rw [show j = mo by omega]; congr 1; omega), ht⟩) (fun _ h => absurd h List.not_mem_nil) dX9_dayOf_34
  · have c15_2 : ¬ (((mo : Nat) : Int) ≤ ((j : Nat) : Int)) := mt (cv_le (nI_toInt (by omega)) (nI_toInt (by omega))).mpr c15_2
    refine lv_iload_n hx hb dX9_dayOf_18 rfl (lv_at hl 3 rfl) ?_
    refine lv_iload_n hx hb dX9_dayOf_19 rfl (lv_at hl 0 rfl) ?_
    refine lv_iload hx hb dX9_dayOf_20 (lv_at hl 4 rfl) ?_
    have hPc := hP.sub (ws' := []) [] rfl
    have hKc := hK.sub (tys' := []) [] rfl
    refine vp_callSi ((va_runS (As := [.int (nI (1700 + k)), .int (nI j)]) (rest := [.int (nI (Fk k + d - 1 + Mk (1700 + k) j))]) ⟨hx, hb, hml, hown, hts⟩ (c_di l dC dI g (1700 + k) (j) (by omega) (by omega) (by omega)) (va_cwS 2 hts (gwS qw_393 qw_394 qw_386 qw_392) rfl rfl rfl (by decide +kernel) ⟨Nat.le_of_ble_eq_true rfl, Nat.le_of_ble_eq_true rfl⟩) ⟨fun a U g9 mk q => ⟨q.1, q.2.1, va_K.moved (u := U) (U := U.calling g9 mk a) (Vm.Alike.refl U.vm) q.2.2.1, Ev.bl q.2.2.2⟩, fun U hU hW => ⟨rfl, by rw [hU]; exact hPc, va_K.moved hW.alike hKc, hE.go hS (fun _ h => h.elim) hU hW⟩⟩ rfl rfl hl.1 rfl (lv_room (Nat.le_of_ble_eq_true rfl)) dX9_dayOf_22 ⟨Nat.le_of_ble_eq_true rfl, Nat.le_of_ble_eq_true rfl⟩)).run (fun r3 h_r3 => ?_)
    have h_r3 : r3 = nI (mlN (1700 + k) j) := h_r3
    subst h_r3
    refine lv_iadd hx hb dX9_dayOf_25 ?_
    refine cst (v := nI (Fk k + d - 1 + Mk (1700 + k) (j + 1))) (by rw [nI_add, Nat.add_assoc, ← Mk_s j1]) ?_
    refine lv_istore_n (lv' := [(3, .int (nI (Fk k + d - 1 + Mk (1700 + k) (j + 1)))), (0, .int (nI (1700 + k))), (1, .int (nI mo)), (2, .int (nI d)), (4, .int (nI j))]) hx hb dX9_dayOf_26 rfl hl (by decide) rfl (fun ls hl => ?_)
    refine lv_iinc (v := (nI (j + 1))) (lv' := [(4, .int (nI (j + 1))), (3, .int (nI (Fk k + d - 1 + Mk (1700 + k) (j + 1)))), (0, .int (nI (1700 + k))), (1, .int (nI mo)), (2, .int (nI d))]) hx hb dX9_dayOf_27 hl (k := 4) rfl (nI_add (j) 1) (by decide) rfl (fun ls hl => ?_)
    refine lv_goto (tgt := 12) hx hb dX9_dayOf_30 (by decide) ?_
    exact ih (mo - (j + 1)) _ _ _ (by omega) ⟨j + 1, rfl, (by omega), (by omega), lv_sub hl [2, 3, 4, 1, 0] rfl, rfl, rfl⟩
set_option maxHeartbeats 4000000 in
set_option maxRecDepth 100000 in
theorem kv_daysIn (l : Launch) (dC : Nat → ClassId) (dI : Nat → Nat → Nat) (g : Gv) (a0 : Int32) (a1 : Int32) (hy : 1700 ≤ a0.toInt ∧ a0.toInt ≤ 2299) (hm : 1 ≤ a1.toInt ∧ a1.toInt ≤ 12) : Met l yX9_daysIn (.code yX9_daysIn cX9_daysIn 2 (some .int) :: TBL) ({ frames := 1, cells := 0, slots := 0, locals := 40 }) (va_Pc [.int a0, .int a1] (fun U => va_P (dC, dI) vwCl [] U.heap ∧ va_K (dC, dI) vwCl [] U ∧ Ev g (fun _ => False) U)) (vp_Si (fun (r : Int32) => (r = nI (mlN a0.toInt.toNat a1.toInt.toNat)))) 0 0 (fun _ => False) := by
  obtain ⟨k, hk, rfl⟩ := i32n 1700 2299 hy (by omega)
  obtain ⟨mo, hmo, rfl⟩ := i32z 12 ⟨by omega, hm.2⟩ (by omega)
  rw [nI_toInt (by omega)] at hm
  have hb := mlN_b (1700 + k) mo
  rw [nIt (by omega), nIt (by omega)]
  exact c_di l dC dI g (1700 + k) mo (by omega) (by omega) hmo
set_option maxHeartbeats 4000000 in
set_option maxRecDepth 100000 in
theorem kv_dayOf (l : Launch) (dC : Nat → ClassId) (dI : Nat → Nat → Nat) (g : Gv) (a0 : Int32) (a1 : Int32) (a2 : Int32) (hy : 1700 ≤ a0.toInt ∧ a0.toInt ≤ 2299) (hm : 1 ≤ a1.toInt ∧ a1.toInt ≤ 12) (hd : 1 ≤ a2.toInt ∧ a2.toInt ≤ 31) : Met l yX9_dayOf (.code yX9_dayOf cX9_dayOf 5 (some .int) :: TBL) ({ frames := 2, cells := 0, slots := 0, locals := 80 }) (va_Pc [.int a0, .int a1, .int a2] (fun U => va_P (dC, dI) vwCl [] U.heap ∧ va_K (dC, dI) vwCl [] U ∧ Ev g (fun _ => False) U)) (vp_Si (fun (r : Int32) => (r = dW a0 a1 a2))) 0 0 (fun _ => False) := by
  obtain ⟨k, hk, rfl⟩ := i32n 1700 2299 hy (by omega)
  obtain ⟨mo, hmo, rfl⟩ := i32z 12 ⟨by omega, hm.2⟩ (by omega)
  obtain ⟨d, hdd, rfl⟩ := i32z 31 ⟨by omega, hd.2⟩ (by omega)
  rw [nI_toInt (by omega)] at hm hd
  rw [dW_nI (by omega) hmo hdd]
  exact c_do l dC dI g k mo d (by omega) (by omega) hmo (by omega) (by omega)
set_option maxHeartbeats 4000000 in
set_option maxRecDepth 100000 in
theorem kv_ta (l : Launch) (dC : Nat → ClassId) (dI : Nat → Nat → Nat) (g : Gv) (sz : Nat) (o9 : Nat) (v9_0 : Int32) (v9_1 : Int32) (v9_2 : Int32) (v9_3 : Int32) (v9_4 : Nat) (v9_5 : Int32) (v9_6 : Int32) (v9_7 : Int32) (v9_8 : Int32) (v9_9 : Int32) (v9_10 : Int32) (v9_11 : Int64) (v9_12 : Int32) (v9_13 : Int32) (v9_14 : Int32) (v9_15 : Int32) (v9_16 : Int32) (v9_17 : Int32) (v9_18 : Nat) (v9_19 : Nat) (v9_20 : Nat) (v9_21 : Nat) (v9_22 : Nat) (v9_23 : Nat) (v9_24 : Nat) (v9_25 : Nat) (v9_26 : Nat) (v9_27 : Nat) (v9_28 : Nat) (v9_29 : Nat) (v9_30 : Nat) (v9_31 : Nat) (v9_32 : Nat) (v9_33 : Nat) (v9_34 : Nat) (v9_35 : Nat) (v9_36 : Int64) (v9_37 : Int32) (v9_38 : Nat) (v9_39 : Nat) (v9_40 : Int32) (v9_41 : Nat) (v9_42 : Nat) (v9_43 : Nat) (d : Nat) (k : Nat) (mo : Nat) (dd : Nat) (hk : k < 600) (hm1 : 1 ≤ mo) (hm2 : mo ≤ 12) (hd1 : 1 ≤ dd) (hd2 : dd ≤ mlN (1700 + k) mo) (hd : d = Fk k + Mk (1700 + k) mo + (dd - 1)) : Met l yX9_tellsApart (.code yX9_tellsApart cX9_tellsApart 3 none :: TBL) ({ frames := 2, cells := 0, slots := 0, locals := 80 }) (va_Pc [.ref o9, .int (nI d)] (fun U => U.heap.size = sz ∧ va_P (dC, dI) vwCl [(o9, .inr (8, [.int v9_0, .int v9_1, .int v9_2, .int v9_3, .ref v9_4, .int v9_5, .int v9_6, .int v9_7, .int v9_8, .int v9_9, .int v9_10, .long v9_11, .int v9_12, .int v9_13, .int v9_14, .int v9_15, .int v9_16, .int v9_17, .ref v9_18, .ref v9_19, .ref v9_20, .ref v9_21, .ref v9_22, .ref v9_23, .ref v9_24, .ref v9_25, .ref v9_26, .ref v9_27, .ref v9_28, .ref v9_29, .ref v9_30, .ref v9_31, .ref v9_32, .ref v9_33, .ref v9_34, .ref v9_35, .long v9_36, .int v9_37, .ref v9_38, .ref v9_39, .int v9_40, .ref v9_41, .ref v9_42, .ref v9_43]))] U.heap ∧ va_K (dC, dI) vwCl [] U ∧ va_D (fun _ => True) [(o9, .inr (8, [.int v9_0, .int v9_1, .int v9_2, .int v9_3, .ref v9_4, .int v9_5, .int v9_6, .int v9_7, .int v9_8, .int v9_9, .int v9_10, .long v9_11, .int v9_12, .int v9_13, .int v9_14, .int v9_15, .int v9_16, .int v9_17, .ref v9_18, .ref v9_19, .ref v9_20, .ref v9_21, .ref v9_22, .ref v9_23, .ref v9_24, .ref v9_25, .ref v9_26, .ref v9_27, .ref v9_28, .ref v9_29, .ref v9_30, .ref v9_31, .ref v9_32, .ref v9_33, .ref v9_34, .ref v9_35, .long v9_36, .int v9_37, .ref v9_38, .ref v9_39, .int v9_40, .ref v9_41, .ref v9_42, .ref v9_43]))] ∧ Ev g (va_A [(o9, .inr (8, [.int v9_0, .int v9_1, .int v9_2, .int v9_3, .ref v9_4, .int v9_5, .int v9_6, .int v9_7, .int v9_8, .int v9_9, .int v9_10, .long v9_11, .int v9_12, .int v9_13, .int v9_14, .int v9_15, .int v9_16, .int v9_17, .ref v9_18, .ref v9_19, .ref v9_20, .ref v9_21, .ref v9_22, .ref v9_23, .ref v9_24, .ref v9_25, .ref v9_26, .ref v9_27, .ref v9_28, .ref v9_29, .ref v9_30, .ref v9_31, .ref v9_32, .ref v9_33, .ref v9_34, .ref v9_35, .long v9_36, .int v9_37, .ref v9_38, .ref v9_39, .int v9_40, .ref v9_41, .ref v9_42, .ref v9_43]))] sz) U)) (va_Qv (fun (u : Unit) => True) (fun (u : Unit) (t : State) => va_P (dC, dI) vwCl [(o9, .inr (8, [.int v9_0, .int (nI (1700 + k)), .int (nI mo), .int (nI dd), .ref v9_4, .int v9_5, .int v9_6, .int v9_7, .int v9_8, .int v9_9, .int v9_10, .long v9_11, .int v9_12, .int v9_13, .int v9_14, .int v9_15, .int v9_16, .int v9_17, .ref v9_18, .ref v9_19, .ref v9_20, .ref v9_21, .ref v9_22, .ref v9_23, .ref v9_24, .ref v9_25, .ref v9_26, .ref v9_27, .ref v9_28, .ref v9_29, .ref v9_30, .ref v9_31, .ref v9_32, .ref v9_33, .ref v9_34, .ref v9_35, .long v9_36, .int v9_37, .ref v9_38, .ref v9_39, .int v9_40, .ref v9_41, .ref v9_42, .ref v9_43]))] t.heap ∧ va_K (dC, dI) vwCl [] t ∧ va_D (va_A [(o9, .inr (8, [.int v9_0, .int v9_1, .int v9_2, .int v9_3, .ref v9_4, .int v9_5, .int v9_6, .int v9_7, .int v9_8, .int v9_9, .int v9_10, .long v9_11, .int v9_12, .int v9_13, .int v9_14, .int v9_15, .int v9_16, .int v9_17, .ref v9_18, .ref v9_19, .ref v9_20, .ref v9_21, .ref v9_22, .ref v9_23, .ref v9_24, .ref v9_25, .ref v9_26, .ref v9_27, .ref v9_28, .ref v9_29, .ref v9_30, .ref v9_31, .ref v9_32, .ref v9_33, .ref v9_34, .ref v9_35, .long v9_36, .int v9_37, .ref v9_38, .ref v9_39, .int v9_40, .ref v9_41, .ref v9_42, .ref v9_43]))] sz) [(o9, .inr (8, [.int v9_0, .int (nI (1700 + k)), .int (nI mo), .int (nI dd), .ref v9_4, .int v9_5, .int v9_6, .int v9_7, .int v9_8, .int v9_9, .int v9_10, .long v9_11, .int v9_12, .int v9_13, .int v9_14, .int v9_15, .int v9_16, .int v9_17, .ref v9_18, .ref v9_19, .ref v9_20, .ref v9_21, .ref v9_22, .ref v9_23, .ref v9_24, .ref v9_25, .ref v9_26, .ref v9_27, .ref v9_28, .ref v9_29, .ref v9_30, .ref v9_31, .ref v9_32, .ref v9_33, .ref v9_34, .ref v9_35, .long v9_36, .int v9_37, .ref v9_38, .ref v9_39, .int v9_40, .ref v9_41, .ref v9_42, .ref v9_43]))]) (va_A [(o9, .inr (8, [.int v9_0, .int v9_1, .int v9_2, .int v9_3, .ref v9_4, .int v9_5, .int v9_6, .int v9_7, .int v9_8, .int v9_9, .int v9_10, .long v9_11, .int v9_12, .int v9_13, .int v9_14, .int v9_15, .int v9_16, .int v9_17, .ref v9_18, .ref v9_19, .ref v9_20, .ref v9_21, .ref v9_22, .ref v9_23, .ref v9_24, .ref v9_25, .ref v9_26, .ref v9_27, .ref v9_28, .ref v9_29, .ref v9_30, .ref v9_31, .ref v9_32, .ref v9_33, .ref v9_34, .ref v9_35, .long v9_36, .int v9_37, .ref v9_38, .ref v9_39, .int v9_40, .ref v9_41, .ref v9_42, .ref v9_43]))] sz)) 0 0 (va_A [(o9, .inr (8, [.int v9_0, .int v9_1, .int v9_2, .int v9_3, .ref v9_4, .int v9_5, .int v9_6, .int v9_7, .int v9_8, .int v9_9, .int v9_10, .long v9_11, .int v9_12, .int v9_13, .int v9_14, .int v9_15, .int v9_16, .int v9_17, .ref v9_18, .ref v9_19, .ref v9_20, .ref v9_21, .ref v9_22, .ref v9_23, .ref v9_24, .ref v9_25, .ref v9_26, .ref v9_27, .ref v9_28, .ref v9_29, .ref v9_30, .ref v9_31, .ref v9_32, .ref v9_33, .ref v9_34, .ref v9_35, .long v9_36, .int v9_37, .ref v9_38, .ref v9_39, .int v9_40, .ref v9_41, .ref v9_42, .ref v9_43]))] sz) := by
  refine Met.ofW (cc := cX9_tellsApart) (maxL := 3) (ret := none) (by decide) rfl ?_
  intro p e s m args below meth c s₁ B hml hv
  obtain ⟨rfl, hsz, hP, hK, hD0, hE⟩ := hv
  have hx := B.exec
  have hb := B.bytes
  have hr := B.returns
  have hts0 := atoms_spec (ws := (.code yX9_tellsApart cX9_tellsApart 3 none :: TBL)) B.pre
  have hts := fun (w : Cond) (h : w ∈ TBL) => hts0 w (List.mem_cons_of_mem _ h)
  have hown : s.vm.findClass RX9 = some m.cls := findClass_of_methodNamed B.named
  have hlocks := B.notSynchronized
  have hN := hE.1
  subst hsz
  have hD := hD0.self (sz := s.heap.size)
  generalize hAe : va_A [(o9, .inr (8, [.int v9_0, .int v9_1, .int v9_2, .int v9_3, .ref v9_4, .int v9_5, .int v9_6, .int v9_7, .int v9_8, .int v9_9, .int v9_10, .long v9_11, .int v9_12, .int v9_13, .int v9_14, .int v9_15, .int v9_16, .int v9_17, .ref v9_18, .ref v9_19, .ref v9_20, .ref v9_21, .ref v9_22, .ref v9_23, .ref v9_24, .ref v9_25, .ref v9_26, .ref v9_27, .ref v9_28, .ref v9_29, .ref v9_30, .ref v9_31, .ref v9_32, .ref v9_33, .ref v9_34, .ref v9_35, .long v9_36, .int v9_37, .ref v9_38, .ref v9_39, .int v9_40, .ref v9_41, .ref v9_42, .ref v9_43]))] s.heap.size = A at hD hE ⊢
  have hA : ∀ q : Nat, s.heap.size ≤ q → A q := fun q h => by rw [← hAe]; exact Or.inr h
  have hS : va_S A s.heap s.heap [] := va_S.rf
  have hP : va_P (dC, dI) vwCl [(o9, .inr (8, [.int v9_0, .int v9_1, .int v9_2, .int v9_3, .ref v9_4, .int v9_5, .int v9_6, .int v9_7, .int v9_8, .int v9_9, .int v9_10, .long v9_11, .int v9_12, .int v9_13, .int v9_14, .int v9_15, .int v9_16, .int v9_17, .ref v9_18, .ref v9_19, .ref v9_20, .ref v9_21, .ref v9_22, .ref v9_23, .ref v9_24, .ref v9_25, .ref v9_26, .ref v9_27, .ref v9_28, .ref v9_29, .ref v9_30, .ref v9_31, .ref v9_32, .ref v9_33, .ref v9_34, .ref v9_35, .long v9_36, .int v9_37, .ref v9_38, .ref v9_39, .int v9_40, .ref v9_41, .ref v9_42, .ref v9_43]))] s.heap := hP
  have hl := lv_entry ([.ref o9, .int (nI d)]) (n := 3) (Nat.le_of_ble_eq_true rfl)
  rw [lg_entry_eq]
  generalize (lg_sl ([.ref o9, .int (nI d)]) ++ List.replicate (3 - (lg_sl ([.ref o9, .int (nI d)])).length) Slot.unset).toArray = ls at hl ⊢
  have hl : lv_has ls 3 [(0, .ref o9), (1, .int (nI d))] := hl
  have hb1 := mlN_b (1700 + k) mo
  have h1 : Fk k ≤ d := by omega
  have h2 : d < Fk (k + 1) := by
    rw [Fk_s k hk]; have q1 := Mk_le (y := 1700 + k) (a := mo + 1) (b := 13) (by omega) (by omega); rw [Mk_13, Mk_s hm1] at q1; omega
  have hd9 : d < 219145 := by have := Fk_b (k := k + 1) (by omega); omega
  have hb3 := Mk_b (y := 1700 + k) hm1 hm2
  have hb2 := Fk_b (k := k) (by omega)
  refine lv_iload_n hx hb dX9_tellsApart_0 rfl (lv_at hl 1 rfl) ?_
  refine lv_istore_n (lv' := [(2, .int (nI d)), (0, .ref o9), (1, .int (nI d))]) hx hb dX9_tellsApart_1 rfl hl (by decide) rfl (fun ls hl => ?_)
  refine lv_aload_n hx hb dX9_tellsApart_2 rfl (lv_at hl 1 rfl) ?_
  refine lv_sipush (v := 1700) hx hb dX9_tellsApart_3 (by decide) ?_
  refine va_put (D := (dC, dI)) (ci := 8) (v := .int 1700) (ty := .int) (C := RX9) (T := TX9) (N := 44) hx hb hts inlX9 tyX9 tyX9_ok nmX9 hown hK hP hD hS 0 rfl rfl 1 (by decide) (hts (.fieldLink RX9 101 "ClosedUntilModel" "year" "I") qw_395) (fun _ h9 => h9) rfl (by decide +kernel) rfl rfl (Nat.le_of_ble_eq_true rfl) dX9_tellsApart_6 (fun H locs hP hD hS => ?_)
  have hP : va_P (dC, dI) vwCl [(o9, .inr (8, [.int v9_0, .int 1700, .int v9_2, .int v9_3, .ref v9_4, .int v9_5, .int v9_6, .int v9_7, .int v9_8, .int v9_9, .int v9_10, .long v9_11, .int v9_12, .int v9_13, .int v9_14, .int v9_15, .int v9_16, .int v9_17, .ref v9_18, .ref v9_19, .ref v9_20, .ref v9_21, .ref v9_22, .ref v9_23, .ref v9_24, .ref v9_25, .ref v9_26, .ref v9_27, .ref v9_28, .ref v9_29, .ref v9_30, .ref v9_31, .ref v9_32, .ref v9_33, .ref v9_34, .ref v9_35, .long v9_36, .int v9_37, .ref v9_38, .ref v9_39, .int v9_40, .ref v9_41, .ref v9_42, .ref v9_43]))] H := hP
  have hD : va_D A [(o9, .inr (8, [.int v9_0, .int 1700, .int v9_2, .int v9_3, .ref v9_4, .int v9_5, .int v9_6, .int v9_7, .int v9_8, .int v9_9, .int v9_10, .long v9_11, .int v9_12, .int v9_13, .int v9_14, .int v9_15, .int v9_16, .int v9_17, .ref v9_18, .ref v9_19, .ref v9_20, .ref v9_21, .ref v9_22, .ref v9_23, .ref v9_24, .ref v9_25, .ref v9_26, .ref v9_27, .ref v9_28, .ref v9_29, .ref v9_30, .ref v9_31, .ref v9_32, .ref v9_33, .ref v9_34, .ref v9_35, .long v9_36, .int v9_37, .ref v9_38, .ref v9_39, .int v9_40, .ref v9_41, .ref v9_42, .ref v9_43]))] := hD
  refine wloop (fun n H locs ls => ∃ (j : Nat), n = k - j ∧ (j ≤ k) ∧ (Fk j ≤ d) ∧ lv_has ls 3 [(0, .ref o9), (1, .int (nI d)), (2, .int (nI (d - Fk j)))] ∧ va_P (dC, dI) vwCl [(o9, .inr (8, [.int v9_0, .int (nI (1700 + j)), .int v9_2, .int v9_3, .ref v9_4, .int v9_5, .int v9_6, .int v9_7, .int v9_8, .int v9_9, .int v9_10, .long v9_11, .int v9_12, .int v9_13, .int v9_14, .int v9_15, .int v9_16, .int v9_17, .ref v9_18, .ref v9_19, .ref v9_20, .ref v9_21, .ref v9_22, .ref v9_23, .ref v9_24, .ref v9_25, .ref v9_26, .ref v9_27, .ref v9_28, .ref v9_29, .ref v9_30, .ref v9_31, .ref v9_32, .ref v9_33, .ref v9_34, .ref v9_35, .long v9_36, .int v9_37, .ref v9_38, .ref v9_39, .int v9_40, .ref v9_41, .ref v9_42, .ref v9_43]))] H ∧ va_D A [(o9, .inr (8, [.int v9_0, .int (nI (1700 + j)), .int v9_2, .int v9_3, .ref v9_4, .int v9_5, .int v9_6, .int v9_7, .int v9_8, .int v9_9, .int v9_10, .long v9_11, .int v9_12, .int v9_13, .int v9_14, .int v9_15, .int v9_16, .int v9_17, .ref v9_18, .ref v9_19, .ref v9_20, .ref v9_21, .ref v9_22, .ref v9_23, .ref v9_24, .ref v9_25, .ref v9_26, .ref v9_27, .ref v9_28, .ref v9_29, .ref v9_30, .ref v9_31, .ref v9_32, .ref v9_33, .ref v9_34, .ref v9_35, .long v9_36, .int v9_37, .ref v9_38, .ref v9_39, .int v9_40, .ref v9_41, .ref v9_42, .ref v9_43]))] ∧ va_S A s.heap H locs) ?_ (k - (0)) _ _ _ ⟨0, rfl, (by omega), (Nat.zero_le _), lv_sub hl [1, 2, 0] rfl, hP.sub [0] rfl, hD.sub [0] (by decide) rfl, hS⟩
  intro n H locs ls hI ih
  obtain ⟨j, hn9, j2, j3, hl, hP, hD, hS⟩ := hI
  refine lv_iload_n hx hb dX9_tellsApart_9 rfl (lv_at hl 2 rfl) ?_
  refine lv_aload_n hx hb dX9_tellsApart_10 rfl (lv_at hl 0 rfl) ?_
  refine va_get (D := (dC, dI)) (ci := 8) (v := .int (nI (1700 + j))) (C := RX9) (T := TX9) (N := 44) hx hb hts inlX9 hown hK hP 0 rfl rfl 1 (by decide) (hts (.fieldLink RX9 101 "ClosedUntilModel" "year" "I") qw_395) (fun _ h9 => h9) rfl dX9_tellsApart_11 ?_
  have hPc := hP.sub (ws' := []) [] rfl
  have hKc := hK.sub (tys' := []) [] rfl
  refine vp_callSi ((va_runS (As := [.int (nI (1700 + j))]) (rest := [.int (nI (d - Fk j))]) ⟨hx, hb, hml, hown, hts⟩ (c_lp l dC dI g (1700 + j) (by omega)) (va_cwS 1 hts (gwS qw_387 qw_388 qw_386 qw_385) rfl rfl rfl (by decide +kernel) ⟨Nat.le_of_ble_eq_true rfl, Nat.le_of_ble_eq_true rfl⟩) ⟨fun a U g9 mk q => ⟨q.1, q.2.1, va_K.moved (u := U) (U := U.calling g9 mk a) (Vm.Alike.refl U.vm) q.2.2.1, Ev.bl q.2.2.2⟩, fun U hU hW => ⟨rfl, by rw [hU]; exact hPc, va_K.moved hW.alike hKc, hE.go hS (fun _ h => h.elim) hU hW⟩⟩ rfl rfl hl.1 rfl (lv_room (Nat.le_of_ble_eq_true rfl)) dX9_tellsApart_14 ⟨Nat.le_of_ble_eq_true rfl, Nat.le_of_ble_eq_true rfl⟩)).run (fun r1 h_r1 => ?_)
  rcases h_r1 with ⟨hq2, rfl⟩ | ⟨hq2, rfl⟩
  · refine lv_if_eq (tgt := 26) hx hb dX9_tellsApart_17 (by decide) (fun c17_3 => by exfalso; exact absurd c17_3 (by decide)) (fun c17_3 => ?_)
    refine lv_sipush (v := 366) hx hb dX9_tellsApart_20 (by decide) ?_
    refine lv_goto (tgt := 29) hx hb dX9_tellsApart_23 (by decide) ?_
    refine lv_icmp_lt (tgt := 67) hx hb dX9_tellsApart_29 (by decide) (fun c29_4 => ?_) (fun c29_4 => ?_)
    · have c29_4 : ((d - Fk j : Nat) : Int) < 366 := (cv_lt (nI_toInt (by omega)) (by decide)).mp c29_4
      have hj9 : k = j := ta_j hk j2 h1 (yl_1 hq2) (by omega)
      subst hj9
      refine lv_aload_n hx hb dX9_tellsApart_67 rfl (lv_at hl 0 rfl) ?_
      refine lv_iconst (v := 1) hx hb dX9_tellsApart_68 (by decide) ?_
      refine va_put (D := (dC, dI)) (ci := 8) (v := .int 1) (ty := .int) (C := RX9) (T := TX9) (N := 44) hx hb hts inlX9 tyX9 tyX9_ok nmX9 hown hK hP hD hS 0 rfl rfl 2 (by decide) (hts (.fieldLink RX9 104 "ClosedUntilModel" "month" "I") qw_396) (fun _ h9 => h9) rfl (by decide +kernel) rfl rfl (Nat.le_of_ble_eq_true rfl) dX9_tellsApart_69 (fun H locs hP hD hS => ?_)
      have hP : va_P (dC, dI) vwCl [(o9, .inr (8, [.int v9_0, .int (nI (1700 + k)), .int 1, .int v9_3, .ref v9_4, .int v9_5, .int v9_6, .int v9_7, .int v9_8, .int v9_9, .int v9_10, .long v9_11, .int v9_12, .int v9_13, .int v9_14, .int v9_15, .int v9_16, .int v9_17, .ref v9_18, .ref v9_19, .ref v9_20, .ref v9_21, .ref v9_22, .ref v9_23, .ref v9_24, .ref v9_25, .ref v9_26, .ref v9_27, .ref v9_28, .ref v9_29, .ref v9_30, .ref v9_31, .ref v9_32, .ref v9_33, .ref v9_34, .ref v9_35, .long v9_36, .int v9_37, .ref v9_38, .ref v9_39, .int v9_40, .ref v9_41, .ref v9_42, .ref v9_43]))] H := hP
      have hD : va_D A [(o9, .inr (8, [.int v9_0, .int (nI (1700 + k)), .int 1, .int v9_3, .ref v9_4, .int v9_5, .int v9_6, .int v9_7, .int v9_8, .int v9_9, .int v9_10, .long v9_11, .int v9_12, .int v9_13, .int v9_14, .int v9_15, .int v9_16, .int v9_17, .ref v9_18, .ref v9_19, .ref v9_20, .ref v9_21, .ref v9_22, .ref v9_23, .ref v9_24, .ref v9_25, .ref v9_26, .ref v9_27, .ref v9_28, .ref v9_29, .ref v9_30, .ref v9_31, .ref v9_32, .ref v9_33, .ref v9_34, .ref v9_35, .long v9_36, .int v9_37, .ref v9_38, .ref v9_39, .int v9_40, .ref v9_41, .ref v9_42, .ref v9_43]))] := hD
      refine wloop (fun n H locs ls => ∃ (i : Nat), n = mo - i ∧ (1 ≤ i) ∧ (i ≤ mo) ∧ lv_has ls 3 [(0, .ref o9), (2, .int (nI (d - Fk k - Mk (1700 + k) i)))] ∧ va_P (dC, dI) vwCl [(o9, .inr (8, [.int v9_0, .int (nI (1700 + k)), .int (nI i), .int v9_3, .ref v9_4, .int v9_5, .int v9_6, .int v9_7, .int v9_8, .int v9_9, .int v9_10, .long v9_11, .int v9_12, .int v9_13, .int v9_14, .int v9_15, .int v9_16, .int v9_17, .ref v9_18, .ref v9_19, .ref v9_20, .ref v9_21, .ref v9_22, .ref v9_23, .ref v9_24, .ref v9_25, .ref v9_26, .ref v9_27, .ref v9_28, .ref v9_29, .ref v9_30, .ref v9_31, .ref v9_32, .ref v9_33, .ref v9_34, .ref v9_35, .long v9_36, .int v9_37, .ref v9_38, .ref v9_39, .int v9_40, .ref v9_41, .ref v9_42, .ref v9_43]))] H ∧ va_D A [(o9, .inr (8, [.int v9_0, .int (nI (1700 + k)), .int (nI i), .int v9_3, .ref v9_4, .int v9_5, .int v9_6, .int v9_7, .int v9_8, .int v9_9, .int v9_10, .long v9_11, .int v9_12, .int v9_13, .int v9_14, .int v9_15, .int v9_16, .int v9_17, .ref v9_18, .ref v9_19, .ref v9_20, .ref v9_21, .ref v9_22, .ref v9_23, .ref v9_24, .ref v9_25, .ref v9_26, .ref v9_27, .ref v9_28, .ref v9_29, .ref v9_30, .ref v9_31, .ref v9_32, .ref v9_33, .ref v9_34, .ref v9_35, .long v9_36, .int v9_37, .ref v9_38, .ref v9_39, .int v9_40, .ref v9_41, .ref v9_42, .ref v9_43]))] ∧ va_S A s.heap H locs) ?_ (mo - (1)) _ _ _ ⟨1, rfl, (by omega), (by omega), lv_sub hl [0, 2] rfl, hP.sub [0] rfl, hD.sub [0] (by decide) rfl, hS⟩
      intro n H locs ls hI ih
      obtain ⟨i, hn9, i1, i2, hl, hP, hD, hS⟩ := hI
      have hli := Mk_le (y := 1700 + k) i1 i2
      have hbi := mlN_b (1700 + k) i
      refine lv_iload_n hx hb dX9_tellsApart_72 rfl (lv_at hl 1 rfl) ?_
      refine lv_aload_n hx hb dX9_tellsApart_73 rfl (lv_at hl 0 rfl) ?_
      refine va_get (D := (dC, dI)) (ci := 8) (v := .int (nI (1700 + k))) (C := RX9) (T := TX9) (N := 44) hx hb hts inlX9 hown hK hP 0 rfl rfl 1 (by decide) (hts (.fieldLink RX9 101 "ClosedUntilModel" "year" "I") qw_395) (fun _ h9 => h9) rfl dX9_tellsApart_74 ?_
      refine lv_aload_n hx hb dX9_tellsApart_77 rfl (lv_at hl 0 rfl) ?_
      refine va_get (D := (dC, dI)) (ci := 8) (v := .int (nI i)) (C := RX9) (T := TX9) (N := 44) hx hb hts inlX9 hown hK hP 0 rfl rfl 2 (by decide) (hts (.fieldLink RX9 104 "ClosedUntilModel" "month" "I") qw_396) (fun _ h9 => h9) rfl dX9_tellsApart_78 ?_
      have hPc := hP.sub (ws' := []) [] rfl
      have hKc := hK.sub (tys' := []) [] rfl
      refine vp_callSi ((va_runS (As := [.int (nI (1700 + k)), .int (nI i)]) (rest := [.int (nI (d - Fk k - Mk (1700 + k) i))]) ⟨hx, hb, hml, hown, hts⟩ (c_di l dC dI g (1700 + k) (i) (by omega) (by omega) (by omega)) (va_cwS 2 hts (gwS qw_393 qw_394 qw_386 qw_392) rfl rfl rfl (by decide +kernel) ⟨Nat.le_of_ble_eq_true rfl, Nat.le_of_ble_eq_true rfl⟩) ⟨fun a U g9 mk q => ⟨q.1, q.2.1, va_K.moved (u := U) (U := U.calling g9 mk a) (Vm.Alike.refl U.vm) q.2.2.1, Ev.bl q.2.2.2⟩, fun U hU hW => ⟨rfl, by rw [hU]; exact hPc, va_K.moved hW.alike hKc, hE.go hS (fun _ h => h.elim) hU hW⟩⟩ rfl rfl hl.1 rfl (lv_room (Nat.le_of_ble_eq_true rfl)) dX9_tellsApart_81 ⟨Nat.le_of_ble_eq_true rfl, Nat.le_of_ble_eq_true rfl⟩)).run (fun r5 h_r5 => ?_)
      have h_r5 : r5 = nI (mlN (1700 + k) i) := h_r5
      subst h_r5
      refine lv_icmp_lt (tgt := 114) hx hb dX9_tellsApart_84 (by decide) (fun c84_6 => ?_) (fun c84_6 => ?_)
      · have c84_6 : ((d - Fk k - Mk (1700 + k) i : Nat) : Int) < ((mlN (1700 + k) i : Nat) : Int) := (cv_lt (nI_toInt (by omega)) (nI_toInt (by omega))).mp c84_6
        have hi9 : mo = i := (Mk_one (y := 1700 + k) (r := d - Fk k) i1 hm1 (by omega) (by omega) (by omega) (by omega)).symm
        subst hi9
        refine lv_aload_n hx hb dX9_tellsApart_114 rfl (lv_at hl 0 rfl) ?_
        refine lv_iload_n hx hb dX9_tellsApart_115 rfl (lv_at hl 1 rfl) ?_
        refine lv_iconst (v := 1) hx hb dX9_tellsApart_116 (by decide) ?_
        refine lv_iadd hx hb dX9_tellsApart_117 ?_
        refine cst (v := nI (dd)) (by rw [show (1 : Int32) = nI 1 from rfl, nI_add]; congr 1; omega) ?_
        refine va_put (D := (dC, dI)) (ci := 8) (v := .int (nI dd)) (ty := .int) (C := RX9) (T := TX9) (N := 44) hx hb hts inlX9 tyX9 tyX9_ok nmX9 hown hK hP hD hS 0 rfl rfl 3 (by decide) (hts (.fieldLink RX9 107 "ClosedUntilModel" "dayIn" "I") qw_397) (fun _ h9 => h9) rfl (by decide +kernel) rfl rfl (Nat.le_of_ble_eq_true rfl) dX9_tellsApart_118 (fun H locs hP hD hS => ?_)
        have hP : va_P (dC, dI) vwCl [(o9, .inr (8, [.int v9_0, .int (nI (1700 + k)), .int (nI mo), .int (nI dd), .ref v9_4, .int v9_5, .int v9_6, .int v9_7, .int v9_8, .int v9_9, .int v9_10, .long v9_11, .int v9_12, .int v9_13, .int v9_14, .int v9_15, .int v9_16, .int v9_17, .ref v9_18, .ref v9_19, .ref v9_20, .ref v9_21, .ref v9_22, .ref v9_23, .ref v9_24, .ref v9_25, .ref v9_26, .ref v9_27, .ref v9_28, .ref v9_29, .ref v9_30, .ref v9_31, .ref v9_32, .ref v9_33, .ref v9_34, .ref v9_35, .long v9_36, .int v9_37, .ref v9_38, .ref v9_39, .int v9_40, .ref v9_41, .ref v9_42, .ref v9_43]))] H := hP
        have hD : va_D A [(o9, .inr (8, [.int v9_0, .int (nI (1700 + k)), .int (nI mo), .int (nI dd), .ref v9_4, .int v9_5, .int v9_6, .int v9_7, .int v9_8, .int v9_9, .int v9_10, .long v9_11, .int v9_12, .int v9_13, .int v9_14, .int v9_15, .int v9_16, .int v9_17, .ref v9_18, .ref v9_19, .ref v9_20, .ref v9_21, .ref v9_22, .ref v9_23, .ref v9_24, .ref v9_25, .ref v9_26, .ref v9_27, .ref v9_28, .ref v9_29, .ref v9_30, .ref v9_31, .ref v9_32, .ref v9_33, .ref v9_34, .ref v9_35, .long v9_36, .int v9_37, .ref v9_38, .ref v9_39, .int v9_40, .ref v9_41, .ref v9_42, .ref v9_43]))] := hD
        refine W.widen (k := 0) (n := 0) (Nat.le_of_ble_eq_true rfl) (Nat.le_of_ble_eq_true rfl) ?_
        have hP9 := hP.sub (ws' := [(o9, .inr (8, [.int v9_0, .int (nI (1700 + k)), .int (nI mo), .int (nI dd), .ref v9_4, .int v9_5, .int v9_6, .int v9_7, .int v9_8, .int v9_9, .int v9_10, .long v9_11, .int v9_12, .int v9_13, .int v9_14, .int v9_15, .int v9_16, .int v9_17, .ref v9_18, .ref v9_19, .ref v9_20, .ref v9_21, .ref v9_22, .ref v9_23, .ref v9_24, .ref v9_25, .ref v9_26, .ref v9_27, .ref v9_28, .ref v9_29, .ref v9_30, .ref v9_31, .ref v9_32, .ref v9_33, .ref v9_34, .ref v9_35, .long v9_36, .int v9_37, .ref v9_38, .ref v9_39, .int v9_40, .ref v9_41, .ref v9_42, .ref v9_43]))]) [0] rfl
        have hD9 := hD.sub (ws' := [(o9, .inr (8, [.int v9_0, .int (nI (1700 + k)), .int (nI mo), .int (nI dd), .ref v9_4, .int v9_5, .int v9_6, .int v9_7, .int v9_8, .int v9_9, .int v9_10, .long v9_11, .int v9_12, .int v9_13, .int v9_14, .int v9_15, .int v9_16, .int v9_17, .ref v9_18, .ref v9_19, .ref v9_20, .ref v9_21, .ref v9_22, .ref v9_23, .ref v9_24, .ref v9_25, .ref v9_26, .ref v9_27, .ref v9_28, .ref v9_29, .ref v9_30, .ref v9_31, .ref v9_32, .ref v9_33, .ref v9_34, .ref v9_35, .long v9_36, .int v9_37, .ref v9_38, .ref v9_39, .int v9_40, .ref v9_41, .ref v9_42, .ref v9_43]))]) [0] (by decide) rfl
        have hK9 := hK.sub (tys' := []) [] rfl
        exact W.vret hx hb hr (fun t ht hW => ⟨⟨(), rfl, (trivial), by rw [ht]; exact hP9, va_K.moved hW.alike hK9, hD9⟩, hS.F ht⟩) hS.2.2 dX9_tellsApart_121
      · have c84_6 : ¬ (((d - Fk k - Mk (1700 + k) i : Nat) : Int) < ((mlN (1700 + k) i : Nat) : Int)) := mt (cv_lt (nI_toInt (by omega)) (nI_toInt (by omega))).mpr c84_6
        refine lv_iload_n hx hb dX9_tellsApart_87 rfl (lv_at hl 1 rfl) ?_
        refine lv_aload_n hx hb dX9_tellsApart_88 rfl (lv_at hl 0 rfl) ?_
        refine va_get (D := (dC, dI)) (ci := 8) (v := .int (nI (1700 + k))) (C := RX9) (T := TX9) (N := 44) hx hb hts inlX9 hown hK hP 0 rfl rfl 1 (by decide) (hts (.fieldLink RX9 101 "ClosedUntilModel" "year" "I") qw_395) (fun _ h9 => h9) rfl dX9_tellsApart_89 ?_
        refine lv_aload_n hx hb dX9_tellsApart_92 rfl (lv_at hl 0 rfl) ?_
        refine va_get (D := (dC, dI)) (ci := 8) (v := .int (nI i)) (C := RX9) (T := TX9) (N := 44) hx hb hts inlX9 hown hK hP 0 rfl rfl 2 (by decide) (hts (.fieldLink RX9 104 "ClosedUntilModel" "month" "I") qw_396) (fun _ h9 => h9) rfl dX9_tellsApart_93 ?_
        have hPc := hP.sub (ws' := []) [] rfl
        have hKc := hK.sub (tys' := []) [] rfl
        refine vp_callSi ((va_runS (As := [.int (nI (1700 + k)), .int (nI i)]) (rest := [.int (nI (d - Fk k - Mk (1700 + k) i))]) ⟨hx, hb, hml, hown, hts⟩ (c_di l dC dI g (1700 + k) (i) (by omega) (by omega) (by omega)) (va_cwS 2 hts (gwS qw_393 qw_394 qw_386 qw_392) rfl rfl rfl (by decide +kernel) ⟨Nat.le_of_ble_eq_true rfl, Nat.le_of_ble_eq_true rfl⟩) ⟨fun a U g9 mk q => ⟨q.1, q.2.1, va_K.moved (u := U) (U := U.calling g9 mk a) (Vm.Alike.refl U.vm) q.2.2.1, Ev.bl q.2.2.2⟩, fun U hU hW => ⟨rfl, by rw [hU]; exact hPc, va_K.moved hW.alike hKc, hE.go hS (fun _ h => h.elim) hU hW⟩⟩ rfl rfl hl.1 rfl (lv_room (Nat.le_of_ble_eq_true rfl)) dX9_tellsApart_96 ⟨Nat.le_of_ble_eq_true rfl, Nat.le_of_ble_eq_true rfl⟩)).run (fun r7 h_r7 => ?_)
        have h_r7 : r7 = nI (mlN (1700 + k) i) := h_r7
        subst h_r7
        refine lv_isub hx hb dX9_tellsApart_99 ?_
        refine cst (v := nI (d - Fk k - Mk (1700 + k) (i + 1))) (by rw [Mk_s i1, pk_sub (by omega)]; congr 1; omega) ?_
        refine lv_istore_n (lv' := [(2, .int (nI (d - Fk k - Mk (1700 + k) (i + 1)))), (0, .ref o9)]) hx hb dX9_tellsApart_100 rfl hl (by decide) rfl (fun ls hl => ?_)
        refine lv_aload_n hx hb dX9_tellsApart_101 rfl (lv_at hl 1 rfl) ?_
        refine lv_dup hx hb dX9_tellsApart_102 rfl ?_
        refine va_get (D := (dC, dI)) (ci := 8) (v := .int (nI i)) (C := RX9) (T := TX9) (N := 44) hx hb hts inlX9 hown hK hP 0 rfl rfl 2 (by decide) (hts (.fieldLink RX9 104 "ClosedUntilModel" "month" "I") qw_396) (fun _ h9 => h9) rfl dX9_tellsApart_103 ?_
        refine lv_iconst (v := 1) hx hb dX9_tellsApart_106 (by decide) ?_
        refine lv_iadd hx hb dX9_tellsApart_107 ?_
        refine cst (v := nI (i + 1)) (nI_add i 1) ?_
        refine va_put (D := (dC, dI)) (ci := 8) (v := .int (nI (i + 1))) (ty := .int) (C := RX9) (T := TX9) (N := 44) hx hb hts inlX9 tyX9 tyX9_ok nmX9 hown hK hP hD hS 0 rfl rfl 2 (by decide) (hts (.fieldLink RX9 104 "ClosedUntilModel" "month" "I") qw_396) (fun _ h9 => h9) rfl (by decide +kernel) rfl rfl (Nat.le_of_ble_eq_true rfl) dX9_tellsApart_108 (fun H locs hP hD hS => ?_)
        have hP : va_P (dC, dI) vwCl [(o9, .inr (8, [.int v9_0, .int (nI (1700 + k)), .int (nI (i + 1)), .int v9_3, .ref v9_4, .int v9_5, .int v9_6, .int v9_7, .int v9_8, .int v9_9, .int v9_10, .long v9_11, .int v9_12, .int v9_13, .int v9_14, .int v9_15, .int v9_16, .int v9_17, .ref v9_18, .ref v9_19, .ref v9_20, .ref v9_21, .ref v9_22, .ref v9_23, .ref v9_24, .ref v9_25, .ref v9_26, .ref v9_27, .ref v9_28, .ref v9_29, .ref v9_30, .ref v9_31, .ref v9_32, .ref v9_33, .ref v9_34, .ref v9_35, .long v9_36, .int v9_37, .ref v9_38, .ref v9_39, .int v9_40, .ref v9_41, .ref v9_42, .ref v9_43]))] H := hP
        have hD : va_D A [(o9, .inr (8, [.int v9_0, .int (nI (1700 + k)), .int (nI (i + 1)), .int v9_3, .ref v9_4, .int v9_5, .int v9_6, .int v9_7, .int v9_8, .int v9_9, .int v9_10, .long v9_11, .int v9_12, .int v9_13, .int v9_14, .int v9_15, .int v9_16, .int v9_17, .ref v9_18, .ref v9_19, .ref v9_20, .ref v9_21, .ref v9_22, .ref v9_23, .ref v9_24, .ref v9_25, .ref v9_26, .ref v9_27, .ref v9_28, .ref v9_29, .ref v9_30, .ref v9_31, .ref v9_32, .ref v9_33, .ref v9_34, .ref v9_35, .long v9_36, .int v9_37, .ref v9_38, .ref v9_39, .int v9_40, .ref v9_41, .ref v9_42, .ref v9_43]))] := hD
        refine lv_goto (tgt := 72) hx hb dX9_tellsApart_111 (by decide) ?_
        have i3 := mdj (y := 1700 + k) (r := d - Fk k) i2 (by omega) (by omega)
        exact ih (mo - (i + 1)) _ _ _ (by omega) ⟨i + 1, rfl, (by omega), (by omega), lv_sub hl [1, 0] rfl, hP.sub [0] rfl, hD.sub [0] (by decide) rfl, hS⟩
    · have c29_4 : ¬ (((d - Fk j : Nat) : Int) < 366) := mt (cv_lt (nI_toInt (by omega)) (by decide)).mpr c29_4
      refine lv_iload_n hx hb dX9_tellsApart_32 rfl (lv_at hl 2 rfl) ?_
      refine lv_aload_n hx hb dX9_tellsApart_33 rfl (lv_at hl 0 rfl) ?_
      refine va_get (D := (dC, dI)) (ci := 8) (v := .int (nI (1700 + j))) (C := RX9) (T := TX9) (N := 44) hx hb hts inlX9 hown hK hP 0 rfl rfl 1 (by decide) (hts (.fieldLink RX9 101 "ClosedUntilModel" "year" "I") qw_395) (fun _ h9 => h9) rfl dX9_tellsApart_34 ?_
      have hPc := hP.sub (ws' := []) [] rfl
      have hKc := hK.sub (tys' := []) [] rfl
      refine vp_callSi ((va_runS (As := [.int (nI (1700 + j))]) (rest := [.int (nI (d - Fk j))]) ⟨hx, hb, hml, hown, hts⟩ (c_lp l dC dI g (1700 + j) (by omega)) (va_cwS 1 hts (gwS qw_387 qw_388 qw_386 qw_385) rfl rfl rfl (by decide +kernel) ⟨Nat.le_of_ble_eq_true rfl, Nat.le_of_ble_eq_true rfl⟩) ⟨fun a U g9 mk q => ⟨q.1, q.2.1, va_K.moved (u := U) (U := U.calling g9 mk a) (Vm.Alike.refl U.vm) q.2.2.1, Ev.bl q.2.2.2⟩, fun U hU hW => ⟨rfl, by rw [hU]; exact hPc, va_K.moved hW.alike hKc, hE.go hS (fun _ h => h.elim) hU hW⟩⟩ rfl rfl hl.1 rfl (lv_room (Nat.le_of_ble_eq_true rfl)) dX9_tellsApart_37 ⟨Nat.le_of_ble_eq_true rfl, Nat.le_of_ble_eq_true rfl⟩)).run (fun r8 h_r8 => ?_)
      obtain ⟨hq9, rfl⟩ : _ ∧ r8 = 1 := by rcases h_r8 with q | q; exact q; exact absurd (q.1.symm.trans hq2) (by decide)
      refine lv_if_eq (tgt := 49) hx hb dX9_tellsApart_40 (by decide) (fun c40_10 => by exfalso; exact absurd c40_10 (by decide)) (fun c40_10 => ?_)
      refine lv_sipush (v := 366) hx hb dX9_tellsApart_43 (by decide) ?_
      refine lv_goto (tgt := 52) hx hb dX9_tellsApart_46 (by decide) ?_
      refine lv_isub hx hb dX9_tellsApart_52 ?_
      refine cst (v := nI (d - Fk (j + 1))) (ta_s (w := 366) (by omega) (yl_1 hq2) (by omega)) ?_
      refine lv_istore_n (lv' := [(2, .int (nI (d - Fk (j + 1)))), (0, .ref o9), (1, .int (nI d))]) hx hb dX9_tellsApart_53 rfl hl (by decide) rfl (fun ls hl => ?_)
      refine lv_aload_n hx hb dX9_tellsApart_54 rfl (lv_at hl 1 rfl) ?_
      refine lv_dup hx hb dX9_tellsApart_55 rfl ?_
      refine va_get (D := (dC, dI)) (ci := 8) (v := .int (nI (1700 + j))) (C := RX9) (T := TX9) (N := 44) hx hb hts inlX9 hown hK hP 0 rfl rfl 1 (by decide) (hts (.fieldLink RX9 101 "ClosedUntilModel" "year" "I") qw_395) (fun _ h9 => h9) rfl dX9_tellsApart_56 ?_
      refine lv_iconst (v := 1) hx hb dX9_tellsApart_59 (by decide) ?_
      refine lv_iadd hx hb dX9_tellsApart_60 ?_
      refine cst (v := nI (1700 + (j + 1))) (nI_add (1700 + j) 1) ?_
      refine va_put (D := (dC, dI)) (ci := 8) (v := .int (nI (1700 + (j + 1)))) (ty := .int) (C := RX9) (T := TX9) (N := 44) hx hb hts inlX9 tyX9 tyX9_ok nmX9 hown hK hP hD hS 0 rfl rfl 1 (by decide) (hts (.fieldLink RX9 101 "ClosedUntilModel" "year" "I") qw_395) (fun _ h9 => h9) rfl (by decide +kernel) rfl rfl (Nat.le_of_ble_eq_true rfl) dX9_tellsApart_61 (fun H locs hP hD hS => ?_)
      have hP : va_P (dC, dI) vwCl [(o9, .inr (8, [.int v9_0, .int (nI (1700 + (j + 1))), .int v9_2, .int v9_3, .ref v9_4, .int v9_5, .int v9_6, .int v9_7, .int v9_8, .int v9_9, .int v9_10, .long v9_11, .int v9_12, .int v9_13, .int v9_14, .int v9_15, .int v9_16, .int v9_17, .ref v9_18, .ref v9_19, .ref v9_20, .ref v9_21, .ref v9_22, .ref v9_23, .ref v9_24, .ref v9_25, .ref v9_26, .ref v9_27, .ref v9_28, .ref v9_29, .ref v9_30, .ref v9_31, .ref v9_32, .ref v9_33, .ref v9_34, .ref v9_35, .long v9_36, .int v9_37, .ref v9_38, .ref v9_39, .int v9_40, .ref v9_41, .ref v9_42, .ref v9_43]))] H := hP
      have hD : va_D A [(o9, .inr (8, [.int v9_0, .int (nI (1700 + (j + 1))), .int v9_2, .int v9_3, .ref v9_4, .int v9_5, .int v9_6, .int v9_7, .int v9_8, .int v9_9, .int v9_10, .long v9_11, .int v9_12, .int v9_13, .int v9_14, .int v9_15, .int v9_16, .int v9_17, .ref v9_18, .ref v9_19, .ref v9_20, .ref v9_21, .ref v9_22, .ref v9_23, .ref v9_24, .ref v9_25, .ref v9_26, .ref v9_27, .ref v9_28, .ref v9_29, .ref v9_30, .ref v9_31, .ref v9_32, .ref v9_33, .ref v9_34, .ref v9_35, .long v9_36, .int v9_37, .ref v9_38, .ref v9_39, .int v9_40, .ref v9_41, .ref v9_42, .ref v9_43]))] := hD
      refine lv_goto (tgt := 9) hx hb dX9_tellsApart_64 (by decide) ?_
      have j4 := ta_n hk j2 h2 (yl_1 hq2) (by omega)
      have j5 := Fk_mono (a := j + 1) (b := k) j4 (by omega)
      exact ih (k - (j + 1)) _ _ _ (by omega) ⟨j + 1, rfl, (by omega), (by omega), lv_sub hl [1, 2, 0] rfl, hP.sub [0] rfl, hD.sub [0] (by decide) rfl, hS⟩
  · refine lv_if_eq (tgt := 26) hx hb dX9_tellsApart_17 (by decide) (fun c17_11 => ?_) (fun c17_11 => by exfalso; exact absurd c17_11 (by decide))
    refine lv_sipush (v := 365) hx hb dX9_tellsApart_26 (by decide) ?_
    refine lv_icmp_lt (tgt := 67) hx hb dX9_tellsApart_29 (by decide) (fun c29_12 => ?_) (fun c29_12 => ?_)
    · have c29_12 : ((d - Fk j : Nat) : Int) < 365 := (cv_lt (nI_toInt (by omega)) (by decide)).mp c29_12
      have hj9 : k = j := ta_j hk j2 h1 (yl_0 hq2) (by omega)
      subst hj9
      refine lv_aload_n hx hb dX9_tellsApart_67 rfl (lv_at hl 0 rfl) ?_
      refine lv_iconst (v := 1) hx hb dX9_tellsApart_68 (by decide) ?_
      refine va_put (D := (dC, dI)) (ci := 8) (v := .int 1) (ty := .int) (C := RX9) (T := TX9) (N := 44) hx hb hts inlX9 tyX9 tyX9_ok nmX9 hown hK hP hD hS 0 rfl rfl 2 (by decide) (hts (.fieldLink RX9 104 "ClosedUntilModel" "month" "I") qw_396) (fun _ h9 => h9) rfl (by decide +kernel) rfl rfl (Nat.le_of_ble_eq_true rfl) dX9_tellsApart_69 (fun H locs hP hD hS => ?_)
      have hP : va_P (dC, dI) vwCl [(o9, .inr (8, [.int v9_0, .int (nI (1700 + k)), .int 1, .int v9_3, .ref v9_4, .int v9_5, .int v9_6, .int v9_7, .int v9_8, .int v9_9, .int v9_10, .long v9_11, .int v9_12, .int v9_13, .int v9_14, .int v9_15, .int v9_16, .int v9_17, .ref v9_18, .ref v9_19, .ref v9_20, .ref v9_21, .ref v9_22, .ref v9_23, .ref v9_24, .ref v9_25, .ref v9_26, .ref v9_27, .ref v9_28, .ref v9_29, .ref v9_30, .ref v9_31, .ref v9_32, .ref v9_33, .ref v9_34, .ref v9_35, .long v9_36, .int v9_37, .ref v9_38, .ref v9_39, .int v9_40, .ref v9_41, .ref v9_42, .ref v9_43]))] H := hP
      have hD : va_D A [(o9, .inr (8, [.int v9_0, .int (nI (1700 + k)), .int 1, .int v9_3, .ref v9_4, .int v9_5, .int v9_6, .int v9_7, .int v9_8, .int v9_9, .int v9_10, .long v9_11, .int v9_12, .int v9_13, .int v9_14, .int v9_15, .int v9_16, .int v9_17, .ref v9_18, .ref v9_19, .ref v9_20, .ref v9_21, .ref v9_22, .ref v9_23, .ref v9_24, .ref v9_25, .ref v9_26, .ref v9_27, .ref v9_28, .ref v9_29, .ref v9_30, .ref v9_31, .ref v9_32, .ref v9_33, .ref v9_34, .ref v9_35, .long v9_36, .int v9_37, .ref v9_38, .ref v9_39, .int v9_40, .ref v9_41, .ref v9_42, .ref v9_43]))] := hD
      refine wloop (fun n H locs ls => ∃ (i : Nat), n = mo - i ∧ (1 ≤ i) ∧ (i ≤ mo) ∧ lv_has ls 3 [(0, .ref o9), (2, .int (nI (d - Fk k - Mk (1700 + k) i)))] ∧ va_P (dC, dI) vwCl [(o9, .inr (8, [.int v9_0, .int (nI (1700 + k)), .int (nI i), .int v9_3, .ref v9_4, .int v9_5, .int v9_6, .int v9_7, .int v9_8, .int v9_9, .int v9_10, .long v9_11, .int v9_12, .int v9_13, .int v9_14, .int v9_15, .int v9_16, .int v9_17, .ref v9_18, .ref v9_19, .ref v9_20, .ref v9_21, .ref v9_22, .ref v9_23, .ref v9_24, .ref v9_25, .ref v9_26, .ref v9_27, .ref v9_28, .ref v9_29, .ref v9_30, .ref v9_31, .ref v9_32, .ref v9_33, .ref v9_34, .ref v9_35, .long v9_36, .int v9_37, .ref v9_38, .ref v9_39, .int v9_40, .ref v9_41, .ref v9_42, .ref v9_43]))] H ∧ va_D A [(o9, .inr (8, [.int v9_0, .int (nI (1700 + k)), .int (nI i), .int v9_3, .ref v9_4, .int v9_5, .int v9_6, .int v9_7, .int v9_8, .int v9_9, .int v9_10, .long v9_11, .int v9_12, .int v9_13, .int v9_14, .int v9_15, .int v9_16, .int v9_17, .ref v9_18, .ref v9_19, .ref v9_20, .ref v9_21, .ref v9_22, .ref v9_23, .ref v9_24, .ref v9_25, .ref v9_26, .ref v9_27, .ref v9_28, .ref v9_29, .ref v9_30, .ref v9_31, .ref v9_32, .ref v9_33, .ref v9_34, .ref v9_35, .long v9_36, .int v9_37, .ref v9_38, .ref v9_39, .int v9_40, .ref v9_41, .ref v9_42, .ref v9_43]))] ∧ va_S A s.heap H locs) ?_ (mo - (1)) _ _ _ ⟨1, rfl, (by omega), (by omega), lv_sub hl [0, 2] rfl, hP.sub [0] rfl, hD.sub [0] (by decide) rfl, hS⟩
      intro n H locs ls hI ih
      obtain ⟨i, hn9, i1, i2, hl, hP, hD, hS⟩ := hI
      have hli := Mk_le (y := 1700 + k) i1 i2
      have hbi := mlN_b (1700 + k) i
      refine lv_iload_n hx hb dX9_tellsApart_72 rfl (lv_at hl 1 rfl) ?_
      refine lv_aload_n hx hb dX9_tellsApart_73 rfl (lv_at hl 0 rfl) ?_
      refine va_get (D := (dC, dI)) (ci := 8) (v := .int (nI (1700 + k))) (C := RX9) (T := TX9) (N := 44) hx hb hts inlX9 hown hK hP 0 rfl rfl 1 (by decide) (hts (.fieldLink RX9 101 "ClosedUntilModel" "year" "I") qw_395) (fun _ h9 => h9) rfl dX9_tellsApart_74 ?_
      refine lv_aload_n hx hb dX9_tellsApart_77 rfl (lv_at hl 0 rfl) ?_
      refine va_get (D := (dC, dI)) (ci := 8) (v := .int (nI i)) (C := RX9) (T := TX9) (N := 44) hx hb hts inlX9 hown hK hP 0 rfl rfl 2 (by decide) (hts (.fieldLink RX9 104 "ClosedUntilModel" "month" "I") qw_396) (fun _ h9 => h9) rfl dX9_tellsApart_78 ?_
      have hPc := hP.sub (ws' := []) [] rfl
      have hKc := hK.sub (tys' := []) [] rfl
      refine vp_callSi ((va_runS (As := [.int (nI (1700 + k)), .int (nI i)]) (rest := [.int (nI (d - Fk k - Mk (1700 + k) i))]) ⟨hx, hb, hml, hown, hts⟩ (c_di l dC dI g (1700 + k) (i) (by omega) (by omega) (by omega)) (va_cwS 2 hts (gwS qw_393 qw_394 qw_386 qw_392) rfl rfl rfl (by decide +kernel) ⟨Nat.le_of_ble_eq_true rfl, Nat.le_of_ble_eq_true rfl⟩) ⟨fun a U g9 mk q => ⟨q.1, q.2.1, va_K.moved (u := U) (U := U.calling g9 mk a) (Vm.Alike.refl U.vm) q.2.2.1, Ev.bl q.2.2.2⟩, fun U hU hW => ⟨rfl, by rw [hU]; exact hPc, va_K.moved hW.alike hKc, hE.go hS (fun _ h => h.elim) hU hW⟩⟩ rfl rfl hl.1 rfl (lv_room (Nat.le_of_ble_eq_true rfl)) dX9_tellsApart_81 ⟨Nat.le_of_ble_eq_true rfl, Nat.le_of_ble_eq_true rfl⟩)).run (fun r13 h_r13 => ?_)
      have h_r13 : r13 = nI (mlN (1700 + k) i) := h_r13
      subst h_r13
      refine lv_icmp_lt (tgt := 114) hx hb dX9_tellsApart_84 (by decide) (fun c84_14 => ?_) (fun c84_14 => ?_)
      · have c84_14 : ((d - Fk k - Mk (1700 + k) i : Nat) : Int) < ((mlN (1700 + k) i : Nat) : Int) := (cv_lt (nI_toInt (by omega)) (nI_toInt (by omega))).mp c84_14
        have hi9 : mo = i := (Mk_one (y := 1700 + k) (r := d - Fk k) i1 hm1 (by omega) (by omega) (by omega) (by omega)).symm
        subst hi9
        refine lv_aload_n hx hb dX9_tellsApart_114 rfl (lv_at hl 0 rfl) ?_
        refine lv_iload_n hx hb dX9_tellsApart_115 rfl (lv_at hl 1 rfl) ?_
        refine lv_iconst (v := 1) hx hb dX9_tellsApart_116 (by decide) ?_
        refine lv_iadd hx hb dX9_tellsApart_117 ?_
        refine cst (v := nI (dd)) (by rw [show (1 : Int32) = nI 1 from rfl, nI_add]; congr 1; omega) ?_
        refine va_put (D := (dC, dI)) (ci := 8) (v := .int (nI dd)) (ty := .int) (C := RX9) (T := TX9) (N := 44) hx hb hts inlX9 tyX9 tyX9_ok nmX9 hown hK hP hD hS 0 rfl rfl 3 (by decide) (hts (.fieldLink RX9 107 "ClosedUntilModel" "dayIn" "I") qw_397) (fun _ h9 => h9) rfl (by decide +kernel) rfl rfl (Nat.le_of_ble_eq_true rfl) dX9_tellsApart_118 (fun H locs hP hD hS => ?_)
        have hP : va_P (dC, dI) vwCl [(o9, .inr (8, [.int v9_0, .int (nI (1700 + k)), .int (nI mo), .int (nI dd), .ref v9_4, .int v9_5, .int v9_6, .int v9_7, .int v9_8, .int v9_9, .int v9_10, .long v9_11, .int v9_12, .int v9_13, .int v9_14, .int v9_15, .int v9_16, .int v9_17, .ref v9_18, .ref v9_19, .ref v9_20, .ref v9_21, .ref v9_22, .ref v9_23, .ref v9_24, .ref v9_25, .ref v9_26, .ref v9_27, .ref v9_28, .ref v9_29, .ref v9_30, .ref v9_31, .ref v9_32, .ref v9_33, .ref v9_34, .ref v9_35, .long v9_36, .int v9_37, .ref v9_38, .ref v9_39, .int v9_40, .ref v9_41, .ref v9_42, .ref v9_43]))] H := hP
        have hD : va_D A [(o9, .inr (8, [.int v9_0, .int (nI (1700 + k)), .int (nI mo), .int (nI dd), .ref v9_4, .int v9_5, .int v9_6, .int v9_7, .int v9_8, .int v9_9, .int v9_10, .long v9_11, .int v9_12, .int v9_13, .int v9_14, .int v9_15, .int v9_16, .int v9_17, .ref v9_18, .ref v9_19, .ref v9_20, .ref v9_21, .ref v9_22, .ref v9_23, .ref v9_24, .ref v9_25, .ref v9_26, .ref v9_27, .ref v9_28, .ref v9_29, .ref v9_30, .ref v9_31, .ref v9_32, .ref v9_33, .ref v9_34, .ref v9_35, .long v9_36, .int v9_37, .ref v9_38, .ref v9_39, .int v9_40, .ref v9_41, .ref v9_42, .ref v9_43]))] := hD
        refine W.widen (k := 0) (n := 0) (Nat.le_of_ble_eq_true rfl) (Nat.le_of_ble_eq_true rfl) ?_
        have hP9 := hP.sub (ws' := [(o9, .inr (8, [.int v9_0, .int (nI (1700 + k)), .int (nI mo), .int (nI dd), .ref v9_4, .int v9_5, .int v9_6, .int v9_7, .int v9_8, .int v9_9, .int v9_10, .long v9_11, .int v9_12, .int v9_13, .int v9_14, .int v9_15, .int v9_16, .int v9_17, .ref v9_18, .ref v9_19, .ref v9_20, .ref v9_21, .ref v9_22, .ref v9_23, .ref v9_24, .ref v9_25, .ref v9_26, .ref v9_27, .ref v9_28, .ref v9_29, .ref v9_30, .ref v9_31, .ref v9_32, .ref v9_33, .ref v9_34, .ref v9_35, .long v9_36, .int v9_37, .ref v9_38, .ref v9_39, .int v9_40, .ref v9_41, .ref v9_42, .ref v9_43]))]) [0] rfl
        have hD9 := hD.sub (ws' := [(o9, .inr (8, [.int v9_0, .int (nI (1700 + k)), .int (nI mo), .int (nI dd), .ref v9_4, .int v9_5, .int v9_6, .int v9_7, .int v9_8, .int v9_9, .int v9_10, .long v9_11, .int v9_12, .int v9_13, .int v9_14, .int v9_15, .int v9_16, .int v9_17, .ref v9_18, .ref v9_19, .ref v9_20, .ref v9_21, .ref v9_22, .ref v9_23, .ref v9_24, .ref v9_25, .ref v9_26, .ref v9_27, .ref v9_28, .ref v9_29, .ref v9_30, .ref v9_31, .ref v9_32, .ref v9_33, .ref v9_34, .ref v9_35, .long v9_36, .int v9_37, .ref v9_38, .ref v9_39, .int v9_40, .ref v9_41, .ref v9_42, .ref v9_43]))]) [0] (by decide) rfl
        have hK9 := hK.sub (tys' := []) [] rfl
        exact W.vret hx hb hr (fun t ht hW => ⟨⟨(), rfl, (trivial), by rw [ht]; exact hP9, va_K.moved hW.alike hK9, hD9⟩, hS.F ht⟩) hS.2.2 dX9_tellsApart_121
      · have c84_14 : ¬ (((d - Fk k - Mk (1700 + k) i : Nat) : Int) < ((mlN (1700 + k) i : Nat) : Int)) := mt (cv_lt (nI_toInt (by omega)) (nI_toInt (by omega))).mpr c84_14
        refine lv_iload_n hx hb dX9_tellsApart_87 rfl (lv_at hl 1 rfl) ?_
        refine lv_aload_n hx hb dX9_tellsApart_88 rfl (lv_at hl 0 rfl) ?_
        refine va_get (D := (dC, dI)) (ci := 8) (v := .int (nI (1700 + k))) (C := RX9) (T := TX9) (N := 44) hx hb hts inlX9 hown hK hP 0 rfl rfl 1 (by decide) (hts (.fieldLink RX9 101 "ClosedUntilModel" "year" "I") qw_395) (fun _ h9 => h9) rfl dX9_tellsApart_89 ?_
        refine lv_aload_n hx hb dX9_tellsApart_92 rfl (lv_at hl 0 rfl) ?_
        refine va_get (D := (dC, dI)) (ci := 8) (v := .int (nI i)) (C := RX9) (T := TX9) (N := 44) hx hb hts inlX9 hown hK hP 0 rfl rfl 2 (by decide) (hts (.fieldLink RX9 104 "ClosedUntilModel" "month" "I") qw_396) (fun _ h9 => h9) rfl dX9_tellsApart_93 ?_
        have hPc := hP.sub (ws' := []) [] rfl
        have hKc := hK.sub (tys' := []) [] rfl
        refine vp_callSi ((va_runS (As := [.int (nI (1700 + k)), .int (nI i)]) (rest := [.int (nI (d - Fk k - Mk (1700 + k) i))]) ⟨hx, hb, hml, hown, hts⟩ (c_di l dC dI g (1700 + k) (i) (by omega) (by omega) (by omega)) (va_cwS 2 hts (gwS qw_393 qw_394 qw_386 qw_392) rfl rfl rfl (by decide +kernel) ⟨Nat.le_of_ble_eq_true rfl, Nat.le_of_ble_eq_true rfl⟩) ⟨fun a U g9 mk q => ⟨q.1, q.2.1, va_K.moved (u := U) (U := U.calling g9 mk a) (Vm.Alike.refl U.vm) q.2.2.1, Ev.bl q.2.2.2⟩, fun U hU hW => ⟨rfl, by rw [hU]; exact hPc, va_K.moved hW.alike hKc, hE.go hS (fun _ h => h.elim) hU hW⟩⟩ rfl rfl hl.1 rfl (lv_room (Nat.le_of_ble_eq_true rfl)) dX9_tellsApart_96 ⟨Nat.le_of_ble_eq_true rfl, Nat.le_of_ble_eq_true rfl⟩)).run (fun r15 h_r15 => ?_)
        have h_r15 : r15 = nI (mlN (1700 + k) i) := h_r15
        subst h_r15
        refine lv_isub hx hb dX9_tellsApart_99 ?_
        refine cst (v := nI (d - Fk k - Mk (1700 + k) (i + 1))) (by rw [Mk_s i1, pk_sub (by omega)]; congr 1; omega) ?_
        refine lv_istore_n (lv' := [(2, .int (nI (d - Fk k - Mk (1700 + k) (i + 1)))), (0, .ref o9)]) hx hb dX9_tellsApart_100 rfl hl (by decide) rfl (fun ls hl => ?_)
        refine lv_aload_n hx hb dX9_tellsApart_101 rfl (lv_at hl 1 rfl) ?_
        refine lv_dup hx hb dX9_tellsApart_102 rfl ?_
        refine va_get (D := (dC, dI)) (ci := 8) (v := .int (nI i)) (C := RX9) (T := TX9) (N := 44) hx hb hts inlX9 hown hK hP 0 rfl rfl 2 (by decide) (hts (.fieldLink RX9 104 "ClosedUntilModel" "month" "I") qw_396) (fun _ h9 => h9) rfl dX9_tellsApart_103 ?_
        refine lv_iconst (v := 1) hx hb dX9_tellsApart_106 (by decide) ?_
        refine lv_iadd hx hb dX9_tellsApart_107 ?_
        refine cst (v := nI (i + 1)) (nI_add i 1) ?_
        refine va_put (D := (dC, dI)) (ci := 8) (v := .int (nI (i + 1))) (ty := .int) (C := RX9) (T := TX9) (N := 44) hx hb hts inlX9 tyX9 tyX9_ok nmX9 hown hK hP hD hS 0 rfl rfl 2 (by decide) (hts (.fieldLink RX9 104 "ClosedUntilModel" "month" "I") qw_396) (fun _ h9 => h9) rfl (by decide +kernel) rfl rfl (Nat.le_of_ble_eq_true rfl) dX9_tellsApart_108 (fun H locs hP hD hS => ?_)
        have hP : va_P (dC, dI) vwCl [(o9, .inr (8, [.int v9_0, .int (nI (1700 + k)), .int (nI (i + 1)), .int v9_3, .ref v9_4, .int v9_5, .int v9_6, .int v9_7, .int v9_8, .int v9_9, .int v9_10, .long v9_11, .int v9_12, .int v9_13, .int v9_14, .int v9_15, .int v9_16, .int v9_17, .ref v9_18, .ref v9_19, .ref v9_20, .ref v9_21, .ref v9_22, .ref v9_23, .ref v9_24, .ref v9_25, .ref v9_26, .ref v9_27, .ref v9_28, .ref v9_29, .ref v9_30, .ref v9_31, .ref v9_32, .ref v9_33, .ref v9_34, .ref v9_35, .long v9_36, .int v9_37, .ref v9_38, .ref v9_39, .int v9_40, .ref v9_41, .ref v9_42, .ref v9_43]))] H := hP
        have hD : va_D A [(o9, .inr (8, [.int v9_0, .int (nI (1700 + k)), .int (nI (i + 1)), .int v9_3, .ref v9_4, .int v9_5, .int v9_6, .int v9_7, .int v9_8, .int v9_9, .int v9_10, .long v9_11, .int v9_12, .int v9_13, .int v9_14, .int v9_15, .int v9_16, .int v9_17, .ref v9_18, .ref v9_19, .ref v9_20, .ref v9_21, .ref v9_22, .ref v9_23, .ref v9_24, .ref v9_25, .ref v9_26, .ref v9_27, .ref v9_28, .ref v9_29, .ref v9_30, .ref v9_31, .ref v9_32, .ref v9_33, .ref v9_34, .ref v9_35, .long v9_36, .int v9_37, .ref v9_38, .ref v9_39, .int v9_40, .ref v9_41, .ref v9_42, .ref v9_43]))] := hD
        refine lv_goto (tgt := 72) hx hb dX9_tellsApart_111 (by decide) ?_
        have i3 := mdj (y := 1700 + k) (r := d - Fk k) i2 (by omega) (by omega)
        exact ih (mo - (i + 1)) _ _ _ (by omega) ⟨i + 1, rfl, (by omega), (by omega), lv_sub hl [1, 0] rfl, hP.sub [0] rfl, hD.sub [0] (by decide) rfl, hS⟩
    · have c29_12 : ¬ (((d - Fk j : Nat) : Int) < 365) := mt (cv_lt (nI_toInt (by omega)) (by decide)).mpr c29_12
      refine lv_iload_n hx hb dX9_tellsApart_32 rfl (lv_at hl 2 rfl) ?_
      refine lv_aload_n hx hb dX9_tellsApart_33 rfl (lv_at hl 0 rfl) ?_
      refine va_get (D := (dC, dI)) (ci := 8) (v := .int (nI (1700 + j))) (C := RX9) (T := TX9) (N := 44) hx hb hts inlX9 hown hK hP 0 rfl rfl 1 (by decide) (hts (.fieldLink RX9 101 "ClosedUntilModel" "year" "I") qw_395) (fun _ h9 => h9) rfl dX9_tellsApart_34 ?_
      have hPc := hP.sub (ws' := []) [] rfl
      have hKc := hK.sub (tys' := []) [] rfl
      refine vp_callSi ((va_runS (As := [.int (nI (1700 + j))]) (rest := [.int (nI (d - Fk j))]) ⟨hx, hb, hml, hown, hts⟩ (c_lp l dC dI g (1700 + j) (by omega)) (va_cwS 1 hts (gwS qw_387 qw_388 qw_386 qw_385) rfl rfl rfl (by decide +kernel) ⟨Nat.le_of_ble_eq_true rfl, Nat.le_of_ble_eq_true rfl⟩) ⟨fun a U g9 mk q => ⟨q.1, q.2.1, va_K.moved (u := U) (U := U.calling g9 mk a) (Vm.Alike.refl U.vm) q.2.2.1, Ev.bl q.2.2.2⟩, fun U hU hW => ⟨rfl, by rw [hU]; exact hPc, va_K.moved hW.alike hKc, hE.go hS (fun _ h => h.elim) hU hW⟩⟩ rfl rfl hl.1 rfl (lv_room (Nat.le_of_ble_eq_true rfl)) dX9_tellsApart_37 ⟨Nat.le_of_ble_eq_true rfl, Nat.le_of_ble_eq_true rfl⟩)).run (fun r16 h_r16 => ?_)
      obtain ⟨hq17, rfl⟩ : _ ∧ r16 = 0 := by rcases h_r16 with q | q; exact absurd (q.1.symm.trans hq2) (by decide); exact q
      refine lv_if_eq (tgt := 49) hx hb dX9_tellsApart_40 (by decide) (fun c40_18 => ?_) (fun c40_18 => by exfalso; exact absurd c40_18 (by decide))
      refine lv_sipush (v := 365) hx hb dX9_tellsApart_49 (by decide) ?_
      refine lv_isub hx hb dX9_tellsApart_52 ?_
      refine cst (v := nI (d - Fk (j + 1))) (ta_s (w := 365) (by omega) (yl_0 hq2) (by omega)) ?_
      refine lv_istore_n (lv' := [(2, .int (nI (d - Fk (j + 1)))), (0, .ref o9), (1, .int (nI d))]) hx hb dX9_tellsApart_53 rfl hl (by decide) rfl (fun ls hl => ?_)
      refine lv_aload_n hx hb dX9_tellsApart_54 rfl (lv_at hl 1 rfl) ?_
      refine lv_dup hx hb dX9_tellsApart_55 rfl ?_
      refine va_get (D := (dC, dI)) (ci := 8) (v := .int (nI (1700 + j))) (C := RX9) (T := TX9) (N := 44) hx hb hts inlX9 hown hK hP 0 rfl rfl 1 (by decide) (hts (.fieldLink RX9 101 "ClosedUntilModel" "year" "I") qw_395) (fun _ h9 => h9) rfl dX9_tellsApart_56 ?_
      refine lv_iconst (v := 1) hx hb dX9_tellsApart_59 (by decide) ?_
      refine lv_iadd hx hb dX9_tellsApart_60 ?_
      refine cst (v := nI (1700 + (j + 1))) (nI_add (1700 + j) 1) ?_
      refine va_put (D := (dC, dI)) (ci := 8) (v := .int (nI (1700 + (j + 1)))) (ty := .int) (C := RX9) (T := TX9) (N := 44) hx hb hts inlX9 tyX9 tyX9_ok nmX9 hown hK hP hD hS 0 rfl rfl 1 (by decide) (hts (.fieldLink RX9 101 "ClosedUntilModel" "year" "I") qw_395) (fun _ h9 => h9) rfl (by decide +kernel) rfl rfl (Nat.le_of_ble_eq_true rfl) dX9_tellsApart_61 (fun H locs hP hD hS => ?_)
      have hP : va_P (dC, dI) vwCl [(o9, .inr (8, [.int v9_0, .int (nI (1700 + (j + 1))), .int v9_2, .int v9_3, .ref v9_4, .int v9_5, .int v9_6, .int v9_7, .int v9_8, .int v9_9, .int v9_10, .long v9_11, .int v9_12, .int v9_13, .int v9_14, .int v9_15, .int v9_16, .int v9_17, .ref v9_18, .ref v9_19, .ref v9_20, .ref v9_21, .ref v9_22, .ref v9_23, .ref v9_24, .ref v9_25, .ref v9_26, .ref v9_27, .ref v9_28, .ref v9_29, .ref v9_30, .ref v9_31, .ref v9_32, .ref v9_33, .ref v9_34, .ref v9_35, .long v9_36, .int v9_37, .ref v9_38, .ref v9_39, .int v9_40, .ref v9_41, .ref v9_42, .ref v9_43]))] H := hP
      have hD : va_D A [(o9, .inr (8, [.int v9_0, .int (nI (1700 + (j + 1))), .int v9_2, .int v9_3, .ref v9_4, .int v9_5, .int v9_6, .int v9_7, .int v9_8, .int v9_9, .int v9_10, .long v9_11, .int v9_12, .int v9_13, .int v9_14, .int v9_15, .int v9_16, .int v9_17, .ref v9_18, .ref v9_19, .ref v9_20, .ref v9_21, .ref v9_22, .ref v9_23, .ref v9_24, .ref v9_25, .ref v9_26, .ref v9_27, .ref v9_28, .ref v9_29, .ref v9_30, .ref v9_31, .ref v9_32, .ref v9_33, .ref v9_34, .ref v9_35, .long v9_36, .int v9_37, .ref v9_38, .ref v9_39, .int v9_40, .ref v9_41, .ref v9_42, .ref v9_43]))] := hD
      refine lv_goto (tgt := 9) hx hb dX9_tellsApart_64 (by decide) ?_
      have j4 := ta_n hk j2 h2 (yl_0 hq2) (by omega)
      have j5 := Fk_mono (a := j + 1) (b := k) j4 (by omega)
      exact ih (k - (j + 1)) _ _ _ (by omega) ⟨j + 1, rfl, (by omega), (by omega), lv_sub hl [1, 2, 0] rfl, hP.sub [0] rfl, hD.sub [0] (by decide) rfl, hS⟩
set_option maxHeartbeats 4000000 in
set_option maxRecDepth 100000 in
theorem kv_ta2 (l : Launch) (dC : Nat → ClassId) (dI : Nat → Nat → Nat) (g : Gv) (sz : Nat) (o9 : Nat) (v9_0 : Int32) (v9_1 : Int32) (v9_2 : Int32) (v9_3 : Int32) (v9_4 : Nat) (v9_5 : Int32) (v9_6 : Int32) (v9_7 : Int32) (v9_8 : Int32) (v9_9 : Int32) (v9_10 : Int32) (v9_11 : Int64) (v9_12 : Int32) (v9_13 : Int32) (v9_14 : Int32) (v9_15 : Int32) (v9_16 : Int32) (v9_17 : Int32) (v9_18 : Nat) (v9_19 : Nat) (v9_20 : Nat) (v9_21 : Nat) (v9_22 : Nat) (v9_23 : Nat) (v9_24 : Nat) (v9_25 : Nat) (v9_26 : Nat) (v9_27 : Nat) (v9_28 : Nat) (v9_29 : Nat) (v9_30 : Nat) (v9_31 : Nat) (v9_32 : Nat) (v9_33 : Nat) (v9_34 : Nat) (v9_35 : Nat) (v9_36 : Int64) (v9_37 : Int32) (v9_38 : Nat) (v9_39 : Nat) (v9_40 : Int32) (v9_41 : Nat) (v9_42 : Nat) (v9_43 : Nat) (a1 : Int32) (ha : 0 ≤ a1.toInt ∧ a1.toInt < 219145) : Met l yX9_tellsApart (.code yX9_tellsApart cX9_tellsApart 3 none :: TBL) ({ frames := 2, cells := 0, slots := 0, locals := 80 }) (va_Pc [.ref o9, .int a1] (fun U => U.heap.size = sz ∧ va_P (dC, dI) vwCl [(o9, .inr (8, [.int v9_0, .int v9_1, .int v9_2, .int v9_3, .ref v9_4, .int v9_5, .int v9_6, .int v9_7, .int v9_8, .int v9_9, .int v9_10, .long v9_11, .int v9_12, .int v9_13, .int v9_14, .int v9_15, .int v9_16, .int v9_17, .ref v9_18, .ref v9_19, .ref v9_20, .ref v9_21, .ref v9_22, .ref v9_23, .ref v9_24, .ref v9_25, .ref v9_26, .ref v9_27, .ref v9_28, .ref v9_29, .ref v9_30, .ref v9_31, .ref v9_32, .ref v9_33, .ref v9_34, .ref v9_35, .long v9_36, .int v9_37, .ref v9_38, .ref v9_39, .int v9_40, .ref v9_41, .ref v9_42, .ref v9_43]))] U.heap ∧ va_K (dC, dI) vwCl [] U ∧ va_D (fun _ => True) [(o9, .inr (8, [.int v9_0, .int v9_1, .int v9_2, .int v9_3, .ref v9_4, .int v9_5, .int v9_6, .int v9_7, .int v9_8, .int v9_9, .int v9_10, .long v9_11, .int v9_12, .int v9_13, .int v9_14, .int v9_15, .int v9_16, .int v9_17, .ref v9_18, .ref v9_19, .ref v9_20, .ref v9_21, .ref v9_22, .ref v9_23, .ref v9_24, .ref v9_25, .ref v9_26, .ref v9_27, .ref v9_28, .ref v9_29, .ref v9_30, .ref v9_31, .ref v9_32, .ref v9_33, .ref v9_34, .ref v9_35, .long v9_36, .int v9_37, .ref v9_38, .ref v9_39, .int v9_40, .ref v9_41, .ref v9_42, .ref v9_43]))] ∧ Ev g (va_A [(o9, .inr (8, [.int v9_0, .int v9_1, .int v9_2, .int v9_3, .ref v9_4, .int v9_5, .int v9_6, .int v9_7, .int v9_8, .int v9_9, .int v9_10, .long v9_11, .int v9_12, .int v9_13, .int v9_14, .int v9_15, .int v9_16, .int v9_17, .ref v9_18, .ref v9_19, .ref v9_20, .ref v9_21, .ref v9_22, .ref v9_23, .ref v9_24, .ref v9_25, .ref v9_26, .ref v9_27, .ref v9_28, .ref v9_29, .ref v9_30, .ref v9_31, .ref v9_32, .ref v9_33, .ref v9_34, .ref v9_35, .long v9_36, .int v9_37, .ref v9_38, .ref v9_39, .int v9_40, .ref v9_41, .ref v9_42, .ref v9_43]))] sz) U)) (va_Qv (fun (u : Unit) => True) (fun (u : Unit) (t : State) => va_P (dC, dI) vwCl [(o9, .inr (8, [.int v9_0, .int (nI (1700 + dK a1)), .int (nI (dM a1)), .int (nI (dD a1)), .ref v9_4, .int v9_5, .int v9_6, .int v9_7, .int v9_8, .int v9_9, .int v9_10, .long v9_11, .int v9_12, .int v9_13, .int v9_14, .int v9_15, .int v9_16, .int v9_17, .ref v9_18, .ref v9_19, .ref v9_20, .ref v9_21, .ref v9_22, .ref v9_23, .ref v9_24, .ref v9_25, .ref v9_26, .ref v9_27, .ref v9_28, .ref v9_29, .ref v9_30, .ref v9_31, .ref v9_32, .ref v9_33, .ref v9_34, .ref v9_35, .long v9_36, .int v9_37, .ref v9_38, .ref v9_39, .int v9_40, .ref v9_41, .ref v9_42, .ref v9_43]))] t.heap ∧ va_K (dC, dI) vwCl [] t ∧ va_D (va_A [(o9, .inr (8, [.int v9_0, .int v9_1, .int v9_2, .int v9_3, .ref v9_4, .int v9_5, .int v9_6, .int v9_7, .int v9_8, .int v9_9, .int v9_10, .long v9_11, .int v9_12, .int v9_13, .int v9_14, .int v9_15, .int v9_16, .int v9_17, .ref v9_18, .ref v9_19, .ref v9_20, .ref v9_21, .ref v9_22, .ref v9_23, .ref v9_24, .ref v9_25, .ref v9_26, .ref v9_27, .ref v9_28, .ref v9_29, .ref v9_30, .ref v9_31, .ref v9_32, .ref v9_33, .ref v9_34, .ref v9_35, .long v9_36, .int v9_37, .ref v9_38, .ref v9_39, .int v9_40, .ref v9_41, .ref v9_42, .ref v9_43]))] sz) [(o9, .inr (8, [.int v9_0, .int (nI (1700 + dK a1)), .int (nI (dM a1)), .int (nI (dD a1)), .ref v9_4, .int v9_5, .int v9_6, .int v9_7, .int v9_8, .int v9_9, .int v9_10, .long v9_11, .int v9_12, .int v9_13, .int v9_14, .int v9_15, .int v9_16, .int v9_17, .ref v9_18, .ref v9_19, .ref v9_20, .ref v9_21, .ref v9_22, .ref v9_23, .ref v9_24, .ref v9_25, .ref v9_26, .ref v9_27, .ref v9_28, .ref v9_29, .ref v9_30, .ref v9_31, .ref v9_32, .ref v9_33, .ref v9_34, .ref v9_35, .long v9_36, .int v9_37, .ref v9_38, .ref v9_39, .int v9_40, .ref v9_41, .ref v9_42, .ref v9_43]))]) (va_A [(o9, .inr (8, [.int v9_0, .int v9_1, .int v9_2, .int v9_3, .ref v9_4, .int v9_5, .int v9_6, .int v9_7, .int v9_8, .int v9_9, .int v9_10, .long v9_11, .int v9_12, .int v9_13, .int v9_14, .int v9_15, .int v9_16, .int v9_17, .ref v9_18, .ref v9_19, .ref v9_20, .ref v9_21, .ref v9_22, .ref v9_23, .ref v9_24, .ref v9_25, .ref v9_26, .ref v9_27, .ref v9_28, .ref v9_29, .ref v9_30, .ref v9_31, .ref v9_32, .ref v9_33, .ref v9_34, .ref v9_35, .long v9_36, .int v9_37, .ref v9_38, .ref v9_39, .int v9_40, .ref v9_41, .ref v9_42, .ref v9_43]))] sz)) 0 0 (va_A [(o9, .inr (8, [.int v9_0, .int v9_1, .int v9_2, .int v9_3, .ref v9_4, .int v9_5, .int v9_6, .int v9_7, .int v9_8, .int v9_9, .int v9_10, .long v9_11, .int v9_12, .int v9_13, .int v9_14, .int v9_15, .int v9_16, .int v9_17, .ref v9_18, .ref v9_19, .ref v9_20, .ref v9_21, .ref v9_22, .ref v9_23, .ref v9_24, .ref v9_25, .ref v9_26, .ref v9_27, .ref v9_28, .ref v9_29, .ref v9_30, .ref v9_31, .ref v9_32, .ref v9_33, .ref v9_34, .ref v9_35, .long v9_36, .int v9_37, .ref v9_38, .ref v9_39, .int v9_40, .ref v9_41, .ref v9_42, .ref v9_43]))] sz) := by
  obtain ⟨q1, q2, q3, q4, q5, q6⟩ := dA ha
  have e := nIs ha.1
  have h := kv_ta l dC dI g sz o9 v9_0 v9_1 v9_2 v9_3 v9_4 v9_5 v9_6 v9_7 v9_8 v9_9 v9_10 v9_11 v9_12 v9_13 v9_14 v9_15 v9_16 v9_17 v9_18 v9_19 v9_20 v9_21 v9_22 v9_23 v9_24 v9_25 v9_26 v9_27 v9_28 v9_29 v9_30 v9_31 v9_32 v9_33 v9_34 v9_35 v9_36 v9_37 v9_38 v9_39 v9_40 v9_41 v9_42 v9_43 a1.toInt.toNat (dK a1) (dM a1) (dD a1) q1 q2 q3 q4 q5 q6
  rw [← e] at h
  exact h
set_option maxHeartbeats 4000000 in
set_option maxRecDepth 100000 in
theorem kv_X8_plus (l : Launch) (dC : Nat → ClassId) (dI : Nat → Nat → Nat) (g : Gv) (a0 : Nat) (a1 : Int32) (a2 : Int32)  : Met l yX8_plus (.code yX8_plus cX8_plus 3 (some .int) :: TBL) ({ frames := 4, cells := 0, slots := 0, locals := 160 }) (va_Pc [.ref a0, .int a1, .int a2] (fun U => va_P (dC, dI) vwCl [] U.heap ∧ va_K (dC, dI) vwCl [] U ∧ Ev g (fun _ => False) U)) (vp_Si (fun (r : Int32) => (r = pV a1 a2))) 0 0 (fun _ => False) := by
  by_cases hd : 0 ≤ a1.toInt ∧ a1.toInt ≤ 219145
  · have e := nIs hd.1
    by_cases hw : -600 ≤ a2.toInt ∧ a2.toInt ≤ 600
    · rw [pV_ok ⟨hd.1, hd.2, hw⟩]
      by_cases hL : a1.toInt = 219145
      · rw [pW_L hL]
        have e2 : a1.toInt.toNat = 219145 := by omega
        rw [e2] at e
        have h := c_8plus_L l dC dI g a0 a2 hw
        rw [← e] at h ⊢
        exact h
      · obtain ⟨q1, q2, q3, q4, q5, q6⟩ := dA (x := a1) ⟨hd.1, by omega⟩
        by_cases hc1 : ((dK a1 : Nat) : Int) + a2.toInt < 0
        · rw [pW_A hL hc1]
          have h := c_8plus_A l dC dI g a0 a1.toInt.toNat (dK a1) (dM a1) (dD a1) a2 q1 q2 q3 q4 q5 q6 hw hc1
          rw [← e] at h
          exact h
        · by_cases hc2 : 599 < ((dK a1 : Nat) : Int) + a2.toInt
          · rw [pW_B hL hc2]
            have h := c_8plus_B l dC dI g a0 a1.toInt.toNat (dK a1) (dM a1) (dD a1) a2 q1 q2 q3 q4 q5 q6 hw hc2
            rw [← e] at h
            exact h
          · have hk := pK_e (d := a1) (n := a2) (by omega)
            rw [pW_C hL (by omega) (by omega)]
            have h := c_8plus_C l dC dI g a0 a1.toInt.toNat (dK a1) (dM a1) (dD a1) a2 (pK a1 a2) q1 q2 q3 q4 q5 q6 hw (by omega) hk.symm
            rw [← e] at h
            exact h
    · rw [pV_no (by omega)]
      have h := c_8plus_W l dC dI g a0 a1.toInt.toNat a2 (by omega) hw
      rw [← e] at h
      exact h
  · rw [pV_no (by omega)]
    exact c_8plus_O l dC dI g a0 a1 a2 hd
set_option maxHeartbeats 4000000 in
set_option maxRecDepth 100000 in
theorem kv_X9_plusYears (l : Launch) (dC : Nat → ClassId) (dI : Nat → Nat → Nat) (g : Gv) (sz : Nat) (a0 : Nat) (a1 : Int32) (a2 : Int32) (a0_0 : Int32) (a0_1 : Int32) (a0_2 : Int32) (a0_3 : Int32) (a0_4 : Nat) (a0_5 : Int32) (a0_6 : Int32) (a0_7 : Int32) (a0_8 : Int32) (a0_9 : Int32) (a0_10 : Int32) (a0_11 : Int64) (a0_12 : Int32) (a0_13 : Int32) (a0_14 : Int32) (a0_15 : Int32) (a0_16 : Int32) (a0_17 : Int32) (a0_18 : Nat) (a0_19 : Nat) (a0_20 : Nat) (a0_21 : Nat) (a0_22 : Nat) (a0_23 : Nat) (a0_24 : Nat) (a0_25 : Nat) (a0_26 : Nat) (a0_27 : Nat) (a0_28 : Nat) (a0_29 : Nat) (a0_30 : Nat) (a0_31 : Nat) (a0_32 : Nat) (a0_33 : Nat) (a0_34 : Nat) (a0_35 : Nat) (a0_36 : Int64) (a0_37 : Int32) (a0_38 : Nat) (a0_39 : Nat) (a0_40 : Int32) (a0_41 : Nat) (a0_42 : Nat) (a0_43 : Nat) (h_a0_5 : 0 ≤ a0_5.toInt ∧ a0_5.toInt ≤ 1000) (h_a0_6 : 0 ≤ a0_6.toInt ∧ a0_6.toInt ≤ 1000) (h_a0_7 : 0 ≤ a0_7.toInt ∧ a0_7.toInt ≤ 1000) (h_a0_8 : 0 ≤ a0_8.toInt ∧ a0_8.toInt ≤ 1000) (h_a0_17 : 0 ≤ a0_17.toInt ∧ a0_17.toInt ≤ 1) (h_a0_37 : (-1) ≤ a0_37.toInt ∧ a0_37.toInt ≤ 23) (h_a0_40 : 0 ≤ a0_40.toInt ∧ a0_40.toInt ≤ 12) (hpd : 0 ≤ a1.toInt ∧ a1.toInt ≤ 219145) (hpn : -600 ≤ a2.toInt ∧ a2.toInt ≤ 600) : Met l yX9_plusYears (.code yX9_plusYears cX9_plusYears 5 (some .int) :: TBL) ({ frames := 3, cells := 0, slots := 0, locals := 104 }) (va_Pc [.ref a0, .int a1, .int a2] (fun U => U.heap.size = sz ∧ va_P (dC, dI) vwCl [(a0, .inr (8, [.int a0_0, .int a0_1, .int a0_2, .int a0_3, .ref a0_4, .int a0_5, .int a0_6, .int a0_7, .int a0_8, .int a0_9, .int a0_10, .long a0_11, .int a0_12, .int a0_13, .int a0_14, .int a0_15, .int a0_16, .int a0_17, .ref a0_18, .ref a0_19, .ref a0_20, .ref a0_21, .ref a0_22, .ref a0_23, .ref a0_24, .ref a0_25, .ref a0_26, .ref a0_27, .ref a0_28, .ref a0_29, .ref a0_30, .ref a0_31, .ref a0_32, .ref a0_33, .ref a0_34, .ref a0_35, .long a0_36, .int a0_37, .ref a0_38, .ref a0_39, .int a0_40, .ref a0_41, .ref a0_42, .ref a0_43]))] U.heap ∧ va_K (dC, dI) vwCl [] U ∧ va_D (fun _ => True) [(a0, .inr (8, [.int a0_0, .int a0_1, .int a0_2, .int a0_3, .ref a0_4, .int a0_5, .int a0_6, .int a0_7, .int a0_8, .int a0_9, .int a0_10, .long a0_11, .int a0_12, .int a0_13, .int a0_14, .int a0_15, .int a0_16, .int a0_17, .ref a0_18, .ref a0_19, .ref a0_20, .ref a0_21, .ref a0_22, .ref a0_23, .ref a0_24, .ref a0_25, .ref a0_26, .ref a0_27, .ref a0_28, .ref a0_29, .ref a0_30, .ref a0_31, .ref a0_32, .ref a0_33, .ref a0_34, .ref a0_35, .long a0_36, .int a0_37, .ref a0_38, .ref a0_39, .int a0_40, .ref a0_41, .ref a0_42, .ref a0_43]))] ∧ Ev g (va_A [(a0, .inr (8, [.int a0_0, .int a0_1, .int a0_2, .int a0_3, .ref a0_4, .int a0_5, .int a0_6, .int a0_7, .int a0_8, .int a0_9, .int a0_10, .long a0_11, .int a0_12, .int a0_13, .int a0_14, .int a0_15, .int a0_16, .int a0_17, .ref a0_18, .ref a0_19, .ref a0_20, .ref a0_21, .ref a0_22, .ref a0_23, .ref a0_24, .ref a0_25, .ref a0_26, .ref a0_27, .ref a0_28, .ref a0_29, .ref a0_30, .ref a0_31, .ref a0_32, .ref a0_33, .ref a0_34, .ref a0_35, .long a0_36, .int a0_37, .ref a0_38, .ref a0_39, .int a0_40, .ref a0_41, .ref a0_42, .ref a0_43]))] sz) U)) (va_Qi (fun (r : Int32) (u : Int32) => u = r) (fun (u : Int32) (t : State) => ∃ (za0_1 : Int32) (za0_2 : Int32) (za0_3 : Int32), (u = pW a1 a2) ∧ va_P (dC, dI) vwCl [(a0, .inr (8, [.int a0_0, .int za0_1, .int za0_2, .int za0_3, .ref a0_4, .int a0_5, .int a0_6, .int a0_7, .int a0_8, .int a0_9, .int a0_10, .long a0_11, .int a0_12, .int a0_13, .int a0_14, .int a0_15, .int a0_16, .int a0_17, .ref a0_18, .ref a0_19, .ref a0_20, .ref a0_21, .ref a0_22, .ref a0_23, .ref a0_24, .ref a0_25, .ref a0_26, .ref a0_27, .ref a0_28, .ref a0_29, .ref a0_30, .ref a0_31, .ref a0_32, .ref a0_33, .ref a0_34, .ref a0_35, .long a0_36, .int a0_37, .ref a0_38, .ref a0_39, .int a0_40, .ref a0_41, .ref a0_42, .ref a0_43]))] t.heap ∧ va_K (dC, dI) vwCl [] t ∧ va_D (va_A [(a0, .inr (8, [.int a0_0, .int a0_1, .int a0_2, .int a0_3, .ref a0_4, .int a0_5, .int a0_6, .int a0_7, .int a0_8, .int a0_9, .int a0_10, .long a0_11, .int a0_12, .int a0_13, .int a0_14, .int a0_15, .int a0_16, .int a0_17, .ref a0_18, .ref a0_19, .ref a0_20, .ref a0_21, .ref a0_22, .ref a0_23, .ref a0_24, .ref a0_25, .ref a0_26, .ref a0_27, .ref a0_28, .ref a0_29, .ref a0_30, .ref a0_31, .ref a0_32, .ref a0_33, .ref a0_34, .ref a0_35, .long a0_36, .int a0_37, .ref a0_38, .ref a0_39, .int a0_40, .ref a0_41, .ref a0_42, .ref a0_43]))] sz) [(a0, .inr (8, [.int a0_0, .int za0_1, .int za0_2, .int za0_3, .ref a0_4, .int a0_5, .int a0_6, .int a0_7, .int a0_8, .int a0_9, .int a0_10, .long a0_11, .int a0_12, .int a0_13, .int a0_14, .int a0_15, .int a0_16, .int a0_17, .ref a0_18, .ref a0_19, .ref a0_20, .ref a0_21, .ref a0_22, .ref a0_23, .ref a0_24, .ref a0_25, .ref a0_26, .ref a0_27, .ref a0_28, .ref a0_29, .ref a0_30, .ref a0_31, .ref a0_32, .ref a0_33, .ref a0_34, .ref a0_35, .long a0_36, .int a0_37, .ref a0_38, .ref a0_39, .int a0_40, .ref a0_41, .ref a0_42, .ref a0_43]))]) (va_A [(a0, .inr (8, [.int a0_0, .int a0_1, .int a0_2, .int a0_3, .ref a0_4, .int a0_5, .int a0_6, .int a0_7, .int a0_8, .int a0_9, .int a0_10, .long a0_11, .int a0_12, .int a0_13, .int a0_14, .int a0_15, .int a0_16, .int a0_17, .ref a0_18, .ref a0_19, .ref a0_20, .ref a0_21, .ref a0_22, .ref a0_23, .ref a0_24, .ref a0_25, .ref a0_26, .ref a0_27, .ref a0_28, .ref a0_29, .ref a0_30, .ref a0_31, .ref a0_32, .ref a0_33, .ref a0_34, .ref a0_35, .long a0_36, .int a0_37, .ref a0_38, .ref a0_39, .int a0_40, .ref a0_41, .ref a0_42, .ref a0_43]))] sz)) 0 0 (va_A [(a0, .inr (8, [.int a0_0, .int a0_1, .int a0_2, .int a0_3, .ref a0_4, .int a0_5, .int a0_6, .int a0_7, .int a0_8, .int a0_9, .int a0_10, .long a0_11, .int a0_12, .int a0_13, .int a0_14, .int a0_15, .int a0_16, .int a0_17, .ref a0_18, .ref a0_19, .ref a0_20, .ref a0_21, .ref a0_22, .ref a0_23, .ref a0_24, .ref a0_25, .ref a0_26, .ref a0_27, .ref a0_28, .ref a0_29, .ref a0_30, .ref a0_31, .ref a0_32, .ref a0_33, .ref a0_34, .ref a0_35, .long a0_36, .int a0_37, .ref a0_38, .ref a0_39, .int a0_40, .ref a0_41, .ref a0_42, .ref a0_43]))] sz) := by
  refine Met.ofW (cc := cX9_plusYears) (maxL := 5) (ret := (some .int)) (by decide) rfl ?_
  intro p e s m args below meth c s₁ B hml hv
  obtain ⟨rfl, hsz, hP, hK, hD0, hE⟩ := hv
  have hx := B.exec
  have hb := B.bytes
  have hr := B.returns
  have hts0 := atoms_spec (ws := (.code yX9_plusYears cX9_plusYears 5 (some .int) :: TBL)) B.pre
  have hts := fun (w : Cond) (h : w ∈ TBL) => hts0 w (List.mem_cons_of_mem _ h)
  have hown : s.vm.findClass RX9 = some m.cls := findClass_of_methodNamed B.named
  have hlocks := B.notSynchronized
  have hN := hE.1
  subst hsz
  have hD := hD0.self (sz := s.heap.size)
  generalize hAe : va_A [(a0, .inr (8, [.int a0_0, .int a0_1, .int a0_2, .int a0_3, .ref a0_4, .int a0_5, .int a0_6, .int a0_7, .int a0_8, .int a0_9, .int a0_10, .long a0_11, .int a0_12, .int a0_13, .int a0_14, .int a0_15, .int a0_16, .int a0_17, .ref a0_18, .ref a0_19, .ref a0_20, .ref a0_21, .ref a0_22, .ref a0_23, .ref a0_24, .ref a0_25, .ref a0_26, .ref a0_27, .ref a0_28, .ref a0_29, .ref a0_30, .ref a0_31, .ref a0_32, .ref a0_33, .ref a0_34, .ref a0_35, .long a0_36, .int a0_37, .ref a0_38, .ref a0_39, .int a0_40, .ref a0_41, .ref a0_42, .ref a0_43]))] s.heap.size = A at hD hE ⊢
  have hA : ∀ q : Nat, s.heap.size ≤ q → A q := fun q h => by rw [← hAe]; exact Or.inr h
  have hS : va_S A s.heap s.heap [] := va_S.rf
  replace hP : va_P (dC, dI) vwCl [(a0, .inr (8, [.int a0_0, .int a0_1, .int a0_2, .int a0_3, .ref a0_4, .int a0_5, .int a0_6, .int a0_7, .int a0_8, .int a0_9, .int a0_10, .long a0_11, .int a0_12, .int a0_13, .int a0_14, .int a0_15, .int a0_16, .int a0_17, .ref a0_18, .ref a0_19, .ref a0_20, .ref a0_21, .ref a0_22, .ref a0_23, .ref a0_24, .ref a0_25, .ref a0_26, .ref a0_27, .ref a0_28, .ref a0_29, .ref a0_30, .ref a0_31, .ref a0_32, .ref a0_33, .ref a0_34, .ref a0_35, .long a0_36, .int a0_37, .ref a0_38, .ref a0_39, .int a0_40, .ref a0_41, .ref a0_42, .ref a0_43]))] s.heap := hP
  have hl := lv_entry ([.ref a0, .int a1, .int a2]) (n := 5) (Nat.le_of_ble_eq_true rfl)
  rw [lg_entry_eq]
  generalize (lg_sl ([.ref a0, .int a1, .int a2]) ++ List.replicate (5 - (lg_sl ([.ref a0, .int a1, .int a2])).length) Slot.unset).toArray = ls at hl ⊢
  have hl : lv_has ls 5 [(0, .ref a0), (1, .int a1), (2, .int a2)] := hl
  have b_a1 := i32b a1
  have b_a2 := i32b a2
  have b_a0_0 := i32b a0_0
  have b_a0_1 := i32b a0_1
  have b_a0_2 := i32b a0_2
  have b_a0_3 := i32b a0_3
  have b_a0_9 := i32b a0_9
  have b_a0_10 := i32b a0_10
  have b_a0_12 := i32b a0_12
  have b_a0_13 := i32b a0_13
  have b_a0_14 := i32b a0_14
  have b_a0_15 := i32b a0_15
  have b_a0_16 := i32b a0_16
  refine lv_iload_n hx hb dX9_plusYears_0 rfl (lv_at hl 1 rfl) ?_
  refine lv_ldc (v := 219145) hx hb hown (hts (.constant RX9 110 (219145)) qw_398) dX9_plusYears_1 ?_
  refine lv_icmp_ne (tgt := 9) hx hb dX9_plusYears_3 (by decide) (fun c3_1 => ?_) (fun c3_1 => ?_)
  · have c3_1 : ¬ (a1.toInt = 219145) := mt (cv_eq rfl (by decide)).mpr c3_1
    refine lv_aload_n hx hb dX9_plusYears_9 rfl (lv_at hl 0 rfl) ?_
    refine lv_iload_n hx hb dX9_plusYears_10 rfl (lv_at hl 1 rfl) ?_
    have hPc := hP
    have hKc := hK
    have hDc := hD
    have hFc := freeW hDc hS hA
    refine va_callv (va_runV (As := [.int a1]) (rest := []) ⟨hx, hb, hml, hown, hts⟩ (kv_ta2 l dC dI g s.heap.size (a0) (a0_0) (a0_1) (a0_2) (a0_3) (a0_4) (a0_5) (a0_6) (a0_7) (a0_8) (a0_9) (a0_10) (a0_11) (a0_12) (a0_13) (a0_14) (a0_15) (a0_16) (a0_17) (a0_18) (a0_19) (a0_20) (a0_21) (a0_22) (a0_23) (a0_24) (a0_25) (a0_26) (a0_27) (a0_28) (a0_29) (a0_30) (a0_31) (a0_32) (a0_33) (a0_34) (a0_35) (a0_36) (a0_37) (a0_38) (a0_39) (a0_40) (a0_41) (a0_42) (a0_43) (a1) (by omega)) (cwV 1 hts (gwV qw_400 qw_401 qw_402 qw_386 qw_399) rfl rfl rfl (by decide +kernel) ⟨Nat.le_of_ble_eq_true rfl, Nat.le_of_ble_eq_true rfl⟩) ⟨fun a U g9 mk q => ⟨q.1, q.2.1, q.2.2.1, va_K.moved (u := U) (U := U.calling g9 mk a) (Vm.Alike.refl U.vm) q.2.2.2.1, q.2.2.2.2.1, Ev.bl q.2.2.2.2.2⟩, va_recv hK hP (ci := 8) (q0 := 0) rfl rgL1_f9e15c6, fun U hU hW => ⟨rfl, by rw [hU], atB hU hPc, va_K.moved hW.alike hKc, hDc.weaken (fun _ _ _ _ => trivial), hE.go hS hFc hU hW⟩⟩ rfl rfl hl.1 rfl (lv_room (Nat.le_of_ble_eq_true rfl)) dX9_plusYears_11 ⟨Nat.le_of_ble_eq_true rfl, Nat.le_of_ble_eq_true rfl⟩) hS (fun q _ h => hFc q h) hFc (fun u2 t H1 locs ht hvm h_u2 hB hz1 hk1 hS => ?_)
    obtain ⟨hP1, hK1, hD1⟩ := hB
    have hK1 := va_K.moved hvm.symm hK1
    have hJ9 := rgJ1_5dd387d hP hD hk1 hFc (atH ht hP1) hD1
    clear hP hD hPc hKc hDc hFc hP1 hD1 hk1 hz1
    obtain ⟨hP, hD⟩ := hJ9
    clear hK1
    generalize H1 = H at hP hS ⊢
    refine W.widen (k := 0) (n := 0) (Nat.le_of_ble_eq_true rfl) (Nat.le_of_ble_eq_true rfl) ?_
    have hdA := dA (x := a1) (by omega)
    have ny : (nI (1700 + dK a1)).toInt = 1700 + ((dK a1 : Nat) : Int) := by rw [nI_toInt (by omega)]; omega
    have nm : (nI (dM a1)).toInt = ((dM a1 : Nat) : Int) := nI_toInt (by omega)
    have hmb8 := mlN_b (1700 + dK a1) (dM a1)
    have nd : (nI (dD a1)).toInt = ((dD a1 : Nat) : Int) := nI_toInt (by omega)
    refine lv_aload_n hx hb dX9_plusYears_14 rfl (lv_at hl 0 rfl) ?_
    refine va_get (D := (dC, dI)) (ci := 8) (v := .int (nI (1700 + dK a1))) (C := RX9) (T := TX9) (N := 44) hx hb hts inlX9 hown hK hP 0 rgL1_f9e15c6 rfl 1 (by decide) (hts (.fieldLink RX9 101 "ClosedUntilModel" "year" "I") qw_395) (fun _ h9 => h9) rfl dX9_plusYears_15 ?_
    refine lv_iload_n hx hb dX9_plusYears_18 rfl (lv_at hl 2 rfl) ?_
    refine lv_iadd hx hb dX9_plusYears_19 ?_
    refine lv_topi (fun x4 e_x4 => ?_)
    try have e_x4 := ti_add e_x4 rfl rfl (by omega)
    refine lv_istore_n (lv' := [(3, .int x4), (0, .ref a0), (1, .int a1), (2, .int a2)]) hx hb dX9_plusYears_20 rfl hl (by decide) rfl (fun ls hl => ?_)
    refine lv_iload_n hx hb dX9_plusYears_21 rfl (lv_at hl 0 rfl) ?_
    refine lv_sipush (v := 2299) hx hb dX9_plusYears_22 (by decide) ?_
    refine lv_icmp_le (tgt := 31) hx hb dX9_plusYears_25 (by decide) (fun c25_5 => ?_) (fun c25_5 => ?_)
    · have c25_5 : x4.toInt ≤ 2299 := (cv_le rfl (by decide)).mp c25_5
      refine lv_iload_n hx hb dX9_plusYears_31 rfl (lv_at hl 0 rfl) ?_
      refine lv_sipush (v := 1700) hx hb dX9_plusYears_32 (by decide) ?_
      refine lv_icmp_ge (tgt := 40) hx hb dX9_plusYears_35 (by decide) (fun c35_6 => ?_) (fun c35_6 => ?_)
      · have c35_6 : 1700 ≤ x4.toInt := (cv_le (by decide) rfl).mp c35_6
        refine lv_iload_n hx hb dX9_plusYears_40 rfl (lv_at hl 0 rfl) ?_
        refine lv_aload_n hx hb dX9_plusYears_41 rfl (lv_at hl 1 rfl) ?_
        refine va_get (D := (dC, dI)) (ci := 8) (v := .int (nI (dM a1))) (C := RX9) (T := TX9) (N := 44) hx hb hts inlX9 hown hK hP 0 rgL1_f9e15c6 rfl 2 (by decide) (hts (.fieldLink RX9 104 "ClosedUntilModel" "month" "I") qw_396) (fun _ h9 => h9) rfl dX9_plusYears_42 ?_
        have hy9 : x4.toInt = 1700 + ((dK a1 : Nat) : Int) + a2.toInt := by omega
        have hkk := pK_e (d := a1) (n := a2) (by omega)
        have hmb9 := mlN_b (1700 + pK a1 a2) (dM a1)
        have hye9 : x4.toInt.toNat = 1700 + pK a1 a2 := by omega
        have hPc := (rgP1_e1bfc9f hP)
        have hKc := hK
        refine vp_callSi ((va_runS (As := [.int x4, .int (nI (dM a1))]) (rest := []) ⟨hx, hb, hml, hown, hts⟩ (kv_daysIn l dC dI g (x4) ((nI (dM a1))) (by omega) (by omega)) (va_cwS 2 hts (gwS qw_393 qw_394 qw_386 qw_392) rfl rfl rfl (by decide +kernel) ⟨Nat.le_of_ble_eq_true rfl, Nat.le_of_ble_eq_true rfl⟩) ⟨fun a U g9 mk q => ⟨q.1, q.2.1, va_K.moved (u := U) (U := U.calling g9 mk a) (Vm.Alike.refl U.vm) q.2.2.1, Ev.bl q.2.2.2⟩, fun U hU hW => ⟨rfl, atB hU hPc, va_K.moved hW.alike hKc, hE.go hS (fun _ h => h.elim) hU hW⟩⟩ rfl rfl hl.1 rfl (lv_room (Nat.le_of_ble_eq_true rfl)) dX9_plusYears_45 ⟨Nat.le_of_ble_eq_true rfl, Nat.le_of_ble_eq_true rfl⟩)).run (fun r7 h_r7 => ?_)
        have h_r7 : (r7 = nI (mlN x4.toInt.toNat (nI (dM a1)).toInt.toNat)) := h_r7
        have b_r7 := i32b r7
        have hm9 : r7.toInt = ((mlN (1700 + pK a1 a2) (dM a1) : Nat) : Int) := by rw [h_r7, hye9, nIt (by omega), nI_toInt (by omega)]
        refine lv_istore (lv' := [(4, .int r7), (3, .int x4), (0, .ref a0), (1, .int a1), (2, .int a2)]) hx hb dX9_plusYears_48 hl (by decide) rfl (fun ls hl => ?_)
        refine lv_iload_n hx hb dX9_plusYears_50 rfl (lv_at hl 1 rfl) ?_
        refine lv_aload_n hx hb dX9_plusYears_51 rfl (lv_at hl 2 rfl) ?_
        refine va_get (D := (dC, dI)) (ci := 8) (v := .int (nI (dM a1))) (C := RX9) (T := TX9) (N := 44) hx hb hts inlX9 hown hK hP 0 rgL1_f9e15c6 rfl 2 (by decide) (hts (.fieldLink RX9 104 "ClosedUntilModel" "month" "I") qw_396) (fun _ h9 => h9) rfl dX9_plusYears_52 ?_
        refine lv_aload_n hx hb dX9_plusYears_55 rfl (lv_at hl 2 rfl) ?_
        refine va_get (D := (dC, dI)) (ci := 8) (v := .int (nI (dD a1))) (C := RX9) (T := TX9) (N := 44) hx hb hts inlX9 hown hK hP 0 rgL1_f9e15c6 rfl 3 (by decide) (hts (.fieldLink RX9 107 "ClosedUntilModel" "dayIn" "I") qw_397) (fun _ h9 => h9) rfl dX9_plusYears_56 ?_
        refine lv_iload hx hb dX9_plusYears_59 (lv_at hl 0 rfl) ?_
        refine lv_icmp_le (tgt := 69) hx hb dX9_plusYears_61 (by decide) (fun c61_8 => ?_) (fun c61_8 => ?_)
        · have c61_8 : (nI (dD a1)).toInt ≤ r7.toInt := (cv_le rfl rfl).mp c61_8
          refine lv_aload_n hx hb dX9_plusYears_69 rfl (lv_at hl 2 rfl) ?_
          refine va_get (D := (dC, dI)) (ci := 8) (v := .int (nI (dD a1))) (C := RX9) (T := TX9) (N := 44) hx hb hts inlX9 hown hK hP 0 rgL1_f9e15c6 rfl 3 (by decide) (hts (.fieldLink RX9 107 "ClosedUntilModel" "dayIn" "I") qw_397) (fun _ h9 => h9) rfl dX9_plusYears_70 ?_
          have hx9 : (nI (dD a1)).toInt = ((min (dD a1) (mlN (1700 + pK a1 a2) (dM a1)) : Nat) : Int) := by omega
          have hPc := (rgP1_e1bfc9f hP)
          have hKc := hK
          refine vp_callSi ((va_runS (As := [.int x4, .int (nI (dM a1)), .int (nI (dD a1))]) (rest := []) ⟨hx, hb, hml, hown, hts⟩ (kv_dayOf l dC dI g (x4) ((nI (dM a1))) ((nI (dD a1))) (by omega) (by omega) (by omega)) (va_cwS 3 hts (gwS qw_404 qw_405 qw_386 qw_403) rfl rfl rfl (by decide +kernel) ⟨Nat.le_of_ble_eq_true rfl, Nat.le_of_ble_eq_true rfl⟩) ⟨fun a U g9 mk q => ⟨q.1, q.2.1, va_K.moved (u := U) (U := U.calling g9 mk a) (Vm.Alike.refl U.vm) q.2.2.1, Ev.bl q.2.2.2⟩, fun U hU hW => ⟨rfl, atB hU hPc, va_K.moved hW.alike hKc, hE.go hS (fun _ h => h.elim) hU hW⟩⟩ rfl rfl hl.1 rfl (lv_room (Nat.le_of_ble_eq_true rfl)) dX9_plusYears_73 ⟨Nat.le_of_ble_eq_true rfl, Nat.le_of_ble_eq_true rfl⟩)).run (fun r9 h_r9 => ?_)
          have h_r9 : (r9 = dW x4 (nI (dM a1)) (nI (dD a1))) := h_r9
          have b_r9 := i32b r9
          refine W.widen (k := 0) (n := 0) (Nat.le_of_ble_eq_true rfl) (Nat.le_of_ble_eq_true rfl) ?_
          have hP9 := hP
          have hD9 := hD
          have hK9 := hK
          have hf9_0 : (r9 = pW a1 a2) := (pW_min (by omega) hy9 (by omega) (by omega) hx9 h_r9)
          exact W.iret (v := r9) hx hb hr (fun t ht hW => ⟨⟨r9, r9, rfl, rfl, (nI (1700 + dK a1)), (nI (dM a1)), (nI (dD a1)), hf9_0, atB ht hP9, va_K.moved hW.alike hK9, hD9⟩, hS.F ht⟩) hS.2.2 dX9_plusYears_76
        · have c61_8 : ¬ ((nI (dD a1)).toInt ≤ r7.toInt) := mt (cv_le rfl rfl).mpr c61_8
          refine lv_iload hx hb dX9_plusYears_64 (lv_at hl 0 rfl) ?_
          refine lv_goto (tgt := 73) hx hb dX9_plusYears_66 (by decide) ?_
          have hx9 : r7.toInt = ((min (dD a1) (mlN (1700 + pK a1 a2) (dM a1)) : Nat) : Int) := by omega
          have hPc := (rgP1_e1bfc9f hP)
          have hKc := hK
          refine vp_callSi ((va_runS (As := [.int x4, .int (nI (dM a1)), .int r7]) (rest := []) ⟨hx, hb, hml, hown, hts⟩ (kv_dayOf l dC dI g (x4) ((nI (dM a1))) (r7) (by omega) (by omega) (by omega)) (va_cwS 3 hts (gwS qw_404 qw_405 qw_386 qw_403) rfl rfl rfl (by decide +kernel) ⟨Nat.le_of_ble_eq_true rfl, Nat.le_of_ble_eq_true rfl⟩) ⟨fun a U g9 mk q => ⟨q.1, q.2.1, va_K.moved (u := U) (U := U.calling g9 mk a) (Vm.Alike.refl U.vm) q.2.2.1, Ev.bl q.2.2.2⟩, fun U hU hW => ⟨rfl, atB hU hPc, va_K.moved hW.alike hKc, hE.go hS (fun _ h => h.elim) hU hW⟩⟩ rfl rfl hl.1 rfl (lv_room (Nat.le_of_ble_eq_true rfl)) dX9_plusYears_73 ⟨Nat.le_of_ble_eq_true rfl, Nat.le_of_ble_eq_true rfl⟩)).run (fun r10 h_r10 => ?_)
          have h_r10 : (r10 = dW x4 (nI (dM a1)) r7) := h_r10
          have b_r10 := i32b r10
          refine W.widen (k := 0) (n := 0) (Nat.le_of_ble_eq_true rfl) (Nat.le_of_ble_eq_true rfl) ?_
          have hP9 := hP
          have hD9 := hD
          have hK9 := hK
          have hf9_0 : (r10 = pW a1 a2) := (pW_min (by omega) hy9 (by omega) (by omega) hx9 h_r10)
          exact W.iret (v := r10) hx hb hr (fun t ht hW => ⟨⟨r10, r10, rfl, rfl, (nI (1700 + dK a1)), (nI (dM a1)), (nI (dD a1)), hf9_0, atB ht hP9, va_K.moved hW.alike hK9, hD9⟩, hS.F ht⟩) hS.2.2 dX9_plusYears_76
      · have c35_6 : ¬ (1700 ≤ x4.toInt) := mt (cv_le (by decide) rfl).mpr c35_6
        refine lv_iconst (v := 0) hx hb dX9_plusYears_38 (by decide) ?_
        have qc0 : (0 : Int32).toInt = 0 := by decide
        refine W.widen (k := 0) (n := 0) (Nat.le_of_ble_eq_true rfl) (Nat.le_of_ble_eq_true rfl) ?_
        have hP9 := hP
        have hD9 := hD
        have hK9 := hK
        have hf9_0 : ((0 : Int32) = pW a1 a2) := (pW_A (by omega) (by omega)).symm
        exact W.iret (v := 0) hx hb hr (fun t ht hW => ⟨⟨0, 0, rfl, rfl, (nI (1700 + dK a1)), (nI (dM a1)), (nI (dD a1)), hf9_0, atB ht hP9, va_K.moved hW.alike hK9, hD9⟩, hS.F ht⟩) hS.2.2 dX9_plusYears_39
    · have c25_5 : ¬ (x4.toInt ≤ 2299) := mt (cv_le rfl (by decide)).mpr c25_5
      refine lv_ldc (v := 219145) hx hb hown (hts (.constant RX9 110 (219145)) qw_398) dX9_plusYears_28 ?_
      have qc219145 : (219145 : Int32).toInt = 219145 := by decide
      refine W.widen (k := 0) (n := 0) (Nat.le_of_ble_eq_true rfl) (Nat.le_of_ble_eq_true rfl) ?_
      have hP9 := hP
      have hD9 := hD
      have hK9 := hK
      have hf9_0 : ((219145 : Int32) = pW a1 a2) := (by first | exact (pW_L (by omega)).symm | exact (pW_B (by omega) (by omega)).symm)
      exact W.iret (v := 219145) hx hb hr (fun t ht hW => ⟨⟨219145, 219145, rfl, rfl, (nI (1700 + dK a1)), (nI (dM a1)), (nI (dD a1)), hf9_0, atB ht hP9, va_K.moved hW.alike hK9, hD9⟩, hS.F ht⟩) hS.2.2 dX9_plusYears_30
  · have c3_1 : a1.toInt = 219145 := (cv_eq rfl (by decide)).mp c3_1
    refine lv_ldc (v := 219145) hx hb hown (hts (.constant RX9 110 (219145)) qw_398) dX9_plusYears_6 ?_
    have qc219145 : (219145 : Int32).toInt = 219145 := by decide
    refine W.widen (k := 0) (n := 0) (Nat.le_of_ble_eq_true rfl) (Nat.le_of_ble_eq_true rfl) ?_
    have hP9 := hP
    have hD9 := hD
    have hK9 := hK
    have hf9_0 : ((219145 : Int32) = pW a1 a2) := (by first | exact (pW_L (by omega)).symm | exact (pW_B (by omega) (by omega)).symm)
    exact W.iret (v := 219145) hx hb hr (fun t ht hW => ⟨⟨219145, 219145, rfl, rfl, a0_1, a0_2, a0_3, hf9_0, atB ht hP9, va_K.moved hW.alike hK9, hD9⟩, hS.F ht⟩) hS.2.2 dX9_plusYears_8
set_option maxHeartbeats 4000000 in
set_option maxRecDepth 100000 in
theorem kv_X9_plus (l : Launch) (dC : Nat → ClassId) (dI : Nat → Nat → Nat) (g : Gv) (sz : Nat) (a0 : Nat) (a1 : Int32) (a2 : Int32) (a0_0 : Int32) (a0_1 : Int32) (a0_2 : Int32) (a0_3 : Int32) (a0_4 : Nat) (a0_5 : Int32) (a0_6 : Int32) (a0_7 : Int32) (a0_8 : Int32) (a0_9 : Int32) (a0_10 : Int32) (a0_11 : Int64) (a0_12 : Int32) (a0_13 : Int32) (a0_14 : Int32) (a0_15 : Int32) (a0_16 : Int32) (a0_17 : Int32) (a0_18 : Nat) (a0_19 : Nat) (a0_20 : Nat) (a0_21 : Nat) (a0_22 : Nat) (a0_23 : Nat) (a0_24 : Nat) (a0_25 : Nat) (a0_26 : Nat) (a0_27 : Nat) (a0_28 : Nat) (a0_29 : Nat) (a0_30 : Nat) (a0_31 : Nat) (a0_32 : Nat) (a0_33 : Nat) (a0_34 : Nat) (a0_35 : Nat) (a0_36 : Int64) (a0_37 : Int32) (a0_38 : Nat) (a0_39 : Nat) (a0_40 : Int32) (a0_41 : Nat) (a0_42 : Nat) (a0_43 : Nat) (h_a0_5 : 0 ≤ a0_5.toInt ∧ a0_5.toInt ≤ 1000) (h_a0_6 : 0 ≤ a0_6.toInt ∧ a0_6.toInt ≤ 1000) (h_a0_7 : 0 ≤ a0_7.toInt ∧ a0_7.toInt ≤ 1000) (h_a0_8 : 0 ≤ a0_8.toInt ∧ a0_8.toInt ≤ 1000) (h_a0_17 : 0 ≤ a0_17.toInt ∧ a0_17.toInt ≤ 1) (h_a0_37 : (-1) ≤ a0_37.toInt ∧ a0_37.toInt ≤ 23) (h_a0_40 : 0 ≤ a0_40.toInt ∧ a0_40.toInt ≤ 12) : Met l yX9_plus (.code yX9_plus cX9_plus 3 (some .int) :: TBL) ({ frames := 4, cells := 0, slots := 0, locals := 128 }) (va_Pc [.ref a0, .int a1, .int a2] (fun U => U.heap.size = sz ∧ va_P (dC, dI) vwCl [(a0, .inr (8, [.int a0_0, .int a0_1, .int a0_2, .int a0_3, .ref a0_4, .int a0_5, .int a0_6, .int a0_7, .int a0_8, .int a0_9, .int a0_10, .long a0_11, .int a0_12, .int a0_13, .int a0_14, .int a0_15, .int a0_16, .int a0_17, .ref a0_18, .ref a0_19, .ref a0_20, .ref a0_21, .ref a0_22, .ref a0_23, .ref a0_24, .ref a0_25, .ref a0_26, .ref a0_27, .ref a0_28, .ref a0_29, .ref a0_30, .ref a0_31, .ref a0_32, .ref a0_33, .ref a0_34, .ref a0_35, .long a0_36, .int a0_37, .ref a0_38, .ref a0_39, .int a0_40, .ref a0_41, .ref a0_42, .ref a0_43]))] U.heap ∧ va_K (dC, dI) vwCl [] U ∧ va_D (fun _ => True) [(a0, .inr (8, [.int a0_0, .int a0_1, .int a0_2, .int a0_3, .ref a0_4, .int a0_5, .int a0_6, .int a0_7, .int a0_8, .int a0_9, .int a0_10, .long a0_11, .int a0_12, .int a0_13, .int a0_14, .int a0_15, .int a0_16, .int a0_17, .ref a0_18, .ref a0_19, .ref a0_20, .ref a0_21, .ref a0_22, .ref a0_23, .ref a0_24, .ref a0_25, .ref a0_26, .ref a0_27, .ref a0_28, .ref a0_29, .ref a0_30, .ref a0_31, .ref a0_32, .ref a0_33, .ref a0_34, .ref a0_35, .long a0_36, .int a0_37, .ref a0_38, .ref a0_39, .int a0_40, .ref a0_41, .ref a0_42, .ref a0_43]))] ∧ Ev g (va_A [(a0, .inr (8, [.int a0_0, .int a0_1, .int a0_2, .int a0_3, .ref a0_4, .int a0_5, .int a0_6, .int a0_7, .int a0_8, .int a0_9, .int a0_10, .long a0_11, .int a0_12, .int a0_13, .int a0_14, .int a0_15, .int a0_16, .int a0_17, .ref a0_18, .ref a0_19, .ref a0_20, .ref a0_21, .ref a0_22, .ref a0_23, .ref a0_24, .ref a0_25, .ref a0_26, .ref a0_27, .ref a0_28, .ref a0_29, .ref a0_30, .ref a0_31, .ref a0_32, .ref a0_33, .ref a0_34, .ref a0_35, .long a0_36, .int a0_37, .ref a0_38, .ref a0_39, .int a0_40, .ref a0_41, .ref a0_42, .ref a0_43]))] sz) U)) (va_Qi (fun (r : Int32) (u : Int32) => u = r) (fun (u : Int32) (t : State) => ∃ (za0_0 : Int32) (za0_1 : Int32) (za0_2 : Int32) (za0_3 : Int32), (u = pV a1 a2) ∧ va_P (dC, dI) vwCl [(a0, .inr (8, [.int za0_0, .int za0_1, .int za0_2, .int za0_3, .ref a0_4, .int a0_5, .int a0_6, .int a0_7, .int a0_8, .int a0_9, .int a0_10, .long a0_11, .int a0_12, .int a0_13, .int a0_14, .int a0_15, .int a0_16, .int a0_17, .ref a0_18, .ref a0_19, .ref a0_20, .ref a0_21, .ref a0_22, .ref a0_23, .ref a0_24, .ref a0_25, .ref a0_26, .ref a0_27, .ref a0_28, .ref a0_29, .ref a0_30, .ref a0_31, .ref a0_32, .ref a0_33, .ref a0_34, .ref a0_35, .long a0_36, .int a0_37, .ref a0_38, .ref a0_39, .int a0_40, .ref a0_41, .ref a0_42, .ref a0_43]))] t.heap ∧ va_K (dC, dI) vwCl [] t ∧ va_D (va_A [(a0, .inr (8, [.int a0_0, .int a0_1, .int a0_2, .int a0_3, .ref a0_4, .int a0_5, .int a0_6, .int a0_7, .int a0_8, .int a0_9, .int a0_10, .long a0_11, .int a0_12, .int a0_13, .int a0_14, .int a0_15, .int a0_16, .int a0_17, .ref a0_18, .ref a0_19, .ref a0_20, .ref a0_21, .ref a0_22, .ref a0_23, .ref a0_24, .ref a0_25, .ref a0_26, .ref a0_27, .ref a0_28, .ref a0_29, .ref a0_30, .ref a0_31, .ref a0_32, .ref a0_33, .ref a0_34, .ref a0_35, .long a0_36, .int a0_37, .ref a0_38, .ref a0_39, .int a0_40, .ref a0_41, .ref a0_42, .ref a0_43]))] sz) [(a0, .inr (8, [.int za0_0, .int za0_1, .int za0_2, .int za0_3, .ref a0_4, .int a0_5, .int a0_6, .int a0_7, .int a0_8, .int a0_9, .int a0_10, .long a0_11, .int a0_12, .int a0_13, .int a0_14, .int a0_15, .int a0_16, .int a0_17, .ref a0_18, .ref a0_19, .ref a0_20, .ref a0_21, .ref a0_22, .ref a0_23, .ref a0_24, .ref a0_25, .ref a0_26, .ref a0_27, .ref a0_28, .ref a0_29, .ref a0_30, .ref a0_31, .ref a0_32, .ref a0_33, .ref a0_34, .ref a0_35, .long a0_36, .int a0_37, .ref a0_38, .ref a0_39, .int a0_40, .ref a0_41, .ref a0_42, .ref a0_43]))]) (va_A [(a0, .inr (8, [.int a0_0, .int a0_1, .int a0_2, .int a0_3, .ref a0_4, .int a0_5, .int a0_6, .int a0_7, .int a0_8, .int a0_9, .int a0_10, .long a0_11, .int a0_12, .int a0_13, .int a0_14, .int a0_15, .int a0_16, .int a0_17, .ref a0_18, .ref a0_19, .ref a0_20, .ref a0_21, .ref a0_22, .ref a0_23, .ref a0_24, .ref a0_25, .ref a0_26, .ref a0_27, .ref a0_28, .ref a0_29, .ref a0_30, .ref a0_31, .ref a0_32, .ref a0_33, .ref a0_34, .ref a0_35, .long a0_36, .int a0_37, .ref a0_38, .ref a0_39, .int a0_40, .ref a0_41, .ref a0_42, .ref a0_43]))] sz)) 0 0 (va_A [(a0, .inr (8, [.int a0_0, .int a0_1, .int a0_2, .int a0_3, .ref a0_4, .int a0_5, .int a0_6, .int a0_7, .int a0_8, .int a0_9, .int a0_10, .long a0_11, .int a0_12, .int a0_13, .int a0_14, .int a0_15, .int a0_16, .int a0_17, .ref a0_18, .ref a0_19, .ref a0_20, .ref a0_21, .ref a0_22, .ref a0_23, .ref a0_24, .ref a0_25, .ref a0_26, .ref a0_27, .ref a0_28, .ref a0_29, .ref a0_30, .ref a0_31, .ref a0_32, .ref a0_33, .ref a0_34, .ref a0_35, .long a0_36, .int a0_37, .ref a0_38, .ref a0_39, .int a0_40, .ref a0_41, .ref a0_42, .ref a0_43]))] sz) := by
  refine Met.ofW (cc := cX9_plus) (maxL := 3) (ret := (some .int)) (by decide) rfl ?_
  intro p e s m args below meth c s₁ B hml hv
  obtain ⟨rfl, hsz, hP, hK, hD0, hE⟩ := hv
  have hx := B.exec
  have hb := B.bytes
  have hr := B.returns
  have hts0 := atoms_spec (ws := (.code yX9_plus cX9_plus 3 (some .int) :: TBL)) B.pre
  have hts := fun (w : Cond) (h : w ∈ TBL) => hts0 w (List.mem_cons_of_mem _ h)
  have hown : s.vm.findClass RX9 = some m.cls := findClass_of_methodNamed B.named
  have hlocks := B.notSynchronized
  have hN := hE.1
  subst hsz
  have hD := hD0.self (sz := s.heap.size)
  generalize hAe : va_A [(a0, .inr (8, [.int a0_0, .int a0_1, .int a0_2, .int a0_3, .ref a0_4, .int a0_5, .int a0_6, .int a0_7, .int a0_8, .int a0_9, .int a0_10, .long a0_11, .int a0_12, .int a0_13, .int a0_14, .int a0_15, .int a0_16, .int a0_17, .ref a0_18, .ref a0_19, .ref a0_20, .ref a0_21, .ref a0_22, .ref a0_23, .ref a0_24, .ref a0_25, .ref a0_26, .ref a0_27, .ref a0_28, .ref a0_29, .ref a0_30, .ref a0_31, .ref a0_32, .ref a0_33, .ref a0_34, .ref a0_35, .long a0_36, .int a0_37, .ref a0_38, .ref a0_39, .int a0_40, .ref a0_41, .ref a0_42, .ref a0_43]))] s.heap.size = A at hD hE ⊢
  have hA : ∀ q : Nat, s.heap.size ≤ q → A q := fun q h => by rw [← hAe]; exact Or.inr h
  have hS : va_S A s.heap s.heap [] := va_S.rf
  replace hP : va_P (dC, dI) vwCl [(a0, .inr (8, [.int a0_0, .int a0_1, .int a0_2, .int a0_3, .ref a0_4, .int a0_5, .int a0_6, .int a0_7, .int a0_8, .int a0_9, .int a0_10, .long a0_11, .int a0_12, .int a0_13, .int a0_14, .int a0_15, .int a0_16, .int a0_17, .ref a0_18, .ref a0_19, .ref a0_20, .ref a0_21, .ref a0_22, .ref a0_23, .ref a0_24, .ref a0_25, .ref a0_26, .ref a0_27, .ref a0_28, .ref a0_29, .ref a0_30, .ref a0_31, .ref a0_32, .ref a0_33, .ref a0_34, .ref a0_35, .long a0_36, .int a0_37, .ref a0_38, .ref a0_39, .int a0_40, .ref a0_41, .ref a0_42, .ref a0_43]))] s.heap := hP
  have hl := lv_entry ([.ref a0, .int a1, .int a2]) (n := 3) (Nat.le_of_ble_eq_true rfl)
  rw [lg_entry_eq]
  generalize (lg_sl ([.ref a0, .int a1, .int a2]) ++ List.replicate (3 - (lg_sl ([.ref a0, .int a1, .int a2])).length) Slot.unset).toArray = ls at hl ⊢
  have hl : lv_has ls 3 [(0, .ref a0), (1, .int a1), (2, .int a2)] := hl
  have b_a1 := i32b a1
  have b_a2 := i32b a2
  have b_a0_0 := i32b a0_0
  have b_a0_1 := i32b a0_1
  have b_a0_2 := i32b a0_2
  have b_a0_3 := i32b a0_3
  have b_a0_9 := i32b a0_9
  have b_a0_10 := i32b a0_10
  have b_a0_12 := i32b a0_12
  have b_a0_13 := i32b a0_13
  have b_a0_14 := i32b a0_14
  have b_a0_15 := i32b a0_15
  have b_a0_16 := i32b a0_16
  refine lv_aload_n hx hb dX9_plus_0 rfl (lv_at hl 0 rfl) ?_
  refine lv_iconst (v := 0) hx hb dX9_plus_1 (by decide) ?_
  refine va_put (D := (dC, dI)) (ci := 8) (v := .int 0) (ty := .int) (C := RX9) (T := TX9) (N := 44) hx hb hts inlX9 tyX9 tyX9_ok nmX9 hown hK hP hD hS 0 rgL1_f9e15c6 rfl 0 (by decide) (hts (.fieldLink RX9 85 "ClosedUntilModel" "thrown" "I") qw_408) (fun _ h9 => h9) rfl (by decide +kernel) rfl rfl (Nat.le_of_ble_eq_true rfl) dX9_plus_2 (fun H locs hP9 hD9 hS9 => ?_)
  clear hP hD hS
  obtain ⟨hP, hD⟩ := rgS1_4a8b427 (e := (a0, .inr (8, [.int 0, .int a0_1, .int a0_2, .int a0_3, .ref a0_4, .int a0_5, .int a0_6, .int a0_7, .int a0_8, .int a0_9, .int a0_10, .long a0_11, .int a0_12, .int a0_13, .int a0_14, .int a0_15, .int a0_16, .int a0_17, .ref a0_18, .ref a0_19, .ref a0_20, .ref a0_21, .ref a0_22, .ref a0_23, .ref a0_24, .ref a0_25, .ref a0_26, .ref a0_27, .ref a0_28, .ref a0_29, .ref a0_30, .ref a0_31, .ref a0_32, .ref a0_33, .ref a0_34, .ref a0_35, .long a0_36, .int a0_37, .ref a0_38, .ref a0_39, .int a0_40, .ref a0_41, .ref a0_42, .ref a0_43]))) hP9 hD9 rfl
  have hS := hS9; clear hP9 hD9 hS9
  refine lv_iload_n hx hb dX9_plus_5 rfl (lv_at hl 1 rfl) ?_
  refine lv_i2l hx hb dX9_plus_6 rfl ?_
  refine lv_lconst (v := 0) hx hb dX9_plus_7 (by decide) ?_
  refine lv_ldc2 (v := 219145) hx hb hown (hts (.constantLong RX9 133 (219145)) qw_449) dX9_plus_8 ?_
  have hPc := (rgP1_e1bfc9f hP)
  have hKc := hK
  refine vp_callSi ((va_runS (As := [.long (a1.toInt64), .long 0, .long 219145]) (rest := []) ⟨hx, hb, hml, hown, hts⟩ (k_X9_within l dC dI g ((a1.toInt64)) (0) (219145) (a1.toInt) (0) (219145) (w_li rfl) (by decide) (by decide)) (va_cwS 3 hts (gwS qw_444 qw_445 qw_386 qw_443) rfl rfl rfl (by decide +kernel) ⟨Nat.le_of_ble_eq_true rfl, Nat.le_of_ble_eq_true rfl⟩) ⟨fun a U g9 mk q => ⟨q.1, q.2.1, va_K.moved (u := U) (U := U.calling g9 mk a) (Vm.Alike.refl U.vm) q.2.2.1, Ev.bl q.2.2.2⟩, fun U hU hW => ⟨rfl, atB hU hPc, va_K.moved hW.alike hKc, hE.go hS (fun _ h => h.elim) hU hW⟩⟩ rfl rfl hl.1 rfl (lv_room (Nat.le_of_ble_eq_true rfl)) dX9_plus_11 ⟨Nat.le_of_ble_eq_true rfl, Nat.le_of_ble_eq_true rfl⟩)).run (fun r1 h_r1 => ?_)
  have h_r1 : (r1 = 0 ∨ r1 = 1) ∧ ((r1.toInt = 1 ∧ 0 ≤ a1.toInt ∧ a1.toInt ≤ 219145) ∨ (r1.toInt = 0 ∧ ¬ (0 ≤ a1.toInt ∧ a1.toInt ≤ 219145))) := h_r1
  have b_r1 := z01 h_r1.1
  refine lv_if_eq (tgt := 40) hx hb dX9_plus_14 (by decide) (fun c14_2 => ?_) (fun c14_2 => ?_)
  · have c14_2 : r1.toInt = 0 := (cv_eq rfl (by decide)).mp c14_2
    refine lv_iconst (v := (-1)) hx hb dX9_plus_40 (by decide) ?_
    have qcm1 : ((-1) : Int32).toInt = (-1) := by decide
    have qc0 : (0 : Int32).toInt = 0 := by decide
    refine W.widen (k := 0) (n := 0) (Nat.le_of_ble_eq_true rfl) (Nat.le_of_ble_eq_true rfl) ?_
    have hP9 := hP
    have hD9 := hD
    have hK9 := hK
    have hf9_0 : (((-1) : Int32) = pV a1 a2) := (pV_no (by omega)).symm
    exact W.iret (v := (-1)) hx hb hr (fun t ht hW => ⟨⟨(-1), (-1), rfl, rfl, 0, a0_1, a0_2, a0_3, hf9_0, atB ht hP9, va_K.moved hW.alike hK9, hD9⟩, hS.F ht⟩) hS.2.2 dX9_plus_41
  · have c14_2 : ¬ (r1.toInt = 0) := mt (cv_eq rfl (by decide)).mpr c14_2
    refine lv_iload_n hx hb dX9_plus_17 rfl (lv_at hl 2 rfl) ?_
    refine lv_i2l hx hb dX9_plus_18 rfl ?_
    refine lv_ldc2 (v := (-600)) hx hb hown (hts (.constantLong RX9 135 (-600)) qw_450) dX9_plus_19 ?_
    refine lv_ldc2 (v := 600) hx hb hown (hts (.constantLong RX9 137 (600)) qw_451) dX9_plus_22 ?_
    have hPc := (rgP1_e1bfc9f hP)
    have hKc := hK
    refine vp_callSi ((va_runS (As := [.long (a2.toInt64), .long (-600), .long 600]) (rest := []) ⟨hx, hb, hml, hown, hts⟩ (k_X9_within l dC dI g ((a2.toInt64)) ((-600)) (600) (a2.toInt) ((-600)) (600) (w_li rfl) (by decide) (by decide)) (va_cwS 3 hts (gwS qw_444 qw_445 qw_386 qw_443) rfl rfl rfl (by decide +kernel) ⟨Nat.le_of_ble_eq_true rfl, Nat.le_of_ble_eq_true rfl⟩) ⟨fun a U g9 mk q => ⟨q.1, q.2.1, va_K.moved (u := U) (U := U.calling g9 mk a) (Vm.Alike.refl U.vm) q.2.2.1, Ev.bl q.2.2.2⟩, fun U hU hW => ⟨rfl, atB hU hPc, va_K.moved hW.alike hKc, hE.go hS (fun _ h => h.elim) hU hW⟩⟩ rfl rfl hl.1 rfl (lv_room (Nat.le_of_ble_eq_true rfl)) dX9_plus_25 ⟨Nat.le_of_ble_eq_true rfl, Nat.le_of_ble_eq_true rfl⟩)).run (fun r3 h_r3 => ?_)
    have h_r3 : (r3 = 0 ∨ r3 = 1) ∧ ((r3.toInt = 1 ∧ (-600) ≤ a2.toInt ∧ a2.toInt ≤ 600) ∨ (r3.toInt = 0 ∧ ¬ ((-600) ≤ a2.toInt ∧ a2.toInt ≤ 600))) := h_r3
    have b_r3 := z01 h_r3.1
    refine lv_if_eq (tgt := 40) hx hb dX9_plus_28 (by decide) (fun c28_4 => ?_) (fun c28_4 => ?_)
    · have c28_4 : r3.toInt = 0 := (cv_eq rfl (by decide)).mp c28_4
      refine lv_iconst (v := (-1)) hx hb dX9_plus_40 (by decide) ?_
      have qcm1 : ((-1) : Int32).toInt = (-1) := by decide
      have qc0 : (0 : Int32).toInt = 0 := by decide
      refine W.widen (k := 0) (n := 0) (Nat.le_of_ble_eq_true rfl) (Nat.le_of_ble_eq_true rfl) ?_
      have hP9 := hP
      have hD9 := hD
      have hK9 := hK
      have hf9_0 : (((-1) : Int32) = pV a1 a2) := (pV_no (by omega)).symm
      exact W.iret (v := (-1)) hx hb hr (fun t ht hW => ⟨⟨(-1), (-1), rfl, rfl, 0, a0_1, a0_2, a0_3, hf9_0, atB ht hP9, va_K.moved hW.alike hK9, hD9⟩, hS.F ht⟩) hS.2.2 dX9_plus_41
    · have c28_4 : ¬ (r3.toInt = 0) := mt (cv_eq rfl (by decide)).mpr c28_4
      refine lv_aload_n hx hb dX9_plus_31 rfl (lv_at hl 0 rfl) ?_
      refine lv_iload_n hx hb dX9_plus_32 rfl (lv_at hl 1 rfl) ?_
      refine lv_iload_n hx hb dX9_plus_33 rfl (lv_at hl 2 rfl) ?_
      have qc0 : (0 : Int32).toInt = 0 := by decide
      have hPc := hP
      have hKc := hK
      have hDc := hD
      have hFc := freeW hDc hS hA
      refine va_calli (va_runV (As := [.int a1, .int a2]) (rest := []) ⟨hx, hb, hml, hown, hts⟩ (kv_X9_plusYears l dC dI g H.size (a0) (a1) (a2) (0) (a0_1) (a0_2) (a0_3) (a0_4) (a0_5) (a0_6) (a0_7) (a0_8) (a0_9) (a0_10) (a0_11) (a0_12) (a0_13) (a0_14) (a0_15) (a0_16) (a0_17) (a0_18) (a0_19) (a0_20) (a0_21) (a0_22) (a0_23) (a0_24) (a0_25) (a0_26) (a0_27) (a0_28) (a0_29) (a0_30) (a0_31) (a0_32) (a0_33) (a0_34) (a0_35) (a0_36) (a0_37) (a0_38) (a0_39) (a0_40) (a0_41) (a0_42) (a0_43) (by omega) (by omega) (by omega) (by omega) (by omega) (by omega) (by omega) (by omega) (by omega)) (cwV 2 hts (gwV qw_453 qw_454 qw_455 qw_386 qw_452) rfl rfl rfl (by decide +kernel) ⟨Nat.le_of_ble_eq_true rfl, Nat.le_of_ble_eq_true rfl⟩) ⟨fun a U g9 mk q => ⟨q.1, q.2.1, q.2.2.1, va_K.moved (u := U) (U := U.calling g9 mk a) (Vm.Alike.refl U.vm) q.2.2.2.1, q.2.2.2.2.1, Ev.bl q.2.2.2.2.2⟩, va_recv hK hP (ci := 8) (q0 := 0) rfl rgL1_f9e15c6, fun U hU hW => ⟨rfl, by rw [hU], atB hU hPc, va_K.moved hW.alike hKc, hDc.weaken (fun _ _ _ _ => trivial), hE.go hS hFc hU hW⟩⟩ rfl rfl hl.1 rfl (lv_room (Nat.le_of_ble_eq_true rfl)) dX9_plus_34 ⟨Nat.le_of_ble_eq_true rfl, Nat.le_of_ble_eq_true rfl⟩) hS (fun q _ h => hFc q h) hFc (fun r6 u5 t H1 locs ht hvm h_u5 hB hz1 hk1 hS => ?_)
      obtain ⟨za0_1_7, za0_2_8, za0_3_9, hF10, hP1, hK1, hD1⟩ := hB
      have hK1 := va_K.moved hvm.symm hK1
      have hJ9 := rgJ1_5dd387d hP hD hk1 hFc (atH ht hP1) hD1
      clear hP hD hPc hKc hDc hFc hP1 hD1 hk1 hz1
      obtain ⟨hP, hD⟩ := hJ9
      clear hK1
      generalize H1 = H at hP hS ⊢
      refine W.widen (k := 0) (n := 0) (Nat.le_of_ble_eq_true rfl) (Nat.le_of_ble_eq_true rfl) ?_
      have h_r6 := congrArg Int32.toInt h_u5
      have b_r6 := i32b r6
      have hq9_r6 : r6 = pW a1 a2 := h_u5.symm.trans hF10
      refine lv_goto (tgt := 41) hx hb dX9_plus_37 (by decide) ?_
      have qc0 : (0 : Int32).toInt = 0 := by decide
      refine W.widen (k := 0) (n := 0) (Nat.le_of_ble_eq_true rfl) (Nat.le_of_ble_eq_true rfl) ?_
      have hP9 := hP
      have hD9 := hD
      have hK9 := hK
      have hf9_0 : (r6 = pV a1 a2) := hq9_r6.trans (pV_ok (by omega)).symm
      exact W.iret (v := r6) hx hb hr (fun t ht hW => ⟨⟨r6, r6, rfl, rfl, 0, za0_1_7, za0_2_8, za0_3_9, hf9_0, atB ht hP9, va_K.moved hW.alike hK9, hD9⟩, hS.F ht⟩) hS.2.2 dX9_plus_41
