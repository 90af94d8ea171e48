theorem di_a {y mo : Nat} (h : mo = 2) (q : lpB y = true) : (29 : Int32) = nI (mlN y mo) := by unfold mlN; rw [if_pos h, if_pos q]; rfl
theorem di_b {y mo : Nat} (h : mo = 2) (q : lpB y = false) : (28 : Int32) = nI (mlN y mo) := by unfold mlN; rw [if_pos h, if_neg (by rw [q]; decide)]; rfl
theorem di_c {y mo : Nat} (h : mo = 4 ∨ mo = 6 ∨ mo = 9 ∨ mo = 11) : (30 : Int32) = nI (mlN y mo) := by unfold mlN; rw [if_neg (by omega), if_pos h]; rfl
theorem di_d {y mo : Nat} (h2 : mo ≠ 2) (h : ¬ (mo = 4 ∨ mo = 6 ∨ mo = 9 ∨ mo = 11)) : (31 : Int32) = nI (mlN y mo) := by unfold mlN; rw [if_neg h2, if_neg h]; rfl
theorem yl_1 {y : Nat} (q : lpB y = true) : yl y = 366 := by unfold yl; rw [if_pos q]
theorem yl_0 {y : Nat} (q : lpB y = false) : yl y = 365 := by unfold yl; rw [if_neg (by rw [q]; decide)]
theorem fo_1 {j : Nat} (h : j < 600) (q : lpB (1700 + j) = true) : nI (Fk j) + 366 = nI (Fk (j + 1)) := by rw [Fk_s j h, yl_1 q]; exact nI_add (Fk j) 366
theorem fo_0 {j : Nat} (h : j < 600) (q : lpB (1700 + j) = false) : nI (Fk j) + 365 = nI (Fk (j + 1)) := by rw [Fk_s j h, yl_0 q]; exact nI_add (Fk j) 365
theorem ta_s {j d w : Nat} (h : j < 600) (hw : yl (1700 + j) = w) (h2 : Fk j + w ≤ d) : nI (d - Fk j) - nI w = nI (d - Fk (j + 1)) := by
  rw [Fk_s j h, hw]; exact (pk_sub (a := d - Fk j) (b := w) (by omega)).trans (congrArg nI (by omega))
theorem ta_j {j k d w : Nat} (hk : k < 600) (hj : j ≤ k) (h1 : Fk k ≤ d) (hw : yl (1700 + j) = w) (h2 : d < Fk j + w) : k = j := by
  rcases Nat.lt_or_ge j k with q | q
  · have h5 := Fk_mono (a := j + 1) (b := k) (by omega) (by omega)
    rw [Fk_s j (by omega), hw] at h5
    omega
  · omega
theorem ta_n {j k d w : Nat} (hk : k < 600) (hj : j ≤ k) (h1 : d < Fk (k + 1)) (hw : yl (1700 + j) = w) (h2 : Fk j + w ≤ d) : j + 1 ≤ k := by
  rcases Nat.lt_or_ge j k with q | q
  · exact q
  · have h9 : j = k := by omega
    rw [h9] at hw h2; rw [Fk_s k hk, hw] at h1; omega
theorem w_ge {a b : Int64} {x y : Int} (ha : a.toInt = x) (hb : b.toInt = y) : 0 ≤ lg_cmp a b ↔ y ≤ x := by rw [lg_cmp_ge, ← ha, ← hb]; exact Int64.le_iff_toInt_le
theorem dX9_within_0 : decode cX9_within 0 = .ok (.lload_n 0, 1) := by decide +kernel
theorem dX9_within_1 : decode cX9_within 1 = .ok (.lload_n 2, 1) := by decide +kernel
theorem dX9_within_2 : decode cX9_within 2 = .ok (.lcmp, 1) := by decide +kernel
theorem dX9_within_3 : decode cX9_within 3 = .ok (.ifCond .lt 14, 3) := by decide +kernel
theorem dX9_within_6 : decode cX9_within 6 = .ok (.lload_n 0, 1) := by decide +kernel
theorem dX9_within_7 : decode cX9_within 7 = .ok (.lload 4, 2) := by decide +kernel
theorem dX9_within_9 : decode cX9_within 9 = .ok (.lcmp, 1) := by decide +kernel
theorem dX9_within_10 : decode cX9_within 10 = .ok (.ifCond .gt 7, 3) := by decide +kernel
theorem dX9_within_13 : decode cX9_within 13 = .ok (.iconst 1, 1) := by decide +kernel
theorem dX9_within_14 : decode cX9_within 14 = .ok (.goto 4, 3) := by decide +kernel
theorem dX9_within_17 : decode cX9_within 17 = .ok (.iconst 0, 1) := by decide +kernel
theorem dX9_within_18 : decode cX9_within 18 = .ok (.ireturn, 1) := by decide +kernel
theorem dX9_isLeap_0 : decode cX9_isLeap 0 = .ok (.iload_n 0, 1) := by decide +kernel
theorem dX9_isLeap_1 : decode cX9_isLeap 1 = .ok (.iconst 4, 1) := by decide +kernel
theorem dX9_isLeap_2 : decode cX9_isLeap 2 = .ok (.irem, 1) := by decide +kernel
theorem dX9_isLeap_3 : decode cX9_isLeap 3 = .ok (.ifCond .ne 22, 3) := by decide +kernel
theorem dX9_isLeap_6 : decode cX9_isLeap 6 = .ok (.iload_n 0, 1) := by decide +kernel
theorem dX9_isLeap_7 : decode cX9_isLeap 7 = .ok (.bipush 100, 2) := by decide +kernel
theorem dX9_isLeap_9 : decode cX9_isLeap 9 = .ok (.irem, 1) := by decide +kernel
theorem dX9_isLeap_10 : decode cX9_isLeap 10 = .ok (.ifCond .ne 11, 3) := by decide +kernel
theorem dX9_isLeap_13 : decode cX9_isLeap 13 = .ok (.iload_n 0, 1) := by decide +kernel
theorem dX9_isLeap_14 : decode cX9_isLeap 14 = .ok (.sipush 400, 3) := by decide +kernel
theorem dX9_isLeap_17 : decode cX9_isLeap 17 = .ok (.irem, 1) := by decide +kernel
theorem dX9_isLeap_18 : decode cX9_isLeap 18 = .ok (.ifCond .ne 7, 3) := by decide +kernel
theorem dX9_isLeap_21 : decode cX9_isLeap 21 = .ok (.iconst 1, 1) := by decide +kernel
theorem dX9_isLeap_22 : decode cX9_isLeap 22 = .ok (.goto 4, 3) := by decide +kernel
theorem dX9_isLeap_25 : decode cX9_isLeap 25 = .ok (.iconst 0, 1) := by decide +kernel
theorem dX9_isLeap_26 : decode cX9_isLeap 26 = .ok (.ireturn, 1) := by decide +kernel
theorem dX9_daysIn_0 : decode cX9_daysIn 0 = .ok (.iload_n 1, 1) := by decide +kernel
theorem dX9_daysIn_1 : decode cX9_daysIn 1 = .ok (.iconst 2, 1) := by decide +kernel
theorem dX9_daysIn_2 : decode cX9_daysIn 2 = .ok (.if_icmp .ne 20, 3) := by decide +kernel
theorem dX9_daysIn_5 : decode cX9_daysIn 5 = .ok (.iload_n 0, 1) := by decide +kernel
theorem dX9_daysIn_6 : decode cX9_daysIn 6 = .ok (.invokestatic 89, 3) := by decide +kernel
theorem dX9_daysIn_9 : decode cX9_daysIn 9 = .ok (.ifCond .eq 8, 3) := by decide +kernel
theorem dX9_daysIn_12 : decode cX9_daysIn 12 = .ok (.bipush 29, 2) := by decide +kernel
theorem dX9_daysIn_14 : decode cX9_daysIn 14 = .ok (.goto 38, 3) := by decide +kernel
theorem dX9_daysIn_17 : decode cX9_daysIn 17 = .ok (.bipush 28, 2) := by decide +kernel
theorem dX9_daysIn_19 : decode cX9_daysIn 19 = .ok (.goto 33, 3) := by decide +kernel
theorem dX9_daysIn_22 : decode cX9_daysIn 22 = .ok (.iload_n 1, 1) := by decide +kernel
theorem dX9_daysIn_23 : decode cX9_daysIn 23 = .ok (.iconst 4, 1) := by decide +kernel
theorem dX9_daysIn_24 : decode cX9_daysIn 24 = .ok (.if_icmp .eq 21, 3) := by decide +kernel
theorem dX9_daysIn_27 : decode cX9_daysIn 27 = .ok (.iload_n 1, 1) := by decide +kernel
theorem dX9_daysIn_28 : decode cX9_daysIn 28 = .ok (.bipush 6, 2) := by decide +kernel
theorem dX9_daysIn_30 : decode cX9_daysIn 30 = .ok (.if_icmp .eq 15, 3) := by decide +kernel
theorem dX9_daysIn_33 : decode cX9_daysIn 33 = .ok (.iload_n 1, 1) := by decide +kernel
theorem dX9_daysIn_34 : decode cX9_daysIn 34 = .ok (.bipush 9, 2) := by decide +kernel
theorem dX9_daysIn_36 : decode cX9_daysIn 36 = .ok (.if_icmp .eq 9, 3) := by decide +kernel
theorem dX9_daysIn_39 : decode cX9_daysIn 39 = .ok (.iload_n 1, 1) := by decide +kernel
theorem dX9_daysIn_40 : decode cX9_daysIn 40 = .ok (.bipush 11, 2) := by decide +kernel
theorem dX9_daysIn_42 : decode cX9_daysIn 42 = .ok (.if_icmp .ne 8, 3) := by decide +kernel
theorem dX9_daysIn_45 : decode cX9_daysIn 45 = .ok (.bipush 30, 2) := by decide +kernel
theorem dX9_daysIn_47 : decode cX9_daysIn 47 = .ok (.goto 5, 3) := by decide +kernel
theorem dX9_daysIn_50 : decode cX9_daysIn 50 = .ok (.bipush 31, 2) := by decide +kernel
theorem dX9_daysIn_52 : decode cX9_daysIn 52 = .ok (.ireturn, 1) := by decide +kernel
theorem dX9_firstOf_0 : decode cX9_firstOf 0 = .ok (.iconst 0, 1) := by decide +kernel
theorem dX9_firstOf_1 : decode cX9_firstOf 1 = .ok (.istore_n 1, 1) := by decide +kernel
theorem dX9_firstOf_2 : decode cX9_firstOf 2 = .ok (.sipush 1700, 3) := by decide +kernel
theorem dX9_firstOf_5 : decode cX9_firstOf 5 = .ok (.istore_n 2, 1) := by decide +kernel
theorem dX9_firstOf_6 : decode cX9_firstOf 6 = .ok (.iload_n 2, 1) := by decide +kernel
theorem dX9_firstOf_7 : decode cX9_firstOf 7 = .ok (.iload_n 0, 1) := by decide +kernel
theorem dX9_firstOf_8 : decode cX9_firstOf 8 = .ok (.if_icmp .ge 28, 3) := by decide +kernel
theorem dX9_firstOf_11 : decode cX9_firstOf 11 = .ok (.iload_n 1, 1) := by decide +kernel
theorem dX9_firstOf_12 : decode cX9_firstOf 12 = .ok (.iload_n 2, 1) := by decide +kernel
theorem dX9_firstOf_13 : decode cX9_firstOf 13 = .ok (.invokestatic 89, 3) := by decide +kernel
theorem dX9_firstOf_16 : decode cX9_firstOf 16 = .ok (.ifCond .eq 9, 3) := by decide +kernel
theorem dX9_firstOf_19 : decode cX9_firstOf 19 = .ok (.sipush 366, 3) := by decide +kernel
theorem dX9_firstOf_22 : decode cX9_firstOf 22 = .ok (.goto 6, 3) := by decide +kernel
theorem dX9_firstOf_25 : decode cX9_firstOf 25 = .ok (.sipush 365, 3) := by decide +kernel
theorem dX9_firstOf_28 : decode cX9_firstOf 28 = .ok (.iadd, 1) := by decide +kernel
theorem dX9_firstOf_29 : decode cX9_firstOf 29 = .ok (.istore_n 1, 1) := by decide +kernel
theorem dX9_firstOf_30 : decode cX9_firstOf 30 = .ok (.iinc 2 1, 3) := by decide +kernel
theorem dX9_firstOf_33 : decode cX9_firstOf 33 = .ok (.goto (-27), 3) := by decide +kernel
theorem dX9_firstOf_36 : decode cX9_firstOf 36 = .ok (.iload_n 1, 1) := by decide +kernel
theorem dX9_firstOf_37 : decode cX9_firstOf 37 = .ok (.ireturn, 1) := by decide +kernel
theorem dX9_dayOf_0 : decode cX9_dayOf 0 = .ok (.iload_n 0, 1) := by decide +kernel
theorem dX9_dayOf_1 : decode cX9_dayOf 1 = .ok (.invokestatic 93, 3) := by decide +kernel
theorem dX9_dayOf_4 : decode cX9_dayOf 4 = .ok (.iload_n 2, 1) := by decide +kernel
theorem dX9_dayOf_5 : decode cX9_dayOf 5 = .ok (.iadd, 1) := by decide +kernel
theorem dX9_dayOf_6 : decode cX9_dayOf 6 = .ok (.iconst 1, 1) := by decide +kernel
theorem dX9_dayOf_7 : decode cX9_dayOf 7 = .ok (.isub, 1) := by decide +kernel
theorem dX9_dayOf_8 : decode cX9_dayOf 8 = .ok (.istore_n 3, 1) := by decide +kernel
theorem dX9_dayOf_9 : decode cX9_dayOf 9 = .ok (.iconst 1, 1) := by decide +kernel
theorem dX9_dayOf_10 : decode cX9_dayOf 10 = .ok (.istore 4, 2) := by decide +kernel
theorem dX9_dayOf_12 : decode cX9_dayOf 12 = .ok (.iload 4, 2) := by decide +kernel
theorem dX9_dayOf_14 : decode cX9_dayOf 14 = .ok (.iload_n 1, 1) := by decide +kernel
theorem dX9_dayOf_15 : decode cX9_dayOf 15 = .ok (.if_icmp .ge 18, 3) := by decide +kernel
theorem dX9_dayOf_18 : decode cX9_dayOf 18 = .ok (.iload_n 3, 1) := by decide +kernel
theorem dX9_dayOf_19 : decode cX9_dayOf 19 = .ok (.iload_n 0, 1) := by decide +kernel
theorem dX9_dayOf_20 : decode cX9_dayOf 20 = .ok (.iload 4, 2) := by decide +kernel
theorem dX9_dayOf_22 : decode cX9_dayOf 22 = .ok (.invokestatic 97, 3) := by decide +kernel
theorem dX9_dayOf_25 : decode cX9_dayOf 25 = .ok (.iadd, 1) := by decide +kernel
theorem dX9_dayOf_26 : decode cX9_dayOf 26 = .ok (.istore_n 3, 1) := by decide +kernel
theorem dX9_dayOf_27 : decode cX9_dayOf 27 = .ok (.iinc 4 1, 3) := by decide +kernel
theorem dX9_dayOf_30 : decode cX9_dayOf 30 = .ok (.goto (-18), 3) := by decide +kernel
theorem dX9_dayOf_33 : decode cX9_dayOf 33 = .ok (.iload_n 3, 1) := by decide +kernel
theorem dX9_dayOf_34 : decode cX9_dayOf 34 = .ok (.ireturn, 1) := by decide +kernel
theorem qw_22 : (Cond.code yX9_isLeap cX9_isLeap 1 (some .boolean) : Cond) ∈ TBL := List.mem_of_getElem? (i := 447) (by decide +kernel)
theorem qw_23 : (Cond.initialized RX9 : Cond) ∈ TBL := List.mem_of_getElem? (i := 5) (by decide +kernel)
theorem qw_24 : (Cond.methodLink RX9 89 yX9_isLeap : Cond) ∈ TBL := List.mem_of_getElem? (i := 445) (by decide +kernel)
theorem qw_25 : (Cond.static yX9_isLeap : Cond) ∈ TBL := List.mem_of_getElem? (i := 446) (by decide +kernel)
theorem qw_26 : (Cond.code yX9_firstOf cX9_firstOf 3 (some .int) : Cond) ∈ TBL := List.mem_of_getElem? (i := 453) (by decide +kernel)
theorem qw_27 : (Cond.methodLink RX9 93 yX9_firstOf : Cond) ∈ TBL := List.mem_of_getElem? (i := 451) (by decide +kernel)
theorem qw_28 : (Cond.static yX9_firstOf : Cond) ∈ TBL := List.mem_of_getElem? (i := 452) (by decide +kernel)
theorem qw_29 : (Cond.code yX9_daysIn cX9_daysIn 2 (some .int) : Cond) ∈ TBL := List.mem_of_getElem? (i := 444) (by decide +kernel)
theorem qw_30 : (Cond.methodLink RX9 97 yX9_daysIn : Cond) ∈ TBL := List.mem_of_getElem? (i := 442) (by decide +kernel)
theorem qw_31 : (Cond.static yX9_daysIn : Cond) ∈ TBL := List.mem_of_getElem? (i := 443) (by decide +kernel)
set_option maxHeartbeats 4000000 in
set_option maxRecDepth 100000 in
theorem c_wi_in (l : Launch) (dC : Nat → ClassId) (dI : Nat → Nat → Nat) (g : Gv) (v : Int64) (lo : Int64) (hi : Int64) (xv : Int) (xl : Int) (xh : Int) (hv : v.toInt = xv) (hl0 : lo.toInt = xl) (hh0 : hi.toInt = xh) (h0 : xl ≤ xv ∧ xv ≤ xh) : Met l yX9_within (.code yX9_within cX9_within 6 (some .boolean) :: TBL) ({ frames := 0, cells := 0, slots := 0, locals := 0 }) (va_Pc [.long v, .long lo, .long hi] (fun U => va_P (dC, dI) vwCl [] U.heap ∧ va_K (dC, dI) vwCl [] U ∧ Ev g (fun _ => False) U)) (vp_Si (fun r => r = 1)) 0 0 (fun _ => False) := by
  refine Met.ofW (cc := cX9_within) (maxL := 6) (ret := (some .boolean)) (by decide) rfl ?_
  intro p e s m args below meth c s₁ B hml hv
  obtain ⟨rfl, hP, hK, hE⟩ := hv
  have hx := B.exec
  have hb := B.bytes
  have hr := B.returns
  have hts0 := atoms_spec (ws := (.code yX9_within cX9_within 6 (some .boolean) :: TBL)) B.pre
  have hts := fun (w : Cond) (h : w ∈ TBL) => hts0 w (List.mem_cons_of_mem _ h)
  have hown : s.vm.findClass RX9 = some m.cls := findClass_of_methodNamed B.named
  have hlocks := B.notSynchronized
  have hN := hE.1
  have hS : va_S (fun _ => False) s.heap s.heap [] := va_S.rf
  have hP : va_P (dC, dI) vwCl [] s.heap := hP
  have hl := lv_entry ([.long v, .long lo, .long hi]) (n := 6) (Nat.le_of_ble_eq_true rfl)
  rw [lg_entry_eq]
  generalize (lg_sl ([.long v, .long lo, .long hi]) ++ List.replicate (6 - (lg_sl ([.long v, .long lo, .long hi])).length) Slot.unset).toArray = ls at hl ⊢
  have hl : lv_has ls 6 [(0, .long v), (2, .long lo), (4, .long hi)] := hl
  refine lv_lload_n hx hb dX9_within_0 rfl (lv_at hl 0 rfl) ?_
  refine lv_lload_n hx hb dX9_within_1 rfl (lv_at hl 1 rfl) ?_
  refine W.lcmp hx hb dX9_within_2 ?_
  refine lv_if_lt (tgt := 17) hx hb dX9_within_3 (by decide) (fun c3_1 => by exfalso; have c3_1 : xv < xl := (w_lt hv hl0).mp c3_1; omega) (fun c3_1 => ?_)
  have c3_1 : ¬ (xv < xl) := mt (w_lt hv hl0).mpr c3_1
  refine lv_lload_n hx hb dX9_within_6 rfl (lv_at hl 0 rfl) ?_
  refine lv_lload hx hb dX9_within_7 (lv_at hl 2 rfl) ?_
  refine W.lcmp hx hb dX9_within_9 ?_
  refine lv_if_gt (tgt := 17) hx hb dX9_within_10 (by decide) (fun c10_2 => by exfalso; have c10_2 : xh < xv := (w_gt hv hh0).mp c10_2; omega) (fun c10_2 => ?_)
  have c10_2 : ¬ (xh < xv) := mt (w_gt hv hh0).mpr c10_2
  refine lv_iconst (v := 1) hx hb dX9_within_13 (by decide) ?_
  refine lv_goto (tgt := 18) hx hb dX9_within_14 (by decide) ?_
  exact W.zret (v := 1) hx hb hr rfl (fun t ht hW => ⟨1, rfl, (rfl), ht⟩) (fun _ h => absurd h List.not_mem_nil) dX9_within_18
set_option maxHeartbeats 4000000 in
set_option maxRecDepth 100000 in
theorem c_wi_out (l : Launch) (dC : Nat → ClassId) (dI : Nat → Nat → Nat) (g : Gv) (v : Int64) (lo : Int64) (hi : Int64) (xv : Int) (xl : Int) (xh : Int) (hv : v.toInt = xv) (hl0 : lo.toInt = xl) (hh0 : hi.toInt = xh) (h0 : ¬ (xl ≤ xv ∧ xv ≤ xh)) : Met l yX9_within (.code yX9_within cX9_within 6 (some .boolean) :: TBL) ({ frames := 0, cells := 0, slots := 0, locals := 0 }) (va_Pc [.long v, .long lo, .long hi] (fun U => va_P (dC, dI) vwCl [] U.heap ∧ va_K (dC, dI) vwCl [] U ∧ Ev g (fun _ => False) U)) (vp_Si (fun r => r = 0)) 0 0 (fun _ => False) := by
  refine Met.ofW (cc := cX9_within) (maxL := 6) (ret := (some .boolean)) (by decide) rfl ?_
  intro p e s m args below meth c s₁ B hml hv
  obtain ⟨rfl, hP, hK, hE⟩ := hv
  have hx := B.exec
  have hb := B.bytes
  have hr := B.returns
  have hts0 := atoms_spec (ws := (.code yX9_within cX9_within 6 (some .boolean) :: TBL)) B.pre
  have hts := fun (w : Cond) (h : w ∈ TBL) => hts0 w (List.mem_cons_of_mem _ h)
  have hown : s.vm.findClass RX9 = some m.cls := findClass_of_methodNamed B.named
  have hlocks := B.notSynchronized
  have hN := hE.1
  have hS : va_S (fun _ => False) s.heap s.heap [] := va_S.rf
  have hP : va_P (dC, dI) vwCl [] s.heap := hP
  have hl := lv_entry ([.long v, .long lo, .long hi]) (n := 6) (Nat.le_of_ble_eq_true rfl)
  rw [lg_entry_eq]
  generalize (lg_sl ([.long v, .long lo, .long hi]) ++ List.replicate (6 - (lg_sl ([.long v, .long lo, .long hi])).length) Slot.unset).toArray = ls at hl ⊢
  have hl : lv_has ls 6 [(0, .long v), (2, .long lo), (4, .long hi)] := hl
  refine lv_lload_n hx hb dX9_within_0 rfl (lv_at hl 0 rfl) ?_
  refine lv_lload_n hx hb dX9_within_1 rfl (lv_at hl 1 rfl) ?_
  refine W.lcmp hx hb dX9_within_2 ?_
  refine lv_if_lt (tgt := 17) hx hb dX9_within_3 (by decide) (fun c3_1 => ?_) (fun c3_1 => ?_)
  · have c3_1 : xv < xl := (w_lt hv hl0).mp c3_1
    refine lv_iconst (v := 0) hx hb dX9_within_17 (by decide) ?_
    exact W.zret (v := 0) hx hb hr rfl (fun t ht hW => ⟨0, rfl, (rfl), ht⟩) (fun _ h => absurd h List.not_mem_nil) dX9_within_18
  · have c3_1 : ¬ (xv < xl) := mt (w_lt hv hl0).mpr c3_1
    refine lv_lload_n hx hb dX9_within_6 rfl (lv_at hl 0 rfl) ?_
    refine lv_lload hx hb dX9_within_7 (lv_at hl 2 rfl) ?_
    refine W.lcmp hx hb dX9_within_9 ?_
    refine lv_if_gt (tgt := 17) hx hb dX9_within_10 (by decide) (fun c10_2 => ?_) (fun c10_2 => by exfalso; have c10_2 : ¬ (xh < xv) := mt (w_gt hv hh0).mpr c10_2; omega)
    have c10_2 : xh < xv := (w_gt hv hh0).mp c10_2
    refine lv_iconst (v := 0) hx hb dX9_within_17 (by decide) ?_
    exact W.zret (v := 0) hx hb hr rfl (fun t ht hW => ⟨0, rfl, (rfl), ht⟩) (fun _ h => absurd h List.not_mem_nil) dX9_within_18
set_option maxHeartbeats 4000000 in
set_option maxRecDepth 100000 in
theorem c_lp (l : Launch) (dC : Nat → ClassId) (dI : Nat → Nat → Nat) (g : Gv) (y : Nat) (hy : y < 3000) : Met l yX9_isLeap (.code yX9_isLeap cX9_isLeap 1 (some .boolean) :: TBL) ({ frames := 0, cells := 0, slots := 0, locals := 0 }) (va_Pc [.int (nI y)] (fun U => va_P (dC, dI) vwCl [] U.heap ∧ va_K (dC, dI) vwCl [] U ∧ Ev g (fun _ => False) U)) (vp_Si (fun r => (lpB y = true ∧ r = 1) ∨ (lpB y = false ∧ r = 0))) 0 0 (fun _ => False) := by
  refine Met.ofW (cc := cX9_isLeap) (maxL := 1) (ret := (some .boolean)) (by decide) rfl ?_
  intro p e s m args below meth c s₁ B hml hv
  obtain ⟨rfl, hP, hK, hE⟩ := hv
  have hx := B.exec
  have hb := B.bytes
  have hr := B.returns
  have hts0 := atoms_spec (ws := (.code yX9_isLeap cX9_isLeap 1 (some .boolean) :: TBL)) B.pre
  have hts := fun (w : Cond) (h : w ∈ TBL) => hts0 w (List.mem_cons_of_mem _ h)
  have hown : s.vm.findClass RX9 = some m.cls := findClass_of_methodNamed B.named
  have hlocks := B.notSynchronized
  have hN := hE.1
  have hS : va_S (fun _ => False) s.heap s.heap [] := va_S.rf
  have hP : va_P (dC, dI) vwCl [] s.heap := hP
  have hl := lv_entry ([.int (nI y)]) (n := 1) (Nat.le_of_ble_eq_true rfl)
  rw [lg_entry_eq]
  generalize (lg_sl ([.int (nI y)]) ++ List.replicate (1 - (lg_sl ([.int (nI y)])).length) Slot.unset).toArray = ls at hl ⊢
  have hl : lv_has ls 1 [(0, .int (nI y))] := hl
  refine lv_iload_n hx hb dX9_isLeap_0 rfl (lv_at hl 0 rfl) ?_
  refine lv_iconst (v := 4) hx hb dX9_isLeap_1 (by decide) ?_
  refine lv_irem hx hb dX9_isLeap_2 (by decide) ?_
  refine cst (v := nI (y % 4)) (pk_rem (a := y) (d := 4) (by omega) (by omega) (by omega)) ?_
  refine lv_if_ne (tgt := 25) hx hb dX9_isLeap_3 (by decide) (fun c3_1 => ?_) (fun c3_1 => ?_)
  · have c3_1 : ¬ (((y % 4 : Nat) : Int) = 0) := mt (cv_eq (nI_toInt (by omega)) (by decide)).mpr c3_1
    refine lv_iconst (v := 0) hx hb dX9_isLeap_25 (by decide) ?_
    exact W.zret (v := 0) hx hb hr rfl (fun t ht hW => ⟨0, rfl, (by first | exact Or.inl ⟨lpB_iff.mpr (by omega), rfl⟩ | exact Or.inr ⟨by rw [Bool.eq_false_iff]; exact fun q => absurd (lpB_iff.mp q) (by omega), rfl⟩), ht⟩) (fun _ h => absurd h List.not_mem_nil) dX9_isLeap_26
  · have c3_1 : ((y % 4 : Nat) : Int) = 0 := (cv_eq (nI_toInt (by omega)) (by decide)).mp c3_1
    refine lv_iload_n hx hb dX9_isLeap_6 rfl (lv_at hl 0 rfl) ?_
    refine lv_bipush (v := 100) hx hb dX9_isLeap_7 (by decide) ?_
    refine lv_irem hx hb dX9_isLeap_9 (by decide) ?_
    refine cst (v := nI (y % 100)) (pk_rem (a := y) (d := 100) (by omega) (by omega) (by omega)) ?_
    refine lv_if_ne (tgt := 21) hx hb dX9_isLeap_10 (by decide) (fun c10_2 => ?_) (fun c10_2 => ?_)
    · have c10_2 : ¬ (((y % 100 : Nat) : Int) = 0) := mt (cv_eq (nI_toInt (by omega)) (by decide)).mpr c10_2
      refine lv_iconst (v := 1) hx hb dX9_isLeap_21 (by decide) ?_
      refine lv_goto (tgt := 26) hx hb dX9_isLeap_22 (by decide) ?_
      exact W.zret (v := 1) hx hb hr rfl (fun t ht hW => ⟨1, rfl, (by first | exact Or.inl ⟨lpB_iff.mpr (by omega), rfl⟩ | exact Or.inr ⟨by rw [Bool.eq_false_iff]; exact fun q => absurd (lpB_iff.mp q) (by omega), rfl⟩), ht⟩) (fun _ h => absurd h List.not_mem_nil) dX9_isLeap_26
    · have c10_2 : ((y % 100 : Nat) : Int) = 0 := (cv_eq (nI_toInt (by omega)) (by decide)).mp c10_2
      refine lv_iload_n hx hb dX9_isLeap_13 rfl (lv_at hl 0 rfl) ?_
      refine lv_sipush (v := 400) hx hb dX9_isLeap_14 (by decide) ?_
      refine lv_irem hx hb dX9_isLeap_17 (by decide) ?_
      refine cst (v := nI (y % 400)) (pk_rem (a := y) (d := 400) (by omega) (by omega) (by omega)) ?_
      refine lv_if_ne (tgt := 25) hx hb dX9_isLeap_18 (by decide) (fun c18_3 => ?_) (fun c18_3 => ?_)
      · have c18_3 : ¬ (((y % 400 : Nat) : Int) = 0) := mt (cv_eq (nI_toInt (by omega)) (by decide)).mpr c18_3
        refine lv_iconst (v := 0) hx hb dX9_isLeap_25 (by decide) ?_
        exact W.zret (v := 0) hx hb hr rfl (fun t ht hW => ⟨0, rfl, (by first | exact Or.inl ⟨lpB_iff.mpr (by omega), rfl⟩ | exact Or.inr ⟨by rw [Bool.eq_false_iff]; exact fun q => absurd (lpB_iff.mp q) (by omega), rfl⟩), ht⟩) (fun _ h => absurd h List.not_mem_nil) dX9_isLeap_26
      · have c18_3 : ((y % 400 : Nat) : Int) = 0 := (cv_eq (nI_toInt (by omega)) (by decide)).mp c18_3
        refine lv_iconst (v := 1) hx hb dX9_isLeap_21 (by decide) ?_
        refine lv_goto (tgt := 26) hx hb dX9_isLeap_22 (by decide) ?_
        exact W.zret (v := 1) hx hb hr rfl (fun t ht hW => ⟨1, rfl, (by first | exact Or.inl ⟨lpB_iff.mpr (by omega), rfl⟩ | exact Or.inr ⟨by rw [Bool.eq_false_iff]; exact fun q => absurd (lpB_iff.mp q) (by omega), rfl⟩), ht⟩) (fun _ h => absurd h List.not_mem_nil) dX9_isLeap_26
set_option maxHeartbeats 4000000 in
set_option maxRecDepth 100000 in
theorem c_di (l : Launch) (dC : Nat → ClassId) (dI : Nat → Nat → Nat) (g : Gv) (y : Nat) (mo : Nat) (hy : y < 3000) (hm1 : 1 ≤ mo) (hm2 : mo ≤ 12) : Met l yX9_daysIn (.code yX9_daysIn cX9_daysIn 2 (some .int) :: TBL) ({ frames := 1, cells := 0, slots := 0, locals := 40 }) (va_Pc [.int (nI y), .int (nI mo)] (fun U => va_P (dC, dI) vwCl [] U.heap ∧ va_K (dC, dI) vwCl [] U ∧ Ev g (fun _ => False) U)) (vp_Si (fun r => r = nI (mlN y mo))) 0 0 (fun _ => False) := by
  refine Met.ofW (cc := cX9_daysIn) (maxL := 2) (ret := (some .int)) (by decide) rfl ?_
  intro p e s m args below meth c s₁ B hml hv
  obtain ⟨rfl, hP, hK, hE⟩ := hv
  have hx := B.exec
  have hb := B.bytes
  have hr := B.returns
  have hts0 := atoms_spec (ws := (.code yX9_daysIn cX9_daysIn 2 (some .int) :: TBL)) B.pre
  have hts := fun (w : Cond) (h : w ∈ TBL) => hts0 w (List.mem_cons_of_mem _ h)
  have hown : s.vm.findClass RX9 = some m.cls := findClass_of_methodNamed B.named
  have hlocks := B.notSynchronized
  have hN := hE.1
  have hS : va_S (fun _ => False) s.heap s.heap [] := va_S.rf
  have hP : va_P (dC, dI) vwCl [] s.heap := hP
  have hl := lv_entry ([.int (nI y), .int (nI mo)]) (n := 2) (Nat.le_of_ble_eq_true rfl)
  rw [lg_entry_eq]
  generalize (lg_sl ([.int (nI y), .int (nI mo)]) ++ List.replicate (2 - (lg_sl ([.int (nI y), .int (nI mo)])).length) Slot.unset).toArray = ls at hl ⊢
  have hl : lv_has ls 2 [(0, .int (nI y)), (1, .int (nI mo))] := hl
  refine lv_iload_n hx hb dX9_daysIn_0 rfl (lv_at hl 1 rfl) ?_
  refine lv_iconst (v := 2) hx hb dX9_daysIn_1 (by decide) ?_
  refine lv_icmp_ne (tgt := 22) hx hb dX9_daysIn_2 (by decide) (fun c2_1 => ?_) (fun c2_1 => ?_)
  · have c2_1 : ¬ (((mo : Nat) : Int) = 2) := mt (cv_eq (nI_toInt (by omega)) (by decide)).mpr c2_1
    refine lv_iload_n hx hb dX9_daysIn_22 rfl (lv_at hl 1 rfl) ?_
    refine lv_iconst (v := 4) hx hb dX9_daysIn_23 (by decide) ?_
    refine lv_icmp_eq (tgt := 45) hx hb dX9_daysIn_24 (by decide) (fun c24_2 => ?_) (fun c24_2 => ?_)
    · have c24_2 : ((mo : Nat) : Int) = 4 := (cv_eq (nI_toInt (by omega)) (by decide)).mp c24_2
      refine lv_bipush (v := 30) hx hb dX9_daysIn_45 (by decide) ?_
      refine lv_goto (tgt := 52) hx hb dX9_daysIn_47 (by decide) ?_
      exact W.iret (v := 30) hx hb hr (fun t ht hW => ⟨30, rfl, (by first | exact di_c (by omega) | exact di_d (by omega) (by omega)), ht⟩) (fun _ h => absurd h List.not_mem_nil) dX9_daysIn_52
    · have c24_2 : ¬ (((mo : Nat) : Int) = 4) := mt (cv_eq (nI_toInt (by omega)) (by decide)).mpr c24_2
      refine lv_iload_n hx hb dX9_daysIn_27 rfl (lv_at hl 1 rfl) ?_
      refine lv_bipush (v := 6) hx hb dX9_daysIn_28 (by decide) ?_
      refine lv_icmp_eq (tgt := 45) hx hb dX9_daysIn_30 (by decide) (fun c30_3 => ?_) (fun c30_3 => ?_)
      · have c30_3 : ((mo : Nat) : Int) = 6 := (cv_eq (nI_toInt (by omega)) (by decide)).mp c30_3
        refine lv_bipush (v := 30) hx hb dX9_daysIn_45 (by decide) ?_
        refine lv_goto (tgt := 52) hx hb dX9_daysIn_47 (by decide) ?_
        exact W.iret (v := 30) hx hb hr (fun t ht hW => ⟨30, rfl, (by first | exact di_c (by omega) | exact di_d (by omega) (by omega)), ht⟩) (fun _ h => absurd h List.not_mem_nil) dX9_daysIn_52
      · have c30_3 : ¬ (((mo : Nat) : Int) = 6) := mt (cv_eq (nI_toInt (by omega)) (by decide)).mpr c30_3
        refine lv_iload_n hx hb dX9_daysIn_33 rfl (lv_at hl 1 rfl) ?_
        refine lv_bipush (v := 9) hx hb dX9_daysIn_34 (by decide) ?_
        refine lv_icmp_eq (tgt := 45) hx hb dX9_daysIn_36 (by decide) (fun c36_4 => ?_) (fun c36_4 => ?_)
        · have c36_4 : ((mo : Nat) : Int) = 9 := (cv_eq (nI_toInt (by omega)) (by decide)).mp c36_4
          refine lv_bipush (v := 30) hx hb dX9_daysIn_45 (by decide) ?_
          refine lv_goto (tgt := 52) hx hb dX9_daysIn_47 (by decide) ?_
          exact W.iret (v := 30) hx hb hr (fun t ht hW => ⟨30, rfl, (by first | exact di_c (by omega) | exact di_d (by omega) (by omega)), ht⟩) (fun _ h => absurd h List.not_mem_nil) dX9_daysIn_52
        · have c36_4 : ¬ (((mo : Nat) : Int) = 9) := mt (cv_eq (nI_toInt (by omega)) (by decide)).mpr c36_4
          refine lv_iload_n hx hb dX9_daysIn_39 rfl (lv_at hl 1 rfl) ?_
          refine lv_bipush (v := 11) hx hb dX9_daysIn_40 (by decide) ?_
          refine lv_icmp_ne (tgt := 50) hx hb dX9_daysIn_42 (by decide) (fun c42_5 => ?_) (fun c42_5 => ?_)
          · have c42_5 : ¬ (((mo : Nat) : Int) = 11) := mt (cv_eq (nI_toInt (by omega)) (by decide)).mpr c42_5
            refine lv_bipush (v := 31) hx hb dX9_daysIn_50 (by decide) ?_
            exact W.iret (v := 31) hx hb hr (fun t ht hW => ⟨31, rfl, (by first | exact di_c (by omega) | exact di_d (by omega) (by omega)), ht⟩) (fun _ h => absurd h List.not_mem_nil) dX9_daysIn_52
          · have c42_5 : ((mo : Nat) : Int) = 11 := (cv_eq (nI_toInt (by omega)) (by decide)).mp c42_5
            refine lv_bipush (v := 30) hx hb dX9_daysIn_45 (by decide) ?_
            refine lv_goto (tgt := 52) hx hb dX9_daysIn_47 (by decide) ?_
            exact W.iret (v := 30) hx hb hr (fun t ht hW => ⟨30, rfl, (by first | exact di_c (by omega) | exact di_d (by omega) (by omega)), ht⟩) (fun _ h => absurd h List.not_mem_nil) dX9_daysIn_52
  · have c2_1 : ((mo : Nat) : Int) = 2 := (cv_eq (nI_toInt (by omega)) (by decide)).mp c2_1
    refine lv_iload_n hx hb dX9_daysIn_5 rfl (lv_at hl 0 rfl) ?_
    have hPc := hP.sub (ws' := []) [] rfl
    have hKc := hK.sub (tys' := []) [] rfl
    refine vp_callSi ((va_runS (As := [.int (nI y)]) (rest := []) ⟨hx, hb, hml, hown, hts⟩ (c_lp l dC dI g (y) (by omega)) (va_cwS 1 hts (gwS qw_24 qw_25 qw_23 qw_22) rfl rfl rfl (by decide +kernel) ⟨Nat.le_of_ble_eq_true rfl, Nat.le_of_ble_eq_true rfl⟩) ⟨fun a U g9 mk q => ⟨q.1, q.2.1, va_K.moved (u := U) (U := U.calling g9 mk a) (Vm.Alike.refl U.vm) q.2.2.1, Ev.bl q.2.2.2⟩, fun U hU hW => ⟨rfl, by rw [hU]; exact hPc, va_K.moved hW.alike hKc, hE.go hS (fun _ h => h.elim) hU hW⟩⟩ rfl rfl hl.1 rfl (lv_room (Nat.le_of_ble_eq_true rfl)) dX9_daysIn_6 ⟨Nat.le_of_ble_eq_true rfl, Nat.le_of_ble_eq_true rfl⟩)).run (fun r6 h_r6 => ?_)
    rcases h_r6 with ⟨hq7, rfl⟩ | ⟨hq7, rfl⟩
    · refine lv_if_eq (tgt := 17) hx hb dX9_daysIn_9 (by decide) (fun c9_8 => by exfalso; exact absurd c9_8 (by decide)) (fun c9_8 => ?_)
      refine lv_bipush (v := 29) hx hb dX9_daysIn_12 (by decide) ?_
      refine lv_goto (tgt := 52) hx hb dX9_daysIn_14 (by decide) ?_
      exact W.iret (v := 29) hx hb hr (fun t ht hW => ⟨29, rfl, (di_a (by omega) hq7), ht⟩) (fun _ h => absurd h List.not_mem_nil) dX9_daysIn_52
    · refine lv_if_eq (tgt := 17) hx hb dX9_daysIn_9 (by decide) (fun c9_9 => ?_) (fun c9_9 => by exfalso; exact absurd c9_9 (by decide))
      refine lv_bipush (v := 28) hx hb dX9_daysIn_17 (by decide) ?_
      refine lv_goto (tgt := 52) hx hb dX9_daysIn_19 (by decide) ?_
      exact W.iret (v := 28) hx hb hr (fun t ht hW => ⟨28, rfl, (di_b (by omega) hq7), ht⟩) (fun _ h => absurd h List.not_mem_nil) dX9_daysIn_52
set_option maxHeartbeats 4000000 in
set_option maxRecDepth 100000 in
theorem c_fo (l : Launch) (dC : Nat → ClassId) (dI : Nat → Nat → Nat) (g : Gv) (k : Nat) (hk : k < 600) : Met l yX9_firstOf (.code yX9_firstOf cX9_firstOf 3 (some .int) :: TBL) ({ frames := 1, cells := 0, slots := 0, locals := 40 }) (va_Pc [.int (nI (1700 + k))] (fun U => va_P (dC, dI) vwCl [] U.heap ∧ va_K (dC, dI) vwCl [] U ∧ Ev g (fun _ => False) U)) (vp_Si (fun r => r = nI (Fk k))) 0 0 (fun _ => False) := by
  refine Met.ofW (cc := cX9_firstOf) (maxL := 3) (ret := (some .int)) (by decide) rfl ?_
  intro p e s m args below meth c s₁ B hml hv
  obtain ⟨rfl, hP, hK, hE⟩ := hv
  have hx := B.exec
  have hb := B.bytes
  have hr := B.returns
  have hts0 := atoms_spec (ws := (.code yX9_firstOf cX9_firstOf 3 (some .int) :: TBL)) B.pre
  have hts := fun (w : Cond) (h : w ∈ TBL) => hts0 w (List.mem_cons_of_mem _ h)
  have hown : s.vm.findClass RX9 = some m.cls := findClass_of_methodNamed B.named
  have hlocks := B.notSynchronized
  have hN := hE.1
  have hS : va_S (fun _ => False) s.heap s.heap [] := va_S.rf
  have hP : va_P (dC, dI) vwCl [] s.heap := hP
  have hl := lv_entry ([.int (nI (1700 + k))]) (n := 3) (Nat.le_of_ble_eq_true rfl)
  rw [lg_entry_eq]
  generalize (lg_sl ([.int (nI (1700 + k))]) ++ List.replicate (3 - (lg_sl ([.int (nI (1700 + k))])).length) Slot.unset).toArray = ls at hl ⊢
  have hl : lv_has ls 3 [(0, .int (nI (1700 + k)))] := hl
  refine lv_iconst (v := 0) hx hb dX9_firstOf_0 (by decide) ?_
  refine lv_istore_n (lv' := [(1, .int 0), (0, .int (nI (1700 + k)))]) hx hb dX9_firstOf_1 rfl hl (by decide) rfl (fun ls hl => ?_)
  refine lv_sipush (v := 1700) hx hb dX9_firstOf_2 (by decide) ?_
  refine lv_istore_n (lv' := [(2, .int 1700), (1, .int 0), (0, .int (nI (1700 + k)))]) hx hb dX9_firstOf_5 rfl hl (by decide) rfl (fun ls hl => ?_)
  refine wloop (fun n H locs ls => ∃ (j : Nat), n = k - j ∧ (j ≤ k) ∧ lv_has ls 3 [(0, .int (nI (1700 + k))), (1, .int (nI (Fk j))), (2, .int (nI (1700 + j)))] ∧ H = s.heap ∧ locs = []) ?_ (k - (0)) _ _ _ ⟨0, rfl, (by omega), lv_sub hl [2, 1, 0] rfl, rfl, rfl⟩
  intro n H locs ls hI ih
  obtain ⟨j, hn9, j2, hl, rfl, rfl⟩ := hI
  refine lv_iload_n hx hb dX9_firstOf_6 rfl (lv_at hl 2 rfl) ?_
  refine lv_iload_n hx hb dX9_firstOf_7 rfl (lv_at hl 0 rfl) ?_
  refine lv_icmp_ge (tgt := 36) hx hb dX9_firstOf_8 (by decide) (fun c8_1 => ?_) (fun c8_1 => ?_)
  · have c8_1 : ((1700 + k : Nat) : Int) ≤ ((1700 + j : Nat) : Int) := (cv_le (nI_toInt (by omega)) (nI_toInt (by omega))).mp c8_1
    refine lv_iload_n hx hb dX9_firstOf_36 rfl (lv_at hl 1 rfl) ?_
    exact W.iret (v := (nI (Fk j))) hx hb hr (fun t ht hW => ⟨(nI (Fk j)), rfl, (by rw [show j = k by omega]), ht⟩) (fun _ h => absurd h List.not_mem_nil) dX9_firstOf_37
  · have c8_1 : ¬ (((1700 + k : Nat) : Int) ≤ ((1700 + j : Nat) : Int)) := mt (cv_le (nI_toInt (by omega)) (nI_toInt (by omega))).mpr c8_1
    refine lv_iload_n hx hb dX9_firstOf_11 rfl (lv_at hl 1 rfl) ?_
    refine lv_iload_n hx hb dX9_firstOf_12 rfl (lv_at hl 2 rfl) ?_
    have hPc := hP.sub (ws' := []) [] rfl
    have hKc := hK.sub (tys' := []) [] rfl
    refine vp_callSi ((va_runS (As := [.int (nI (1700 + j))]) (rest := [.int (nI (Fk j))]) ⟨hx, hb, hml, hown, hts⟩ (c_lp l dC dI g (1700 + j) (by omega)) (va_cwS 1 hts (gwS qw_24 qw_25 qw_23 qw_22) rfl rfl rfl (by decide +kernel) ⟨Nat.le_of_ble_eq_true rfl, Nat.le_of_ble_eq_true rfl⟩) ⟨fun a U g9 mk q => ⟨q.1, q.2.1, va_K.moved (u := U) (U := U.calling g9 mk a) (Vm.Alike.refl U.vm) q.2.2.1, Ev.bl q.2.2.2⟩, fun U hU hW => ⟨rfl, by rw [hU]; exact hPc, va_K.moved hW.alike hKc, hE.go hS (fun _ h => h.elim) hU hW⟩⟩ rfl rfl hl.1 rfl (lv_room (Nat.le_of_ble_eq_true rfl)) dX9_firstOf_13 ⟨Nat.le_of_ble_eq_true rfl, Nat.le_of_ble_eq_true rfl⟩)).run (fun r2 h_r2 => ?_)
    rcases h_r2 with ⟨hq3, rfl⟩ | ⟨hq3, rfl⟩
    · refine lv_if_eq (tgt := 25) hx hb dX9_firstOf_16 (by decide) (fun c16_4 => by exfalso; exact absurd c16_4 (by decide)) (fun c16_4 => ?_)
      refine lv_sipush (v := 366) hx hb dX9_firstOf_19 (by decide) ?_
      refine lv_goto (tgt := 28) hx hb dX9_firstOf_22 (by decide) ?_
      refine lv_iadd hx hb dX9_firstOf_28 ?_
      refine cst (v := nI (Fk (j + 1))) (fo_1 (by omega) hq3) ?_
      refine lv_istore_n (lv' := [(1, .int (nI (Fk (j + 1)))), (0, .int (nI (1700 + k))), (2, .int (nI (1700 + j)))]) hx hb dX9_firstOf_29 rfl hl (by decide) rfl (fun ls hl => ?_)
      refine lv_iinc (v := (nI (1700 + j + 1))) (lv' := [(2, .int (nI (1700 + j + 1))), (1, .int (nI (Fk (j + 1)))), (0, .int (nI (1700 + k)))]) hx hb dX9_firstOf_30 hl (k := 2) rfl (nI_add (1700 + j) 1) (by decide) rfl (fun ls hl => ?_)
      refine lv_goto (tgt := 6) hx hb dX9_firstOf_33 (by decide) ?_
      exact ih (k - (j + 1)) _ _ _ (by omega) ⟨j + 1, rfl, (by omega), lv_sub hl [2, 1, 0] rfl, rfl, rfl⟩
    · refine lv_if_eq (tgt := 25) hx hb dX9_firstOf_16 (by decide) (fun c16_5 => ?_) (fun c16_5 => by exfalso; exact absurd c16_5 (by decide))
      refine lv_sipush (v := 365) hx hb dX9_firstOf_25 (by decide) ?_
      refine lv_iadd hx hb dX9_firstOf_28 ?_
      refine cst (v := nI (Fk (j + 1))) (fo_0 (by omega) hq3) ?_
      refine lv_istore_n (lv' := [(1, .int (nI (Fk (j + 1)))), (0, .int (nI (1700 + k))), (2, .int (nI (1700 + j)))]) hx hb dX9_firstOf_29 rfl hl (by decide) rfl (fun ls hl => ?_)
      refine lv_iinc (v := (nI (1700 + j + 1))) (lv' := [(2, .int (nI (1700 + j + 1))), (1, .int (nI (Fk (j + 1)))), (0, .int (nI (1700 + k)))]) hx hb dX9_firstOf_30 hl (k := 2) rfl (nI_add (1700 + j) 1) (by decide) rfl (fun ls hl => ?_)
      refine lv_goto (tgt := 6) hx hb dX9_firstOf_33 (by decide) ?_
      exact ih (k - (j + 1)) _ _ _ (by omega) ⟨j + 1, rfl, (by omega), lv_sub hl [2, 1, 0] rfl, rfl, rfl⟩
set_option maxHeartbeats 4000000 in
set_option maxRecDepth 100000 in
theorem c_do (l : Launch) (dC : Nat → ClassId) (dI : Nat → Nat → Nat) (g : Gv) (k : Nat) (mo : Nat) (d : Nat) (hk : k < 600) (hm1 : 1 ≤ mo) (hm2 : mo ≤ 12) (hd1 : 1 ≤ d) (hd2 : d ≤ 31) : Met l yX9_dayOf (.code yX9_dayOf cX9_dayOf 5 (some .int) :: TBL) ({ frames := 2, cells := 0, slots := 0, locals := 80 }) (va_Pc [.int (nI (1700 + k)), .int (nI mo), .int (nI d)] (fun U => va_P (dC, dI) vwCl [] U.heap ∧ va_K (dC, dI) vwCl [] U ∧ Ev g (fun _ => False) U)) (vp_Si (fun r => r = nI (Fk k + Mk (1700 + k) mo + d - 1))) 0 0 (fun _ => False) := by
  refine Met.ofW (cc := cX9_dayOf) (maxL := 5) (ret := (some .int)) (by decide) rfl ?_
  intro p e s m args below meth c s₁ B hml hv
  obtain ⟨rfl, hP, hK, hE⟩ := hv
  have hx := B.exec
  have hb := B.bytes
  have hr := B.returns
  have hts0 := atoms_spec (ws := (.code yX9_dayOf cX9_dayOf 5 (some .int) :: TBL)) B.pre
  have hts := fun (w : Cond) (h : w ∈ TBL) => hts0 w (List.mem_cons_of_mem _ h)
  have hown : s.vm.findClass RX9 = some m.cls := findClass_of_methodNamed B.named
  have hlocks := B.notSynchronized
  have hN := hE.1
  have hS : va_S (fun _ => False) s.heap s.heap [] := va_S.rf
  have hP : va_P (dC, dI) vwCl [] s.heap := hP
  have hl := lv_entry ([.int (nI (1700 + k)), .int (nI mo), .int (nI d)]) (n := 5) (Nat.le_of_ble_eq_true rfl)
  rw [lg_entry_eq]
  generalize (lg_sl ([.int (nI (1700 + k)), .int (nI mo), .int (nI d)]) ++ List.replicate (5 - (lg_sl ([.int (nI (1700 + k)), .int (nI mo), .int (nI d)])).length) Slot.unset).toArray = ls at hl ⊢
  have hl : lv_has ls 5 [(0, .int (nI (1700 + k))), (1, .int (nI mo)), (2, .int (nI d))] := hl
  have hb2 := Fk_b (k := k) (by omega)
  refine lv_iload_n hx hb dX9_dayOf_0 rfl (lv_at hl 0 rfl) ?_
  have hPc := hP.sub (ws' := []) [] rfl
  have hKc := hK.sub (tys' := []) [] rfl
  refine vp_callSi ((va_runS (As := [.int (nI (1700 + k))]) (rest := []) ⟨hx, hb, hml, hown, hts⟩ (c_fo l dC dI g (k) hk) (va_cwS 1 hts (gwS qw_27 qw_28 qw_23 qw_26) rfl rfl rfl (by decide +kernel) ⟨Nat.le_of_ble_eq_true rfl, Nat.le_of_ble_eq_true rfl⟩) ⟨fun a U g9 mk q => ⟨q.1, q.2.1, va_K.moved (u := U) (U := U.calling g9 mk a) (Vm.Alike.refl U.vm) q.2.2.1, Ev.bl q.2.2.2⟩, fun U hU hW => ⟨rfl, by rw [hU]; exact hPc, va_K.moved hW.alike hKc, hE.go hS (fun _ h => h.elim) hU hW⟩⟩ rfl rfl hl.1 rfl (lv_room (Nat.le_of_ble_eq_true rfl)) dX9_dayOf_1 ⟨Nat.le_of_ble_eq_true rfl, Nat.le_of_ble_eq_true rfl⟩)).run (fun r1 h_r1 => ?_)
  have h_r1 : r1 = nI (Fk k) := h_r1
  subst h_r1
  refine lv_iload_n hx hb dX9_dayOf_4 rfl (lv_at hl 2 rfl) ?_
  refine lv_iadd hx hb dX9_dayOf_5 ?_
  refine cst (v := nI ((Fk k) + d)) (nI_add (Fk k) d) ?_
  refine lv_iconst (v := 1) hx hb dX9_dayOf_6 (by decide) ?_
  refine lv_isub hx hb dX9_dayOf_7 ?_
  refine cst (v := nI (Fk k + d - 1)) (pk_sub (a := Fk k + d) (b := 1) (by omega)) ?_
  refine lv_istore_n (lv' := [(3, .int (nI (Fk k + d - 1))), (0, .int (nI (1700 + k))), (1, .int (nI mo)), (2, .int (nI d))]) hx hb dX9_dayOf_8 rfl hl (by decide) rfl (fun ls hl => ?_)
  refine lv_iconst (v := 1) hx hb dX9_dayOf_9 (by decide) ?_
  refine lv_istore (lv' := [(4, .int 1), (3, .int (nI (Fk k + d - 1))), (0, .int (nI (1700 + k))), (1, .int (nI mo)), (2, .int (nI d))]) hx hb dX9_dayOf_10 hl (by decide) rfl (fun ls hl => ?_)
  refine wloop (fun n H locs ls => ∃ (j : Nat), n = mo - j ∧ (1 ≤ j) ∧ (j ≤ mo) ∧ lv_has ls 5 [(0, .int (nI (1700 + k))), (1, .int (nI mo)), (2, .int (nI d)), (3, .int (nI (Fk k + d - 1 + Mk (1700 + k) j))), (4, .int (nI j))] ∧ H = s.heap ∧ locs = []) ?_ (mo - (1)) _ _ _ ⟨1, rfl, (by omega), (by omega), lv_sub hl [2, 3, 4, 1, 0] rfl, rfl, rfl⟩
  intro n H locs ls hI ih
  obtain ⟨j, hn9, j1, j2, hl, rfl, rfl⟩ := hI
  refine lv_iload hx hb dX9_dayOf_12 (lv_at hl 4 rfl) ?_
  refine lv_iload_n hx hb dX9_dayOf_14 rfl (lv_at hl 1 rfl) ?_
  refine lv_icmp_ge (tgt := 33) hx hb dX9_dayOf_15 (by decide) (fun c15_2 => ?_) (fun c15_2 => ?_)
  · have c15_2 : ((mo : Nat) : Int) ≤ ((j : Nat) : Int) := (cv_le (nI_toInt (by omega)) (nI_toInt (by omega))).mp c15_2
    refine lv_iload_n hx hb dX9_dayOf_33 rfl (lv_at hl 3 rfl) ?_
    exact W.iret (v := (nI (Fk k + d - 1 + Mk (1700 + k) j))) hx hb hr (fun t ht hW => ⟨(nI (Fk k + d - 1 + Mk (1700 + k) j)), rfl, (by rw [show j = mo by omega]; congr 1; omega), ht⟩) (fun _ h => absurd h List.not_mem_nil) dX9_dayOf_34
  · have c15_2 : ¬ (((mo : Nat) : Int) ≤ ((j : Nat) : Int)) := mt (cv_le (nI_toInt (by omega)) (nI_toInt (by omega))).mpr c15_2
    refine lv_iload_n hx hb dX9_dayOf_18 rfl (lv_at hl 3 rfl) ?_
    refine lv_iload_n hx hb dX9_dayOf_19 rfl (lv_at hl 0 rfl) ?_
    refine lv_iload hx hb dX9_dayOf_20 (lv_at hl 4 rfl) ?_
    have hPc := hP.sub (ws' := []) [] rfl
    have hKc := hK.sub (tys' := []) [] rfl
    refine vp_callSi ((va_runS (As := [.int (nI (1700 + k)), .int (nI j)]) (rest := [.int (nI (Fk k + d - 1 + Mk (1700 + k) j))]) ⟨hx, hb, hml, hown, hts⟩ (c_di l dC dI g (1700 + k) (j) (by omega) (by omega) (by omega)) (va_cwS 2 hts (gwS qw_30 qw_31 qw_23 qw_29) rfl rfl rfl (by decide +kernel) ⟨Nat.le_of_ble_eq_true rfl, Nat.le_of_ble_eq_true rfl⟩) ⟨fun a U g9 mk q => ⟨q.1, q.2.1, va_K.moved (u := U) (U := U.calling g9 mk a) (Vm.Alike.refl U.vm) q.2.2.1, Ev.bl q.2.2.2⟩, fun U hU hW => ⟨rfl, by rw [hU]; exact hPc, va_K.moved hW.alike hKc, hE.go hS (fun _ h => h.elim) hU hW⟩⟩ rfl rfl hl.1 rfl (lv_room (Nat.le_of_ble_eq_true rfl)) dX9_dayOf_22 ⟨Nat.le_of_ble_eq_true rfl, Nat.le_of_ble_eq_true rfl⟩)).run (fun r3 h_r3 => ?_)
    have h_r3 : r3 = nI (mlN (1700 + k) j) := h_r3
    subst h_r3
    refine lv_iadd hx hb dX9_dayOf_25 ?_
    refine cst (v := nI (Fk k + d - 1 + Mk (1700 + k) (j + 1))) (by rw [nI_add, Nat.add_assoc, ← Mk_s j1]) ?_
    refine lv_istore_n (lv' := [(3, .int (nI (Fk k + d - 1 + Mk (1700 + k) (j + 1)))), (0, .int (nI (1700 + k))), (1, .int (nI mo)), (2, .int (nI d)), (4, .int (nI j))]) hx hb dX9_dayOf_26 rfl hl (by decide) rfl (fun ls hl => ?_)
    refine lv_iinc (v := (nI (j + 1))) (lv' := [(4, .int (nI (j + 1))), (3, .int (nI (Fk k + d - 1 + Mk (1700 + k) (j + 1)))), (0, .int (nI (1700 + k))), (1, .int (nI mo)), (2, .int (nI d))]) hx hb dX9_dayOf_27 hl (k := 4) rfl (nI_add (j) 1) (by decide) rfl (fun ls hl => ?_)
    refine lv_goto (tgt := 12) hx hb dX9_dayOf_30 (by decide) ?_
    exact ih (mo - (j + 1)) _ _ _ (by omega) ⟨j + 1, rfl, (by omega), (by omega), lv_sub hl [2, 3, 4, 1, 0] rfl, rfl, rfl⟩
