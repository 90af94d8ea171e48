theorem dX9_reviews_0 : decode cX9_reviews 0 = .ok (.iconst 0, 1) := by decide +kernel
theorem dX9_reviews_1 : decode cX9_reviews 1 = .ok (.istore_n 1, 1) := by decide +kernel
theorem dX9_reviews_2 : decode cX9_reviews 2 = .ok (.iconst 0, 1) := by decide +kernel
theorem dX9_reviews_3 : decode cX9_reviews 3 = .ok (.istore_n 2, 1) := by decide +kernel
theorem dX9_reviews_4 : decode cX9_reviews 4 = .ok (.iload_n 2, 1) := by decide +kernel
theorem dX9_reviews_5 : decode cX9_reviews 5 = .ok (.aload_n 0, 1) := by decide +kernel
theorem dX9_reviews_6 : decode cX9_reviews 6 = .ok (.getfield 23, 3) := by decide +kernel
theorem dX9_reviews_9 : decode cX9_reviews 9 = .ok (.iconst 0, 1) := by decide +kernel
theorem dX9_reviews_10 : decode cX9_reviews 10 = .ok (.iaload, 1) := by decide +kernel
theorem dX9_reviews_11 : decode cX9_reviews 11 = .ok (.if_icmp .ge 21, 3) := by decide +kernel
theorem dX9_reviews_14 : decode cX9_reviews 14 = .ok (.iload_n 1, 1) := by decide +kernel
theorem dX9_reviews_15 : decode cX9_reviews 15 = .ok (.aload_n 0, 1) := by decide +kernel
theorem dX9_reviews_16 : decode cX9_reviews 16 = .ok (.getfield 70, 3) := by decide +kernel
theorem dX9_reviews_19 : decode cX9_reviews 19 = .ok (.bipush 44, 2) := by decide +kernel
theorem dX9_reviews_21 : decode cX9_reviews 21 = .ok (.iload_n 2, 1) := by decide +kernel
theorem dX9_reviews_22 : decode cX9_reviews 22 = .ok (.iadd, 1) := by decide +kernel
theorem dX9_reviews_23 : decode cX9_reviews 23 = .ok (.iaload, 1) := by decide +kernel
theorem dX9_reviews_24 : decode cX9_reviews 24 = .ok (.iadd, 1) := by decide +kernel
theorem dX9_reviews_25 : decode cX9_reviews 25 = .ok (.istore_n 1, 1) := by decide +kernel
theorem dX9_reviews_26 : decode cX9_reviews 26 = .ok (.iinc 2 1, 3) := by decide +kernel
theorem dX9_reviews_29 : decode cX9_reviews 29 = .ok (.goto (-25), 3) := by decide +kernel
theorem dX9_reviews_32 : decode cX9_reviews 32 = .ok (.iload_n 1, 1) := by decide +kernel
theorem dX9_reviews_33 : decode cX9_reviews 33 = .ok (.ireturn, 1) := by decide +kernel
theorem dX9_lifted_0 : decode cX9_lifted 0 = .ok (.iconst 0, 1) := by decide +kernel
theorem dX9_lifted_1 : decode cX9_lifted 1 = .ok (.istore_n 1, 1) := by decide +kernel
theorem dX9_lifted_2 : decode cX9_lifted 2 = .ok (.iconst 0, 1) := by decide +kernel
theorem dX9_lifted_3 : decode cX9_lifted 3 = .ok (.istore_n 2, 1) := by decide +kernel
theorem dX9_lifted_4 : decode cX9_lifted 4 = .ok (.iload_n 2, 1) := by decide +kernel
theorem dX9_lifted_5 : decode cX9_lifted 5 = .ok (.aload_n 0, 1) := by decide +kernel
theorem dX9_lifted_6 : decode cX9_lifted 6 = .ok (.getfield 23, 3) := by decide +kernel
theorem dX9_lifted_9 : decode cX9_lifted 9 = .ok (.iconst 0, 1) := by decide +kernel
theorem dX9_lifted_10 : decode cX9_lifted 10 = .ok (.iaload, 1) := by decide +kernel
theorem dX9_lifted_11 : decode cX9_lifted 11 = .ok (.if_icmp .ge 31, 3) := by decide +kernel
theorem dX9_lifted_14 : decode cX9_lifted 14 = .ok (.iload_n 1, 1) := by decide +kernel
theorem dX9_lifted_15 : decode cX9_lifted 15 = .ok (.aload_n 0, 1) := by decide +kernel
theorem dX9_lifted_16 : decode cX9_lifted 16 = .ok (.getfield 70, 3) := by decide +kernel
theorem dX9_lifted_19 : decode cX9_lifted 19 = .ok (.bipush 32, 2) := by decide +kernel
theorem dX9_lifted_21 : decode cX9_lifted 21 = .ok (.iload_n 2, 1) := by decide +kernel
theorem dX9_lifted_22 : decode cX9_lifted 22 = .ok (.iadd, 1) := by decide +kernel
theorem dX9_lifted_23 : decode cX9_lifted 23 = .ok (.iaload, 1) := by decide +kernel
theorem dX9_lifted_24 : decode cX9_lifted 24 = .ok (.ifCond .lt 9, 3) := by decide +kernel
theorem dX9_lifted_27 : decode cX9_lifted 27 = .ok (.iconst 1, 1) := by decide +kernel
theorem dX9_lifted_28 : decode cX9_lifted 28 = .ok (.iload_n 2, 1) := by decide +kernel
theorem dX9_lifted_29 : decode cX9_lifted 29 = .ok (.ishl, 1) := by decide +kernel
theorem dX9_lifted_30 : decode cX9_lifted 30 = .ok (.goto 4, 3) := by decide +kernel
theorem dX9_lifted_33 : decode cX9_lifted 33 = .ok (.iconst 0, 1) := by decide +kernel
theorem dX9_lifted_34 : decode cX9_lifted 34 = .ok (.ior, 1) := by decide +kernel
theorem dX9_lifted_35 : decode cX9_lifted 35 = .ok (.istore_n 1, 1) := by decide +kernel
theorem dX9_lifted_36 : decode cX9_lifted 36 = .ok (.iinc 2 1, 3) := by decide +kernel
theorem dX9_lifted_39 : decode cX9_lifted 39 = .ok (.goto (-35), 3) := by decide +kernel
theorem dX9_lifted_42 : decode cX9_lifted 42 = .ok (.iload_n 1, 1) := by decide +kernel
theorem dX9_lifted_43 : decode cX9_lifted 43 = .ok (.ireturn, 1) := by decide +kernel
theorem dX9_count_0 : decode cX9_count 0 = .ok (.aload_n 0, 1) := by decide +kernel
theorem dX9_count_1 : decode cX9_count 1 = .ok (.iconst 0, 1) := by decide +kernel
theorem dX9_count_2 : decode cX9_count 2 = .ok (.putfield 85, 3) := by decide +kernel
theorem dX9_count_5 : decode cX9_count 5 = .ok (.iload_n 1, 1) := by decide +kernel
theorem dX9_count_6 : decode cX9_count 6 = .ok (.tableswitch 94 0 7 #[46, 53, 60, 67, 74, 79, 84, 89], 46) := by decide +kernel
theorem dX9_count_52 : decode cX9_count 52 = .ok (.aload_n 0, 1) := by decide +kernel
theorem dX9_count_53 : decode cX9_count 53 = .ok (.getfield 20, 3) := by decide +kernel
theorem dX9_count_56 : decode cX9_count 56 = .ok (.iconst 0, 1) := by decide +kernel
theorem dX9_count_57 : decode cX9_count 57 = .ok (.iaload, 1) := by decide +kernel
theorem dX9_count_58 : decode cX9_count 58 = .ok (.ireturn, 1) := by decide +kernel
theorem dX9_count_59 : decode cX9_count 59 = .ok (.aload_n 0, 1) := by decide +kernel
theorem dX9_count_60 : decode cX9_count 60 = .ok (.getfield 13, 3) := by decide +kernel
theorem dX9_count_63 : decode cX9_count 63 = .ok (.iconst 0, 1) := by decide +kernel
theorem dX9_count_64 : decode cX9_count 64 = .ok (.iaload, 1) := by decide +kernel
theorem dX9_count_65 : decode cX9_count 65 = .ok (.ireturn, 1) := by decide +kernel
theorem dX9_count_66 : decode cX9_count 66 = .ok (.aload_n 0, 1) := by decide +kernel
theorem dX9_count_67 : decode cX9_count 67 = .ok (.getfield 17, 3) := by decide +kernel
theorem dX9_count_70 : decode cX9_count 70 = .ok (.iconst 0, 1) := by decide +kernel
theorem dX9_count_71 : decode cX9_count 71 = .ok (.iaload, 1) := by decide +kernel
theorem dX9_count_72 : decode cX9_count 72 = .ok (.ireturn, 1) := by decide +kernel
theorem dX9_count_73 : decode cX9_count 73 = .ok (.aload_n 0, 1) := by decide +kernel
theorem dX9_count_74 : decode cX9_count 74 = .ok (.getfield 23, 3) := by decide +kernel
theorem dX9_count_77 : decode cX9_count 77 = .ok (.iconst 0, 1) := by decide +kernel
theorem dX9_count_78 : decode cX9_count 78 = .ok (.iaload, 1) := by decide +kernel
theorem dX9_count_79 : decode cX9_count 79 = .ok (.ireturn, 1) := by decide +kernel
theorem dX9_count_80 : decode cX9_count 80 = .ok (.aload_n 0, 1) := by decide +kernel
theorem dX9_count_81 : decode cX9_count 81 = .ok (.invokevirtual 391, 3) := by decide +kernel
theorem dX9_count_84 : decode cX9_count 84 = .ok (.ireturn, 1) := by decide +kernel
theorem dX9_count_85 : decode cX9_count 85 = .ok (.aload_n 0, 1) := by decide +kernel
theorem dX9_count_86 : decode cX9_count 86 = .ok (.invokevirtual 394, 3) := by decide +kernel
theorem dX9_count_89 : decode cX9_count 89 = .ok (.ireturn, 1) := by decide +kernel
theorem dX9_count_90 : decode cX9_count 90 = .ok (.aload_n 0, 1) := by decide +kernel
theorem dX9_count_91 : decode cX9_count 91 = .ok (.getfield 310, 3) := by decide +kernel
theorem dX9_count_94 : decode cX9_count 94 = .ok (.ireturn, 1) := by decide +kernel
theorem dX9_count_95 : decode cX9_count 95 = .ok (.aload_n 0, 1) := by decide +kernel
theorem dX9_count_96 : decode cX9_count 96 = .ok (.getfield 142, 3) := by decide +kernel
theorem dX9_count_99 : decode cX9_count 99 = .ok (.ireturn, 1) := by decide +kernel
theorem dX9_count_100 : decode cX9_count 100 = .ok (.iconst (-1), 1) := by decide +kernel
theorem dX9_count_101 : decode cX9_count 101 = .ok (.ireturn, 1) := by decide +kernel
theorem qw_357 : (Cond.code yX9_reviews cX9_reviews 3 (some .int) : Cond) ∈ TBL := List.mem_of_getElem? (i := 974) (by decide +kernel)
theorem qw_358 : (Cond.methodLink RX9 391 yX9_reviews : Cond) ∈ TBL := List.mem_of_getElem? (i := 971) (by decide +kernel)
theorem qw_359 : (Cond.instanceMethod yX9_reviews : Cond) ∈ TBL := List.mem_of_getElem? (i := 972) (by decide +kernel)
theorem qw_360 : (Cond.selects RX9 yX9_reviews yX9_reviews : Cond) ∈ TBL := List.mem_of_getElem? (i := 973) (by decide +kernel)
theorem qw_361 : (Cond.code yX9_lifted cX9_lifted 3 (some .int) : Cond) ∈ TBL := List.mem_of_getElem? (i := 978) (by decide +kernel)
theorem qw_362 : (Cond.methodLink RX9 394 yX9_lifted : Cond) ∈ TBL := List.mem_of_getElem? (i := 975) (by decide +kernel)
theorem qw_363 : (Cond.instanceMethod yX9_lifted : Cond) ∈ TBL := List.mem_of_getElem? (i := 976) (by decide +kernel)
theorem qw_364 : (Cond.selects RX9 yX9_lifted yX9_lifted : Cond) ∈ TBL := List.mem_of_getElem? (i := 977) (by decide +kernel)
theorem qw_365 : (Cond.fieldLink RX9 142 "ClosedUntilModel" "taped" "I" : Cond) ∈ TBL := List.mem_of_getElem? (i := 206) (by decide +kernel)
set_option maxHeartbeats 4000000 in
set_option maxRecDepth 100000 in
theorem c_9rv (l : Launch) (dC : Nat → ClassId) (dI : Nat → Nat → Nat) (g : Gv) (m0 : Nat) (a : Nat → Nat) (ca : Nat → ClassId)  : Met l yX9_reviews (.code yX9_reviews cX9_reviews 3 (some .int) :: TBL) ({ frames := 1, cells := 0, slots := 0, locals := 40 }) (va_Pc [.ref m0] (fun U => va_P (dC, dI) vwCl [(m0, .inr (8, [.int 0, .int 0, .int 0, .int 0, .ref (a 4), .int 0, .int 0, .int 0, .int 0, .int 0, .int 0, .long 0, .int 0, .int 0, .int 0, .int 0, .int 0, .int 0, .ref (a 18), .ref (a 19), .ref (a 20), .ref (a 21), .ref (a 22), .ref (a 23), .ref (a 24), .ref (a 25), .ref (a 26), .ref (a 27), .ref (a 28), .ref (a 29), .ref (a 30), .ref (a 31), .ref (a 32), .ref (a 33), .ref (a 34), .ref (a 35), .long 0, .int 0, .ref (a 38), .ref (a 39), .int 0, .ref (a 41), .ref (a 42), .ref (a 43)])), ((a 21), .inl ((ca 21), 2, .inl (fun _ => 0)))] U.heap ∧ va_K (dC, dI) vwCl [((ca 21), .int)] U ∧ Ev g (fun _ => False) U)) (vp_Si (fun r => r = 0)) 0 0 (fun _ => False) := by
  refine Met.ofW (cc := cX9_reviews) (maxL := 3) (ret := (some .int)) (by decide) rfl ?_
  intro p e s m args below meth c s₁ B hml hv
  obtain ⟨rfl, hP, hK, hE⟩ := hv
  have hx := B.exec
  have hb := B.bytes
  have hr := B.returns
  have hts0 := atoms_spec (ws := (.code yX9_reviews cX9_reviews 3 (some .int) :: TBL)) B.pre
  have hts := fun (w : Cond) (h : w ∈ TBL) => hts0 w (List.mem_cons_of_mem _ h)
  have hown : s.vm.findClass RX9 = some m.cls := findClass_of_methodNamed B.named
  have hlocks := B.notSynchronized
  have hN := hE.1
  have hS : va_S (fun _ => False) s.heap s.heap [] := va_S.rf
  have hP : va_P (dC, dI) vwCl [(m0, .inr (8, [.int 0, .int 0, .int 0, .int 0, .ref (a 4), .int 0, .int 0, .int 0, .int 0, .int 0, .int 0, .long 0, .int 0, .int 0, .int 0, .int 0, .int 0, .int 0, .ref (a 18), .ref (a 19), .ref (a 20), .ref (a 21), .ref (a 22), .ref (a 23), .ref (a 24), .ref (a 25), .ref (a 26), .ref (a 27), .ref (a 28), .ref (a 29), .ref (a 30), .ref (a 31), .ref (a 32), .ref (a 33), .ref (a 34), .ref (a 35), .long 0, .int 0, .ref (a 38), .ref (a 39), .int 0, .ref (a 41), .ref (a 42), .ref (a 43)])), ((a 21), .inl ((ca 21), 2, .inl (fun _ => 0)))] s.heap := hP
  have hl := lv_entry ([.ref m0]) (n := 3) (Nat.le_of_ble_eq_true rfl)
  rw [lg_entry_eq]
  generalize (lg_sl ([.ref m0]) ++ List.replicate (3 - (lg_sl ([.ref m0])).length) Slot.unset).toArray = ls at hl ⊢
  have hl : lv_has ls 3 [(0, .ref m0)] := hl
  refine lv_iconst (v := 0) hx hb dX9_reviews_0 (by decide) ?_
  refine lv_istore_n (lv' := [(1, .int 0), (0, .ref m0)]) hx hb dX9_reviews_1 rfl hl (by decide) rfl (fun ls hl => ?_)
  refine lv_iconst (v := 0) hx hb dX9_reviews_2 (by decide) ?_
  refine lv_istore_n (lv' := [(2, .int 0), (1, .int 0), (0, .ref m0)]) hx hb dX9_reviews_3 rfl hl (by decide) rfl (fun ls hl => ?_)
  refine lv_iload_n hx hb dX9_reviews_4 rfl (lv_at hl 0 rfl) ?_
  refine lv_aload_n hx hb dX9_reviews_5 rfl (lv_at hl 2 rfl) ?_
  refine va_get (D := (dC, dI)) (ci := 8) (v := .ref (a 21)) (C := RX9) (T := TX9) (N := 44) hx hb hts inlX9 hown hK hP 0 rfl rfl 21 (by decide) (hts (.fieldLink RX9 23 "ClosedUntilModel" "closures" "[I") qw_215) (fun _ h9 => h9) rfl dX9_reviews_6 ?_
  refine lv_iconst (v := 0) hx hb dX9_reviews_9 (by decide) ?_
  refine va_iald hx hb hK hP 1 0 rfl rfl (vin0 (by decide)) dX9_reviews_10 ?_
  refine cst (v := 0) (rfl) ?_
  refine lv_icmp_ge (tgt := 32) hx hb dX9_reviews_11 (by decide) (fun c11_1 => ?_) (fun c11_1 => by exfalso; exact absurd c11_1 (by decide))
  refine lv_iload_n hx hb dX9_reviews_32 rfl (lv_at hl 1 rfl) ?_
  exact W.iret (v := 0) hx hb hr (fun t ht hW => ⟨0, rfl, (rfl), ht⟩) (fun _ h => absurd h List.not_mem_nil) dX9_reviews_33
set_option maxHeartbeats 4000000 in
set_option maxRecDepth 100000 in
theorem c_9lf (l : Launch) (dC : Nat → ClassId) (dI : Nat → Nat → Nat) (g : Gv) (m0 : Nat) (a : Nat → Nat) (ca : Nat → ClassId)  : Met l yX9_lifted (.code yX9_lifted cX9_lifted 3 (some .int) :: TBL) ({ frames := 1, cells := 0, slots := 0, locals := 40 }) (va_Pc [.ref m0] (fun U => va_P (dC, dI) vwCl [(m0, .inr (8, [.int 0, .int 0, .int 0, .int 0, .ref (a 4), .int 0, .int 0, .int 0, .int 0, .int 0, .int 0, .long 0, .int 0, .int 0, .int 0, .int 0, .int 0, .int 0, .ref (a 18), .ref (a 19), .ref (a 20), .ref (a 21), .ref (a 22), .ref (a 23), .ref (a 24), .ref (a 25), .ref (a 26), .ref (a 27), .ref (a 28), .ref (a 29), .ref (a 30), .ref (a 31), .ref (a 32), .ref (a 33), .ref (a 34), .ref (a 35), .long 0, .int 0, .ref (a 38), .ref (a 39), .int 0, .ref (a 41), .ref (a 42), .ref (a 43)])), ((a 21), .inl ((ca 21), 2, .inl (fun _ => 0)))] U.heap ∧ va_K (dC, dI) vwCl [((ca 21), .int)] U ∧ Ev g (fun _ => False) U)) (vp_Si (fun r => r = 0)) 0 0 (fun _ => False) := by
  refine Met.ofW (cc := cX9_lifted) (maxL := 3) (ret := (some .int)) (by decide) rfl ?_
  intro p e s m args below meth c s₁ B hml hv
  obtain ⟨rfl, hP, hK, hE⟩ := hv
  have hx := B.exec
  have hb := B.bytes
  have hr := B.returns
  have hts0 := atoms_spec (ws := (.code yX9_lifted cX9_lifted 3 (some .int) :: TBL)) B.pre
  have hts := fun (w : Cond) (h : w ∈ TBL) => hts0 w (List.mem_cons_of_mem _ h)
  have hown : s.vm.findClass RX9 = some m.cls := findClass_of_methodNamed B.named
  have hlocks := B.notSynchronized
  have hN := hE.1
  have hS : va_S (fun _ => False) s.heap s.heap [] := va_S.rf
  have hP : va_P (dC, dI) vwCl [(m0, .inr (8, [.int 0, .int 0, .int 0, .int 0, .ref (a 4), .int 0, .int 0, .int 0, .int 0, .int 0, .int 0, .long 0, .int 0, .int 0, .int 0, .int 0, .int 0, .int 0, .ref (a 18), .ref (a 19), .ref (a 20), .ref (a 21), .ref (a 22), .ref (a 23), .ref (a 24), .ref (a 25), .ref (a 26), .ref (a 27), .ref (a 28), .ref (a 29), .ref (a 30), .ref (a 31), .ref (a 32), .ref (a 33), .ref (a 34), .ref (a 35), .long 0, .int 0, .ref (a 38), .ref (a 39), .int 0, .ref (a 41), .ref (a 42), .ref (a 43)])), ((a 21), .inl ((ca 21), 2, .inl (fun _ => 0)))] s.heap := hP
  have hl := lv_entry ([.ref m0]) (n := 3) (Nat.le_of_ble_eq_true rfl)
  rw [lg_entry_eq]
  generalize (lg_sl ([.ref m0]) ++ List.replicate (3 - (lg_sl ([.ref m0])).length) Slot.unset).toArray = ls at hl ⊢
  have hl : lv_has ls 3 [(0, .ref m0)] := hl
  refine lv_iconst (v := 0) hx hb dX9_lifted_0 (by decide) ?_
  refine lv_istore_n (lv' := [(1, .int 0), (0, .ref m0)]) hx hb dX9_lifted_1 rfl hl (by decide) rfl (fun ls hl => ?_)
  refine lv_iconst (v := 0) hx hb dX9_lifted_2 (by decide) ?_
  refine lv_istore_n (lv' := [(2, .int 0), (1, .int 0), (0, .ref m0)]) hx hb dX9_lifted_3 rfl hl (by decide) rfl (fun ls hl => ?_)
  refine lv_iload_n hx hb dX9_lifted_4 rfl (lv_at hl 0 rfl) ?_
  refine lv_aload_n hx hb dX9_lifted_5 rfl (lv_at hl 2 rfl) ?_
  refine va_get (D := (dC, dI)) (ci := 8) (v := .ref (a 21)) (C := RX9) (T := TX9) (N := 44) hx hb hts inlX9 hown hK hP 0 rfl rfl 21 (by decide) (hts (.fieldLink RX9 23 "ClosedUntilModel" "closures" "[I") qw_215) (fun _ h9 => h9) rfl dX9_lifted_6 ?_
  refine lv_iconst (v := 0) hx hb dX9_lifted_9 (by decide) ?_
  refine va_iald hx hb hK hP 1 0 rfl rfl (vin0 (by decide)) dX9_lifted_10 ?_
  refine cst (v := 0) (rfl) ?_
  refine lv_icmp_ge (tgt := 42) hx hb dX9_lifted_11 (by decide) (fun c11_1 => ?_) (fun c11_1 => by exfalso; exact absurd c11_1 (by decide))
  refine lv_iload_n hx hb dX9_lifted_42 rfl (lv_at hl 1 rfl) ?_
  exact W.iret (v := 0) hx hb hr (fun t ht hW => ⟨0, rfl, (rfl), ht⟩) (fun _ h => absurd h List.not_mem_nil) dX9_lifted_43
set_option maxHeartbeats 4000000 in
set_option maxRecDepth 100000 in
theorem c_9count0 (l : Launch) (dC : Nat → ClassId) (dI : Nat → Nat → Nat) (g : Gv) (sz : Nat) (m0 : Nat) (a : Nat → Nat) (ca : Nat → ClassId)  : Met l yX9_count (.code yX9_count cX9_count 2 (some .int) :: TBL) ({ frames := 3, cells := 0, slots := 0, locals := 180 }) (va_Pc [.ref m0, .int 0] (fun U => U.heap.size = sz ∧ va_P (dC, dI) vwCl [(m0, .inr (8, [.int 0, .int 0, .int 0, .int 0, .ref (a 4), .int 0, .int 0, .int 0, .int 0, .int 0, .int 0, .long 0, .int 0, .int 0, .int 0, .int 0, .int 0, .int 0, .ref (a 18), .ref (a 19), .ref (a 20), .ref (a 21), .ref (a 22), .ref (a 23), .ref (a 24), .ref (a 25), .ref (a 26), .ref (a 27), .ref (a 28), .ref (a 29), .ref (a 30), .ref (a 31), .ref (a 32), .ref (a 33), .ref (a 34), .ref (a 35), .long 0, .int 0, .ref (a 38), .ref (a 39), .int 0, .ref (a 41), .ref (a 42), .ref (a 43)])), ((a 20), .inl ((ca 20), 2, .inl (fun _ => 0)))] U.heap ∧ va_K (dC, dI) vwCl [((ca 20), .int)] U ∧ va_D (fun _ => True) [(m0, .inr (8, [.int 0, .int 0, .int 0, .int 0, .ref (a 4), .int 0, .int 0, .int 0, .int 0, .int 0, .int 0, .long 0, .int 0, .int 0, .int 0, .int 0, .int 0, .int 0, .ref (a 18), .ref (a 19), .ref (a 20), .ref (a 21), .ref (a 22), .ref (a 23), .ref (a 24), .ref (a 25), .ref (a 26), .ref (a 27), .ref (a 28), .ref (a 29), .ref (a 30), .ref (a 31), .ref (a 32), .ref (a 33), .ref (a 34), .ref (a 35), .long 0, .int 0, .ref (a 38), .ref (a 39), .int 0, .ref (a 41), .ref (a 42), .ref (a 43)])), ((a 20), .inl ((ca 20), 2, .inl (fun _ => 0)))] ∧ Ev g (va_A [(m0, .inr (8, [.int 0, .int 0, .int 0, .int 0, .ref (a 4), .int 0, .int 0, .int 0, .int 0, .int 0, .int 0, .long 0, .int 0, .int 0, .int 0, .int 0, .int 0, .int 0, .ref (a 18), .ref (a 19), .ref (a 20), .ref (a 21), .ref (a 22), .ref (a 23), .ref (a 24), .ref (a 25), .ref (a 26), .ref (a 27), .ref (a 28), .ref (a 29), .ref (a 30), .ref (a 31), .ref (a 32), .ref (a 33), .ref (a 34), .ref (a 35), .long 0, .int 0, .ref (a 38), .ref (a 39), .int 0, .ref (a 41), .ref (a 42), .ref (a 43)])), ((a 20), .inl ((ca 20), 2, .inl (fun _ => 0)))] sz) U)) (va_Qi (fun (r : Int32) (u : Unit) => r = 0) (fun (_ : Unit) (_ : State) => True) (va_A [(m0, .inr (8, [.int 0, .int 0, .int 0, .int 0, .ref (a 4), .int 0, .int 0, .int 0, .int 0, .int 0, .int 0, .long 0, .int 0, .int 0, .int 0, .int 0, .int 0, .int 0, .ref (a 18), .ref (a 19), .ref (a 20), .ref (a 21), .ref (a 22), .ref (a 23), .ref (a 24), .ref (a 25), .ref (a 26), .ref (a 27), .ref (a 28), .ref (a 29), .ref (a 30), .ref (a 31), .ref (a 32), .ref (a 33), .ref (a 34), .ref (a 35), .long 0, .int 0, .ref (a 38), .ref (a 39), .int 0, .ref (a 41), .ref (a 42), .ref (a 43)])), ((a 20), .inl ((ca 20), 2, .inl (fun _ => 0)))] sz)) 0 0 (va_A [(m0, .inr (8, [.int 0, .int 0, .int 0, .int 0, .ref (a 4), .int 0, .int 0, .int 0, .int 0, .int 0, .int 0, .long 0, .int 0, .int 0, .int 0, .int 0, .int 0, .int 0, .ref (a 18), .ref (a 19), .ref (a 20), .ref (a 21), .ref (a 22), .ref (a 23), .ref (a 24), .ref (a 25), .ref (a 26), .ref (a 27), .ref (a 28), .ref (a 29), .ref (a 30), .ref (a 31), .ref (a 32), .ref (a 33), .ref (a 34), .ref (a 35), .long 0, .int 0, .ref (a 38), .ref (a 39), .int 0, .ref (a 41), .ref (a 42), .ref (a 43)])), ((a 20), .inl ((ca 20), 2, .inl (fun _ => 0)))] sz) := by
  refine Met.ofW (cc := cX9_count) (maxL := 2) (ret := (some .int)) (by decide) rfl ?_
  intro p e s m args below meth c s₁ B hml hv
  obtain ⟨rfl, hsz, hP, hK, hD0, hE⟩ := hv
  have hx := B.exec
  have hb := B.bytes
  have hr := B.returns
  have hts0 := atoms_spec (ws := (.code yX9_count cX9_count 2 (some .int) :: TBL)) B.pre
  have hts := fun (w : Cond) (h : w ∈ TBL) => hts0 w (List.mem_cons_of_mem _ h)
  have hown : s.vm.findClass RX9 = some m.cls := findClass_of_methodNamed B.named
  have hlocks := B.notSynchronized
  have hN := hE.1
  subst hsz
  have hD := hD0.self (sz := s.heap.size)
  generalize hAe : va_A [(m0, .inr (8, [.int 0, .int 0, .int 0, .int 0, .ref (a 4), .int 0, .int 0, .int 0, .int 0, .int 0, .int 0, .long 0, .int 0, .int 0, .int 0, .int 0, .int 0, .int 0, .ref (a 18), .ref (a 19), .ref (a 20), .ref (a 21), .ref (a 22), .ref (a 23), .ref (a 24), .ref (a 25), .ref (a 26), .ref (a 27), .ref (a 28), .ref (a 29), .ref (a 30), .ref (a 31), .ref (a 32), .ref (a 33), .ref (a 34), .ref (a 35), .long 0, .int 0, .ref (a 38), .ref (a 39), .int 0, .ref (a 41), .ref (a 42), .ref (a 43)])), ((a 20), .inl ((ca 20), 2, .inl (fun _ => 0)))] s.heap.size = A at hD hE ⊢
  have hA : ∀ q : Nat, s.heap.size ≤ q → A q := fun q h => by rw [← hAe]; exact Or.inr h
  have hS : va_S A s.heap s.heap [] := va_S.rf
  have hP : va_P (dC, dI) vwCl [(m0, .inr (8, [.int 0, .int 0, .int 0, .int 0, .ref (a 4), .int 0, .int 0, .int 0, .int 0, .int 0, .int 0, .long 0, .int 0, .int 0, .int 0, .int 0, .int 0, .int 0, .ref (a 18), .ref (a 19), .ref (a 20), .ref (a 21), .ref (a 22), .ref (a 23), .ref (a 24), .ref (a 25), .ref (a 26), .ref (a 27), .ref (a 28), .ref (a 29), .ref (a 30), .ref (a 31), .ref (a 32), .ref (a 33), .ref (a 34), .ref (a 35), .long 0, .int 0, .ref (a 38), .ref (a 39), .int 0, .ref (a 41), .ref (a 42), .ref (a 43)])), ((a 20), .inl ((ca 20), 2, .inl (fun _ => 0)))] s.heap := hP
  have hl := lv_entry ([.ref m0, .int 0]) (n := 2) (Nat.le_of_ble_eq_true rfl)
  rw [lg_entry_eq]
  generalize (lg_sl ([.ref m0, .int 0]) ++ List.replicate (2 - (lg_sl ([.ref m0, .int 0])).length) Slot.unset).toArray = ls at hl ⊢
  have hl : lv_has ls 2 [(0, .ref m0), (1, .int 0)] := hl
  refine lv_aload_n hx hb dX9_count_0 rfl (lv_at hl 0 rfl) ?_
  refine lv_iconst (v := 0) hx hb dX9_count_1 (by decide) ?_
  refine va_put (D := (dC, dI)) (ci := 8) (v := .int 0) (ty := .int) (C := RX9) (T := TX9) (N := 44) hx hb hts inlX9 tyX9 tyX9_ok nmX9 hown hK hP hD hS 0 rfl rfl 0 (by decide) (hts (.fieldLink RX9 85 "ClosedUntilModel" "thrown" "I") qw_43) (fun _ h9 => h9) rfl (by decide +kernel) rfl rfl (Nat.le_of_ble_eq_true rfl) dX9_count_2 (fun H locs hP hD hS => ?_)
  have hP : va_P (dC, dI) vwCl [(m0, .inr (8, [.int 0, .int 0, .int 0, .int 0, .ref (a 4), .int 0, .int 0, .int 0, .int 0, .int 0, .int 0, .long 0, .int 0, .int 0, .int 0, .int 0, .int 0, .int 0, .ref (a 18), .ref (a 19), .ref (a 20), .ref (a 21), .ref (a 22), .ref (a 23), .ref (a 24), .ref (a 25), .ref (a 26), .ref (a 27), .ref (a 28), .ref (a 29), .ref (a 30), .ref (a 31), .ref (a 32), .ref (a 33), .ref (a 34), .ref (a 35), .long 0, .int 0, .ref (a 38), .ref (a 39), .int 0, .ref (a 41), .ref (a 42), .ref (a 43)])), ((a 20), .inl ((ca 20), 2, .inl (fun _ => 0)))] H := hP
  have hD : va_D A [(m0, .inr (8, [.int 0, .int 0, .int 0, .int 0, .ref (a 4), .int 0, .int 0, .int 0, .int 0, .int 0, .int 0, .long 0, .int 0, .int 0, .int 0, .int 0, .int 0, .int 0, .ref (a 18), .ref (a 19), .ref (a 20), .ref (a 21), .ref (a 22), .ref (a 23), .ref (a 24), .ref (a 25), .ref (a 26), .ref (a 27), .ref (a 28), .ref (a 29), .ref (a 30), .ref (a 31), .ref (a 32), .ref (a 33), .ref (a 34), .ref (a 35), .long 0, .int 0, .ref (a 38), .ref (a 39), .int 0, .ref (a 41), .ref (a 42), .ref (a 43)])), ((a 20), .inl ((ca 20), 2, .inl (fun _ => 0)))] := hD
  refine lv_iload_n hx hb dX9_count_5 rfl (lv_at hl 1 rfl) ?_
  refine lv_tableIn (tgt := 52) hx hb dX9_count_6 (by decide) (by decide) rfl (by decide) ?_
  refine lv_aload_n hx hb dX9_count_52 rfl (lv_at hl 0 rfl) ?_
  refine va_get (D := (dC, dI)) (ci := 8) (v := .ref (a 20)) (C := RX9) (T := TX9) (N := 44) hx hb hts inlX9 hown hK hP 0 rfl rfl 20 (by decide) (hts (.fieldLink RX9 20 "ClosedUntilModel" "pieces" "[I") qw_214) (fun _ h9 => h9) rfl dX9_count_53 ?_
  refine lv_iconst (v := 0) hx hb dX9_count_56 (by decide) ?_
  refine va_iald hx hb hK hP 1 0 rfl rfl (vin0 (by decide)) dX9_count_57 ?_
  refine cst (v := 0) (rfl) ?_
  refine W.widen (k := 0) (n := 0) (Nat.le_of_ble_eq_true rfl) (Nat.le_of_ble_eq_true rfl) ?_
  exact W.iret (v := 0) hx hb hr (fun t ht hW => ⟨⟨0, (), rfl, (rfl), trivial⟩, hS.F ht⟩) hS.2.2 dX9_count_58
set_option maxHeartbeats 4000000 in
set_option maxRecDepth 100000 in
theorem c_9count1 (l : Launch) (dC : Nat → ClassId) (dI : Nat → Nat → Nat) (g : Gv) (sz : Nat) (m0 : Nat) (a : Nat → Nat) (ca : Nat → ClassId)  : Met l yX9_count (.code yX9_count cX9_count 2 (some .int) :: TBL) ({ frames := 3, cells := 0, slots := 0, locals := 180 }) (va_Pc [.ref m0, .int 1] (fun U => U.heap.size = sz ∧ va_P (dC, dI) vwCl [(m0, .inr (8, [.int 0, .int 0, .int 0, .int 0, .ref (a 4), .int 0, .int 0, .int 0, .int 0, .int 0, .int 0, .long 0, .int 0, .int 0, .int 0, .int 0, .int 0, .int 0, .ref (a 18), .ref (a 19), .ref (a 20), .ref (a 21), .ref (a 22), .ref (a 23), .ref (a 24), .ref (a 25), .ref (a 26), .ref (a 27), .ref (a 28), .ref (a 29), .ref (a 30), .ref (a 31), .ref (a 32), .ref (a 33), .ref (a 34), .ref (a 35), .long 0, .int 0, .ref (a 38), .ref (a 39), .int 0, .ref (a 41), .ref (a 42), .ref (a 43)])), ((a 18), .inl ((ca 18), 2, .inl (fun _ => 0)))] U.heap ∧ va_K (dC, dI) vwCl [((ca 18), .int)] U ∧ va_D (fun _ => True) [(m0, .inr (8, [.int 0, .int 0, .int 0, .int 0, .ref (a 4), .int 0, .int 0, .int 0, .int 0, .int 0, .int 0, .long 0, .int 0, .int 0, .int 0, .int 0, .int 0, .int 0, .ref (a 18), .ref (a 19), .ref (a 20), .ref (a 21), .ref (a 22), .ref (a 23), .ref (a 24), .ref (a 25), .ref (a 26), .ref (a 27), .ref (a 28), .ref (a 29), .ref (a 30), .ref (a 31), .ref (a 32), .ref (a 33), .ref (a 34), .ref (a 35), .long 0, .int 0, .ref (a 38), .ref (a 39), .int 0, .ref (a 41), .ref (a 42), .ref (a 43)])), ((a 18), .inl ((ca 18), 2, .inl (fun _ => 0)))] ∧ Ev g (va_A [(m0, .inr (8, [.int 0, .int 0, .int 0, .int 0, .ref (a 4), .int 0, .int 0, .int 0, .int 0, .int 0, .int 0, .long 0, .int 0, .int 0, .int 0, .int 0, .int 0, .int 0, .ref (a 18), .ref (a 19), .ref (a 20), .ref (a 21), .ref (a 22), .ref (a 23), .ref (a 24), .ref (a 25), .ref (a 26), .ref (a 27), .ref (a 28), .ref (a 29), .ref (a 30), .ref (a 31), .ref (a 32), .ref (a 33), .ref (a 34), .ref (a 35), .long 0, .int 0, .ref (a 38), .ref (a 39), .int 0, .ref (a 41), .ref (a 42), .ref (a 43)])), ((a 18), .inl ((ca 18), 2, .inl (fun _ => 0)))] sz) U)) (va_Qi (fun (r : Int32) (u : Unit) => r = 0) (fun (_ : Unit) (_ : State) => True) (va_A [(m0, .inr (8, [.int 0, .int 0, .int 0, .int 0, .ref (a 4), .int 0, .int 0, .int 0, .int 0, .int 0, .int 0, .long 0, .int 0, .int 0, .int 0, .int 0, .int 0, .int 0, .ref (a 18), .ref (a 19), .ref (a 20), .ref (a 21), .ref (a 22), .ref (a 23), .ref (a 24), .ref (a 25), .ref (a 26), .ref (a 27), .ref (a 28), .ref (a 29), .ref (a 30), .ref (a 31), .ref (a 32), .ref (a 33), .ref (a 34), .ref (a 35), .long 0, .int 0, .ref (a 38), .ref (a 39), .int 0, .ref (a 41), .ref (a 42), .ref (a 43)])), ((a 18), .inl ((ca 18), 2, .inl (fun _ => 0)))] sz)) 0 0 (va_A [(m0, .inr (8, [.int 0, .int 0, .int 0, .int 0, .ref (a 4), .int 0, .int 0, .int 0, .int 0, .int 0, .int 0, .long 0, .int 0, .int 0, .int 0, .int 0, .int 0, .int 0, .ref (a 18), .ref (a 19), .ref (a 20), .ref (a 21), .ref (a 22), .ref (a 23), .ref (a 24), .ref (a 25), .ref (a 26), .ref (a 27), .ref (a 28), .ref (a 29), .ref (a 30), .ref (a 31), .ref (a 32), .ref (a 33), .ref (a 34), .ref (a 35), .long 0, .int 0, .ref (a 38), .ref (a 39), .int 0, .ref (a 41), .ref (a 42), .ref (a 43)])), ((a 18), .inl ((ca 18), 2, .inl (fun _ => 0)))] sz) := by
  refine Met.ofW (cc := cX9_count) (maxL := 2) (ret := (some .int)) (by decide) rfl ?_
  intro p e s m args below meth c s₁ B hml hv
  obtain ⟨rfl, hsz, hP, hK, hD0, hE⟩ := hv
  have hx := B.exec
  have hb := B.bytes
  have hr := B.returns
  have hts0 := atoms_spec (ws := (.code yX9_count cX9_count 2 (some .int) :: TBL)) B.pre
  have hts := fun (w : Cond) (h : w ∈ TBL) => hts0 w (List.mem_cons_of_mem _ h)
  have hown : s.vm.findClass RX9 = some m.cls := findClass_of_methodNamed B.named
  have hlocks := B.notSynchronized
  have hN := hE.1
  subst hsz
  have hD := hD0.self (sz := s.heap.size)
  generalize hAe : va_A [(m0, .inr (8, [.int 0, .int 0, .int 0, .int 0, .ref (a 4), .int 0, .int 0, .int 0, .int 0, .int 0, .int 0, .long 0, .int 0, .int 0, .int 0, .int 0, .int 0, .int 0, .ref (a 18), .ref (a 19), .ref (a 20), .ref (a 21), .ref (a 22), .ref (a 23), .ref (a 24), .ref (a 25), .ref (a 26), .ref (a 27), .ref (a 28), .ref (a 29), .ref (a 30), .ref (a 31), .ref (a 32), .ref (a 33), .ref (a 34), .ref (a 35), .long 0, .int 0, .ref (a 38), .ref (a 39), .int 0, .ref (a 41), .ref (a 42), .ref (a 43)])), ((a 18), .inl ((ca 18), 2, .inl (fun _ => 0)))] s.heap.size = A at hD hE ⊢
  have hA : ∀ q : Nat, s.heap.size ≤ q → A q := fun q h => by rw [← hAe]; exact Or.inr h
  have hS : va_S A s.heap s.heap [] := va_S.rf
  have hP : va_P (dC, dI) vwCl [(m0, .inr (8, [.int 0, .int 0, .int 0, .int 0, .ref (a 4), .int 0, .int 0, .int 0, .int 0, .int 0, .int 0, .long 0, .int 0, .int 0, .int 0, .int 0, .int 0, .int 0, .ref (a 18), .ref (a 19), .ref (a 20), .ref (a 21), .ref (a 22), .ref (a 23), .ref (a 24), .ref (a 25), .ref (a 26), .ref (a 27), .ref (a 28), .ref (a 29), .ref (a 30), .ref (a 31), .ref (a 32), .ref (a 33), .ref (a 34), .ref (a 35), .long 0, .int 0, .ref (a 38), .ref (a 39), .int 0, .ref (a 41), .ref (a 42), .ref (a 43)])), ((a 18), .inl ((ca 18), 2, .inl (fun _ => 0)))] s.heap := hP
  have hl := lv_entry ([.ref m0, .int 1]) (n := 2) (Nat.le_of_ble_eq_true rfl)
  rw [lg_entry_eq]
  generalize (lg_sl ([.ref m0, .int 1]) ++ List.replicate (2 - (lg_sl ([.ref m0, .int 1])).length) Slot.unset).toArray = ls at hl ⊢
  have hl : lv_has ls 2 [(0, .ref m0), (1, .int 1)] := hl
  refine lv_aload_n hx hb dX9_count_0 rfl (lv_at hl 0 rfl) ?_
  refine lv_iconst (v := 0) hx hb dX9_count_1 (by decide) ?_
  refine va_put (D := (dC, dI)) (ci := 8) (v := .int 0) (ty := .int) (C := RX9) (T := TX9) (N := 44) hx hb hts inlX9 tyX9 tyX9_ok nmX9 hown hK hP hD hS 0 rfl rfl 0 (by decide) (hts (.fieldLink RX9 85 "ClosedUntilModel" "thrown" "I") qw_43) (fun _ h9 => h9) rfl (by decide +kernel) rfl rfl (Nat.le_of_ble_eq_true rfl) dX9_count_2 (fun H locs hP hD hS => ?_)
  have hP : va_P (dC, dI) vwCl [(m0, .inr (8, [.int 0, .int 0, .int 0, .int 0, .ref (a 4), .int 0, .int 0, .int 0, .int 0, .int 0, .int 0, .long 0, .int 0, .int 0, .int 0, .int 0, .int 0, .int 0, .ref (a 18), .ref (a 19), .ref (a 20), .ref (a 21), .ref (a 22), .ref (a 23), .ref (a 24), .ref (a 25), .ref (a 26), .ref (a 27), .ref (a 28), .ref (a 29), .ref (a 30), .ref (a 31), .ref (a 32), .ref (a 33), .ref (a 34), .ref (a 35), .long 0, .int 0, .ref (a 38), .ref (a 39), .int 0, .ref (a 41), .ref (a 42), .ref (a 43)])), ((a 18), .inl ((ca 18), 2, .inl (fun _ => 0)))] H := hP
  have hD : va_D A [(m0, .inr (8, [.int 0, .int 0, .int 0, .int 0, .ref (a 4), .int 0, .int 0, .int 0, .int 0, .int 0, .int 0, .long 0, .int 0, .int 0, .int 0, .int 0, .int 0, .int 0, .ref (a 18), .ref (a 19), .ref (a 20), .ref (a 21), .ref (a 22), .ref (a 23), .ref (a 24), .ref (a 25), .ref (a 26), .ref (a 27), .ref (a 28), .ref (a 29), .ref (a 30), .ref (a 31), .ref (a 32), .ref (a 33), .ref (a 34), .ref (a 35), .long 0, .int 0, .ref (a 38), .ref (a 39), .int 0, .ref (a 41), .ref (a 42), .ref (a 43)])), ((a 18), .inl ((ca 18), 2, .inl (fun _ => 0)))] := hD
  refine lv_iload_n hx hb dX9_count_5 rfl (lv_at hl 1 rfl) ?_
  refine lv_tableIn (tgt := 59) hx hb dX9_count_6 (by decide) (by decide) rfl (by decide) ?_
  refine lv_aload_n hx hb dX9_count_59 rfl (lv_at hl 0 rfl) ?_
  refine va_get (D := (dC, dI)) (ci := 8) (v := .ref (a 18)) (C := RX9) (T := TX9) (N := 44) hx hb hts inlX9 hown hK hP 0 rfl rfl 18 (by decide) (hts (.fieldLink RX9 13 "ClosedUntilModel" "people" "[I") qw_212) (fun _ h9 => h9) rfl dX9_count_60 ?_
  refine lv_iconst (v := 0) hx hb dX9_count_63 (by decide) ?_
  refine va_iald hx hb hK hP 1 0 rfl rfl (vin0 (by decide)) dX9_count_64 ?_
  refine cst (v := 0) (rfl) ?_
  refine W.widen (k := 0) (n := 0) (Nat.le_of_ble_eq_true rfl) (Nat.le_of_ble_eq_true rfl) ?_
  exact W.iret (v := 0) hx hb hr (fun t ht hW => ⟨⟨0, (), rfl, (rfl), trivial⟩, hS.F ht⟩) hS.2.2 dX9_count_65
set_option maxHeartbeats 4000000 in
set_option maxRecDepth 100000 in
theorem c_9count2 (l : Launch) (dC : Nat → ClassId) (dI : Nat → Nat → Nat) (g : Gv) (sz : Nat) (m0 : Nat) (a : Nat → Nat) (ca : Nat → ClassId)  : Met l yX9_count (.code yX9_count cX9_count 2 (some .int) :: TBL) ({ frames := 3, cells := 0, slots := 0, locals := 180 }) (va_Pc [.ref m0, .int 2] (fun U => U.heap.size = sz ∧ va_P (dC, dI) vwCl [(m0, .inr (8, [.int 0, .int 0, .int 0, .int 0, .ref (a 4), .int 0, .int 0, .int 0, .int 0, .int 0, .int 0, .long 0, .int 0, .int 0, .int 0, .int 0, .int 0, .int 0, .ref (a 18), .ref (a 19), .ref (a 20), .ref (a 21), .ref (a 22), .ref (a 23), .ref (a 24), .ref (a 25), .ref (a 26), .ref (a 27), .ref (a 28), .ref (a 29), .ref (a 30), .ref (a 31), .ref (a 32), .ref (a 33), .ref (a 34), .ref (a 35), .long 0, .int 0, .ref (a 38), .ref (a 39), .int 0, .ref (a 41), .ref (a 42), .ref (a 43)])), ((a 19), .inl ((ca 19), 2, .inl (fun _ => 0)))] U.heap ∧ va_K (dC, dI) vwCl [((ca 19), .int)] U ∧ va_D (fun _ => True) [(m0, .inr (8, [.int 0, .int 0, .int 0, .int 0, .ref (a 4), .int 0, .int 0, .int 0, .int 0, .int 0, .int 0, .long 0, .int 0, .int 0, .int 0, .int 0, .int 0, .int 0, .ref (a 18), .ref (a 19), .ref (a 20), .ref (a 21), .ref (a 22), .ref (a 23), .ref (a 24), .ref (a 25), .ref (a 26), .ref (a 27), .ref (a 28), .ref (a 29), .ref (a 30), .ref (a 31), .ref (a 32), .ref (a 33), .ref (a 34), .ref (a 35), .long 0, .int 0, .ref (a 38), .ref (a 39), .int 0, .ref (a 41), .ref (a 42), .ref (a 43)])), ((a 19), .inl ((ca 19), 2, .inl (fun _ => 0)))] ∧ Ev g (va_A [(m0, .inr (8, [.int 0, .int 0, .int 0, .int 0, .ref (a 4), .int 0, .int 0, .int 0, .int 0, .int 0, .int 0, .long 0, .int 0, .int 0, .int 0, .int 0, .int 0, .int 0, .ref (a 18), .ref (a 19), .ref (a 20), .ref (a 21), .ref (a 22), .ref (a 23), .ref (a 24), .ref (a 25), .ref (a 26), .ref (a 27), .ref (a 28), .ref (a 29), .ref (a 30), .ref (a 31), .ref (a 32), .ref (a 33), .ref (a 34), .ref (a 35), .long 0, .int 0, .ref (a 38), .ref (a 39), .int 0, .ref (a 41), .ref (a 42), .ref (a 43)])), ((a 19), .inl ((ca 19), 2, .inl (fun _ => 0)))] sz) U)) (va_Qi (fun (r : Int32) (u : Unit) => r = 0) (fun (_ : Unit) (_ : State) => True) (va_A [(m0, .inr (8, [.int 0, .int 0, .int 0, .int 0, .ref (a 4), .int 0, .int 0, .int 0, .int 0, .int 0, .int 0, .long 0, .int 0, .int 0, .int 0, .int 0, .int 0, .int 0, .ref (a 18), .ref (a 19), .ref (a 20), .ref (a 21), .ref (a 22), .ref (a 23), .ref (a 24), .ref (a 25), .ref (a 26), .ref (a 27), .ref (a 28), .ref (a 29), .ref (a 30), .ref (a 31), .ref (a 32), .ref (a 33), .ref (a 34), .ref (a 35), .long 0, .int 0, .ref (a 38), .ref (a 39), .int 0, .ref (a 41), .ref (a 42), .ref (a 43)])), ((a 19), .inl ((ca 19), 2, .inl (fun _ => 0)))] sz)) 0 0 (va_A [(m0, .inr (8, [.int 0, .int 0, .int 0, .int 0, .ref (a 4), .int 0, .int 0, .int 0, .int 0, .int 0, .int 0, .long 0, .int 0, .int 0, .int 0, .int 0, .int 0, .int 0, .ref (a 18), .ref (a 19), .ref (a 20), .ref (a 21), .ref (a 22), .ref (a 23), .ref (a 24), .ref (a 25), .ref (a 26), .ref (a 27), .ref (a 28), .ref (a 29), .ref (a 30), .ref (a 31), .ref (a 32), .ref (a 33), .ref (a 34), .ref (a 35), .long 0, .int 0, .ref (a 38), .ref (a 39), .int 0, .ref (a 41), .ref (a 42), .ref (a 43)])), ((a 19), .inl ((ca 19), 2, .inl (fun _ => 0)))] sz) := by
  refine Met.ofW (cc := cX9_count) (maxL := 2) (ret := (some .int)) (by decide) rfl ?_
  intro p e s m args below meth c s₁ B hml hv
  obtain ⟨rfl, hsz, hP, hK, hD0, hE⟩ := hv
  have hx := B.exec
  have hb := B.bytes
  have hr := B.returns
  have hts0 := atoms_spec (ws := (.code yX9_count cX9_count 2 (some .int) :: TBL)) B.pre
  have hts := fun (w : Cond) (h : w ∈ TBL) => hts0 w (List.mem_cons_of_mem _ h)
  have hown : s.vm.findClass RX9 = some m.cls := findClass_of_methodNamed B.named
  have hlocks := B.notSynchronized
  have hN := hE.1
  subst hsz
  have hD := hD0.self (sz := s.heap.size)
  generalize hAe : va_A [(m0, .inr (8, [.int 0, .int 0, .int 0, .int 0, .ref (a 4), .int 0, .int 0, .int 0, .int 0, .int 0, .int 0, .long 0, .int 0, .int 0, .int 0, .int 0, .int 0, .int 0, .ref (a 18), .ref (a 19), .ref (a 20), .ref (a 21), .ref (a 22), .ref (a 23), .ref (a 24), .ref (a 25), .ref (a 26), .ref (a 27), .ref (a 28), .ref (a 29), .ref (a 30), .ref (a 31), .ref (a 32), .ref (a 33), .ref (a 34), .ref (a 35), .long 0, .int 0, .ref (a 38), .ref (a 39), .int 0, .ref (a 41), .ref (a 42), .ref (a 43)])), ((a 19), .inl ((ca 19), 2, .inl (fun _ => 0)))] s.heap.size = A at hD hE ⊢
  have hA : ∀ q : Nat, s.heap.size ≤ q → A q := fun q h => by rw [← hAe]; exact Or.inr h
  have hS : va_S A s.heap s.heap [] := va_S.rf
  have hP : va_P (dC, dI) vwCl [(m0, .inr (8, [.int 0, .int 0, .int 0, .int 0, .ref (a 4), .int 0, .int 0, .int 0, .int 0, .int 0, .int 0, .long 0, .int 0, .int 0, .int 0, .int 0, .int 0, .int 0, .ref (a 18), .ref (a 19), .ref (a 20), .ref (a 21), .ref (a 22), .ref (a 23), .ref (a 24), .ref (a 25), .ref (a 26), .ref (a 27), .ref (a 28), .ref (a 29), .ref (a 30), .ref (a 31), .ref (a 32), .ref (a 33), .ref (a 34), .ref (a 35), .long 0, .int 0, .ref (a 38), .ref (a 39), .int 0, .ref (a 41), .ref (a 42), .ref (a 43)])), ((a 19), .inl ((ca 19), 2, .inl (fun _ => 0)))] s.heap := hP
  have hl := lv_entry ([.ref m0, .int 2]) (n := 2) (Nat.le_of_ble_eq_true rfl)
  rw [lg_entry_eq]
  generalize (lg_sl ([.ref m0, .int 2]) ++ List.replicate (2 - (lg_sl ([.ref m0, .int 2])).length) Slot.unset).toArray = ls at hl ⊢
  have hl : lv_has ls 2 [(0, .ref m0), (1, .int 2)] := hl
  refine lv_aload_n hx hb dX9_count_0 rfl (lv_at hl 0 rfl) ?_
  refine lv_iconst (v := 0) hx hb dX9_count_1 (by decide) ?_
  refine va_put (D := (dC, dI)) (ci := 8) (v := .int 0) (ty := .int) (C := RX9) (T := TX9) (N := 44) hx hb hts inlX9 tyX9 tyX9_ok nmX9 hown hK hP hD hS 0 rfl rfl 0 (by decide) (hts (.fieldLink RX9 85 "ClosedUntilModel" "thrown" "I") qw_43) (fun _ h9 => h9) rfl (by decide +kernel) rfl rfl (Nat.le_of_ble_eq_true rfl) dX9_count_2 (fun H locs hP hD hS => ?_)
  have hP : va_P (dC, dI) vwCl [(m0, .inr (8, [.int 0, .int 0, .int 0, .int 0, .ref (a 4), .int 0, .int 0, .int 0, .int 0, .int 0, .int 0, .long 0, .int 0, .int 0, .int 0, .int 0, .int 0, .int 0, .ref (a 18), .ref (a 19), .ref (a 20), .ref (a 21), .ref (a 22), .ref (a 23), .ref (a 24), .ref (a 25), .ref (a 26), .ref (a 27), .ref (a 28), .ref (a 29), .ref (a 30), .ref (a 31), .ref (a 32), .ref (a 33), .ref (a 34), .ref (a 35), .long 0, .int 0, .ref (a 38), .ref (a 39), .int 0, .ref (a 41), .ref (a 42), .ref (a 43)])), ((a 19), .inl ((ca 19), 2, .inl (fun _ => 0)))] H := hP
  have hD : va_D A [(m0, .inr (8, [.int 0, .int 0, .int 0, .int 0, .ref (a 4), .int 0, .int 0, .int 0, .int 0, .int 0, .int 0, .long 0, .int 0, .int 0, .int 0, .int 0, .int 0, .int 0, .ref (a 18), .ref (a 19), .ref (a 20), .ref (a 21), .ref (a 22), .ref (a 23), .ref (a 24), .ref (a 25), .ref (a 26), .ref (a 27), .ref (a 28), .ref (a 29), .ref (a 30), .ref (a 31), .ref (a 32), .ref (a 33), .ref (a 34), .ref (a 35), .long 0, .int 0, .ref (a 38), .ref (a 39), .int 0, .ref (a 41), .ref (a 42), .ref (a 43)])), ((a 19), .inl ((ca 19), 2, .inl (fun _ => 0)))] := hD
  refine lv_iload_n hx hb dX9_count_5 rfl (lv_at hl 1 rfl) ?_
  refine lv_tableIn (tgt := 66) hx hb dX9_count_6 (by decide) (by decide) rfl (by decide) ?_
  refine lv_aload_n hx hb dX9_count_66 rfl (lv_at hl 0 rfl) ?_
  refine va_get (D := (dC, dI)) (ci := 8) (v := .ref (a 19)) (C := RX9) (T := TX9) (N := 44) hx hb hts inlX9 hown hK hP 0 rfl rfl 19 (by decide) (hts (.fieldLink RX9 17 "ClosedUntilModel" "deposits" "[I") qw_213) (fun _ h9 => h9) rfl dX9_count_67 ?_
  refine lv_iconst (v := 0) hx hb dX9_count_70 (by decide) ?_
  refine va_iald hx hb hK hP 1 0 rfl rfl (vin0 (by decide)) dX9_count_71 ?_
  refine cst (v := 0) (rfl) ?_
  refine W.widen (k := 0) (n := 0) (Nat.le_of_ble_eq_true rfl) (Nat.le_of_ble_eq_true rfl) ?_
  exact W.iret (v := 0) hx hb hr (fun t ht hW => ⟨⟨0, (), rfl, (rfl), trivial⟩, hS.F ht⟩) hS.2.2 dX9_count_72
set_option maxHeartbeats 4000000 in
set_option maxRecDepth 100000 in
theorem c_9count3 (l : Launch) (dC : Nat → ClassId) (dI : Nat → Nat → Nat) (g : Gv) (sz : Nat) (m0 : Nat) (a : Nat → Nat) (ca : Nat → ClassId)  : Met l yX9_count (.code yX9_count cX9_count 2 (some .int) :: TBL) ({ frames := 3, cells := 0, slots := 0, locals := 180 }) (va_Pc [.ref m0, .int 3] (fun U => U.heap.size = sz ∧ va_P (dC, dI) vwCl [(m0, .inr (8, [.int 0, .int 0, .int 0, .int 0, .ref (a 4), .int 0, .int 0, .int 0, .int 0, .int 0, .int 0, .long 0, .int 0, .int 0, .int 0, .int 0, .int 0, .int 0, .ref (a 18), .ref (a 19), .ref (a 20), .ref (a 21), .ref (a 22), .ref (a 23), .ref (a 24), .ref (a 25), .ref (a 26), .ref (a 27), .ref (a 28), .ref (a 29), .ref (a 30), .ref (a 31), .ref (a 32), .ref (a 33), .ref (a 34), .ref (a 35), .long 0, .int 0, .ref (a 38), .ref (a 39), .int 0, .ref (a 41), .ref (a 42), .ref (a 43)])), ((a 21), .inl ((ca 21), 2, .inl (fun _ => 0)))] U.heap ∧ va_K (dC, dI) vwCl [((ca 21), .int)] U ∧ va_D (fun _ => True) [(m0, .inr (8, [.int 0, .int 0, .int 0, .int 0, .ref (a 4), .int 0, .int 0, .int 0, .int 0, .int 0, .int 0, .long 0, .int 0, .int 0, .int 0, .int 0, .int 0, .int 0, .ref (a 18), .ref (a 19), .ref (a 20), .ref (a 21), .ref (a 22), .ref (a 23), .ref (a 24), .ref (a 25), .ref (a 26), .ref (a 27), .ref (a 28), .ref (a 29), .ref (a 30), .ref (a 31), .ref (a 32), .ref (a 33), .ref (a 34), .ref (a 35), .long 0, .int 0, .ref (a 38), .ref (a 39), .int 0, .ref (a 41), .ref (a 42), .ref (a 43)])), ((a 21), .inl ((ca 21), 2, .inl (fun _ => 0)))] ∧ Ev g (va_A [(m0, .inr (8, [.int 0, .int 0, .int 0, .int 0, .ref (a 4), .int 0, .int 0, .int 0, .int 0, .int 0, .int 0, .long 0, .int 0, .int 0, .int 0, .int 0, .int 0, .int 0, .ref (a 18), .ref (a 19), .ref (a 20), .ref (a 21), .ref (a 22), .ref (a 23), .ref (a 24), .ref (a 25), .ref (a 26), .ref (a 27), .ref (a 28), .ref (a 29), .ref (a 30), .ref (a 31), .ref (a 32), .ref (a 33), .ref (a 34), .ref (a 35), .long 0, .int 0, .ref (a 38), .ref (a 39), .int 0, .ref (a 41), .ref (a 42), .ref (a 43)])), ((a 21), .inl ((ca 21), 2, .inl (fun _ => 0)))] sz) U)) (va_Qi (fun (r : Int32) (u : Unit) => r = 0) (fun (_ : Unit) (_ : State) => True) (va_A [(m0, .inr (8, [.int 0, .int 0, .int 0, .int 0, .ref (a 4), .int 0, .int 0, .int 0, .int 0, .int 0, .int 0, .long 0, .int 0, .int 0, .int 0, .int 0, .int 0, .int 0, .ref (a 18), .ref (a 19), .ref (a 20), .ref (a 21), .ref (a 22), .ref (a 23), .ref (a 24), .ref (a 25), .ref (a 26), .ref (a 27), .ref (a 28), .ref (a 29), .ref (a 30), .ref (a 31), .ref (a 32), .ref (a 33), .ref (a 34), .ref (a 35), .long 0, .int 0, .ref (a 38), .ref (a 39), .int 0, .ref (a 41), .ref (a 42), .ref (a 43)])), ((a 21), .inl ((ca 21), 2, .inl (fun _ => 0)))] sz)) 0 0 (va_A [(m0, .inr (8, [.int 0, .int 0, .int 0, .int 0, .ref (a 4), .int 0, .int 0, .int 0, .int 0, .int 0, .int 0, .long 0, .int 0, .int 0, .int 0, .int 0, .int 0, .int 0, .ref (a 18), .ref (a 19), .ref (a 20), .ref (a 21), .ref (a 22), .ref (a 23), .ref (a 24), .ref (a 25), .ref (a 26), .ref (a 27), .ref (a 28), .ref (a 29), .ref (a 30), .ref (a 31), .ref (a 32), .ref (a 33), .ref (a 34), .ref (a 35), .long 0, .int 0, .ref (a 38), .ref (a 39), .int 0, .ref (a 41), .ref (a 42), .ref (a 43)])), ((a 21), .inl ((ca 21), 2, .inl (fun _ => 0)))] sz) := by
  refine Met.ofW (cc := cX9_count) (maxL := 2) (ret := (some .int)) (by decide) rfl ?_
  intro p e s m args below meth c s₁ B hml hv
  obtain ⟨rfl, hsz, hP, hK, hD0, hE⟩ := hv
  have hx := B.exec
  have hb := B.bytes
  have hr := B.returns
  have hts0 := atoms_spec (ws := (.code yX9_count cX9_count 2 (some .int) :: TBL)) B.pre
  have hts := fun (w : Cond) (h : w ∈ TBL) => hts0 w (List.mem_cons_of_mem _ h)
  have hown : s.vm.findClass RX9 = some m.cls := findClass_of_methodNamed B.named
  have hlocks := B.notSynchronized
  have hN := hE.1
  subst hsz
  have hD := hD0.self (sz := s.heap.size)
  generalize hAe : va_A [(m0, .inr (8, [.int 0, .int 0, .int 0, .int 0, .ref (a 4), .int 0, .int 0, .int 0, .int 0, .int 0, .int 0, .long 0, .int 0, .int 0, .int 0, .int 0, .int 0, .int 0, .ref (a 18), .ref (a 19), .ref (a 20), .ref (a 21), .ref (a 22), .ref (a 23), .ref (a 24), .ref (a 25), .ref (a 26), .ref (a 27), .ref (a 28), .ref (a 29), .ref (a 30), .ref (a 31), .ref (a 32), .ref (a 33), .ref (a 34), .ref (a 35), .long 0, .int 0, .ref (a 38), .ref (a 39), .int 0, .ref (a 41), .ref (a 42), .ref (a 43)])), ((a 21), .inl ((ca 21), 2, .inl (fun _ => 0)))] s.heap.size = A at hD hE ⊢
  have hA : ∀ q : Nat, s.heap.size ≤ q → A q := fun q h => by rw [← hAe]; exact Or.inr h
  have hS : va_S A s.heap s.heap [] := va_S.rf
  have hP : va_P (dC, dI) vwCl [(m0, .inr (8, [.int 0, .int 0, .int 0, .int 0, .ref (a 4), .int 0, .int 0, .int 0, .int 0, .int 0, .int 0, .long 0, .int 0, .int 0, .int 0, .int 0, .int 0, .int 0, .ref (a 18), .ref (a 19), .ref (a 20), .ref (a 21), .ref (a 22), .ref (a 23), .ref (a 24), .ref (a 25), .ref (a 26), .ref (a 27), .ref (a 28), .ref (a 29), .ref (a 30), .ref (a 31), .ref (a 32), .ref (a 33), .ref (a 34), .ref (a 35), .long 0, .int 0, .ref (a 38), .ref (a 39), .int 0, .ref (a 41), .ref (a 42), .ref (a 43)])), ((a 21), .inl ((ca 21), 2, .inl (fun _ => 0)))] s.heap := hP
  have hl := lv_entry ([.ref m0, .int 3]) (n := 2) (Nat.le_of_ble_eq_true rfl)
  rw [lg_entry_eq]
  generalize (lg_sl ([.ref m0, .int 3]) ++ List.replicate (2 - (lg_sl ([.ref m0, .int 3])).length) Slot.unset).toArray = ls at hl ⊢
  have hl : lv_has ls 2 [(0, .ref m0), (1, .int 3)] := hl
  refine lv_aload_n hx hb dX9_count_0 rfl (lv_at hl 0 rfl) ?_
  refine lv_iconst (v := 0) hx hb dX9_count_1 (by decide) ?_
  refine va_put (D := (dC, dI)) (ci := 8) (v := .int 0) (ty := .int) (C := RX9) (T := TX9) (N := 44) hx hb hts inlX9 tyX9 tyX9_ok nmX9 hown hK hP hD hS 0 rfl rfl 0 (by decide) (hts (.fieldLink RX9 85 "ClosedUntilModel" "thrown" "I") qw_43) (fun _ h9 => h9) rfl (by decide +kernel) rfl rfl (Nat.le_of_ble_eq_true rfl) dX9_count_2 (fun H locs hP hD hS => ?_)
  have hP : va_P (dC, dI) vwCl [(m0, .inr (8, [.int 0, .int 0, .int 0, .int 0, .ref (a 4), .int 0, .int 0, .int 0, .int 0, .int 0, .int 0, .long 0, .int 0, .int 0, .int 0, .int 0, .int 0, .int 0, .ref (a 18), .ref (a 19), .ref (a 20), .ref (a 21), .ref (a 22), .ref (a 23), .ref (a 24), .ref (a 25), .ref (a 26), .ref (a 27), .ref (a 28), .ref (a 29), .ref (a 30), .ref (a 31), .ref (a 32), .ref (a 33), .ref (a 34), .ref (a 35), .long 0, .int 0, .ref (a 38), .ref (a 39), .int 0, .ref (a 41), .ref (a 42), .ref (a 43)])), ((a 21), .inl ((ca 21), 2, .inl (fun _ => 0)))] H := hP
  have hD : va_D A [(m0, .inr (8, [.int 0, .int 0, .int 0, .int 0, .ref (a 4), .int 0, .int 0, .int 0, .int 0, .int 0, .int 0, .long 0, .int 0, .int 0, .int 0, .int 0, .int 0, .int 0, .ref (a 18), .ref (a 19), .ref (a 20), .ref (a 21), .ref (a 22), .ref (a 23), .ref (a 24), .ref (a 25), .ref (a 26), .ref (a 27), .ref (a 28), .ref (a 29), .ref (a 30), .ref (a 31), .ref (a 32), .ref (a 33), .ref (a 34), .ref (a 35), .long 0, .int 0, .ref (a 38), .ref (a 39), .int 0, .ref (a 41), .ref (a 42), .ref (a 43)])), ((a 21), .inl ((ca 21), 2, .inl (fun _ => 0)))] := hD
  refine lv_iload_n hx hb dX9_count_5 rfl (lv_at hl 1 rfl) ?_
  refine lv_tableIn (tgt := 73) hx hb dX9_count_6 (by decide) (by decide) rfl (by decide) ?_
  refine lv_aload_n hx hb dX9_count_73 rfl (lv_at hl 0 rfl) ?_
  refine va_get (D := (dC, dI)) (ci := 8) (v := .ref (a 21)) (C := RX9) (T := TX9) (N := 44) hx hb hts inlX9 hown hK hP 0 rfl rfl 21 (by decide) (hts (.fieldLink RX9 23 "ClosedUntilModel" "closures" "[I") qw_215) (fun _ h9 => h9) rfl dX9_count_74 ?_
  refine lv_iconst (v := 0) hx hb dX9_count_77 (by decide) ?_
  refine va_iald hx hb hK hP 1 0 rfl rfl (vin0 (by decide)) dX9_count_78 ?_
  refine cst (v := 0) (rfl) ?_
  refine W.widen (k := 0) (n := 0) (Nat.le_of_ble_eq_true rfl) (Nat.le_of_ble_eq_true rfl) ?_
  exact W.iret (v := 0) hx hb hr (fun t ht hW => ⟨⟨0, (), rfl, (rfl), trivial⟩, hS.F ht⟩) hS.2.2 dX9_count_79
set_option maxHeartbeats 4000000 in
set_option maxRecDepth 100000 in
theorem c_9count4 (l : Launch) (dC : Nat → ClassId) (dI : Nat → Nat → Nat) (g : Gv) (sz : Nat) (m0 : Nat) (a : Nat → Nat) (ca : Nat → ClassId)  : Met l yX9_count (.code yX9_count cX9_count 2 (some .int) :: TBL) ({ frames := 3, cells := 0, slots := 0, locals := 180 }) (va_Pc [.ref m0, .int 4] (fun U => U.heap.size = sz ∧ va_P (dC, dI) vwCl [(m0, .inr (8, [.int 0, .int 0, .int 0, .int 0, .ref (a 4), .int 0, .int 0, .int 0, .int 0, .int 0, .int 0, .long 0, .int 0, .int 0, .int 0, .int 0, .int 0, .int 0, .ref (a 18), .ref (a 19), .ref (a 20), .ref (a 21), .ref (a 22), .ref (a 23), .ref (a 24), .ref (a 25), .ref (a 26), .ref (a 27), .ref (a 28), .ref (a 29), .ref (a 30), .ref (a 31), .ref (a 32), .ref (a 33), .ref (a 34), .ref (a 35), .long 0, .int 0, .ref (a 38), .ref (a 39), .int 0, .ref (a 41), .ref (a 42), .ref (a 43)])), ((a 21), .inl ((ca 21), 2, .inl (fun _ => 0)))] U.heap ∧ va_K (dC, dI) vwCl [((ca 21), .int)] U ∧ va_D (fun _ => True) [(m0, .inr (8, [.int 0, .int 0, .int 0, .int 0, .ref (a 4), .int 0, .int 0, .int 0, .int 0, .int 0, .int 0, .long 0, .int 0, .int 0, .int 0, .int 0, .int 0, .int 0, .ref (a 18), .ref (a 19), .ref (a 20), .ref (a 21), .ref (a 22), .ref (a 23), .ref (a 24), .ref (a 25), .ref (a 26), .ref (a 27), .ref (a 28), .ref (a 29), .ref (a 30), .ref (a 31), .ref (a 32), .ref (a 33), .ref (a 34), .ref (a 35), .long 0, .int 0, .ref (a 38), .ref (a 39), .int 0, .ref (a 41), .ref (a 42), .ref (a 43)])), ((a 21), .inl ((ca 21), 2, .inl (fun _ => 0)))] ∧ Ev g (va_A [(m0, .inr (8, [.int 0, .int 0, .int 0, .int 0, .ref (a 4), .int 0, .int 0, .int 0, .int 0, .int 0, .int 0, .long 0, .int 0, .int 0, .int 0, .int 0, .int 0, .int 0, .ref (a 18), .ref (a 19), .ref (a 20), .ref (a 21), .ref (a 22), .ref (a 23), .ref (a 24), .ref (a 25), .ref (a 26), .ref (a 27), .ref (a 28), .ref (a 29), .ref (a 30), .ref (a 31), .ref (a 32), .ref (a 33), .ref (a 34), .ref (a 35), .long 0, .int 0, .ref (a 38), .ref (a 39), .int 0, .ref (a 41), .ref (a 42), .ref (a 43)])), ((a 21), .inl ((ca 21), 2, .inl (fun _ => 0)))] sz) U)) (va_Qi (fun (r : Int32) (u : Unit) => r = 0) (fun (_ : Unit) (_ : State) => True) (va_A [(m0, .inr (8, [.int 0, .int 0, .int 0, .int 0, .ref (a 4), .int 0, .int 0, .int 0, .int 0, .int 0, .int 0, .long 0, .int 0, .int 0, .int 0, .int 0, .int 0, .int 0, .ref (a 18), .ref (a 19), .ref (a 20), .ref (a 21), .ref (a 22), .ref (a 23), .ref (a 24), .ref (a 25), .ref (a 26), .ref (a 27), .ref (a 28), .ref (a 29), .ref (a 30), .ref (a 31), .ref (a 32), .ref (a 33), .ref (a 34), .ref (a 35), .long 0, .int 0, .ref (a 38), .ref (a 39), .int 0, .ref (a 41), .ref (a 42), .ref (a 43)])), ((a 21), .inl ((ca 21), 2, .inl (fun _ => 0)))] sz)) 0 0 (va_A [(m0, .inr (8, [.int 0, .int 0, .int 0, .int 0, .ref (a 4), .int 0, .int 0, .int 0, .int 0, .int 0, .int 0, .long 0, .int 0, .int 0, .int 0, .int 0, .int 0, .int 0, .ref (a 18), .ref (a 19), .ref (a 20), .ref (a 21), .ref (a 22), .ref (a 23), .ref (a 24), .ref (a 25), .ref (a 26), .ref (a 27), .ref (a 28), .ref (a 29), .ref (a 30), .ref (a 31), .ref (a 32), .ref (a 33), .ref (a 34), .ref (a 35), .long 0, .int 0, .ref (a 38), .ref (a 39), .int 0, .ref (a 41), .ref (a 42), .ref (a 43)])), ((a 21), .inl ((ca 21), 2, .inl (fun _ => 0)))] sz) := by
  refine Met.ofW (cc := cX9_count) (maxL := 2) (ret := (some .int)) (by decide) rfl ?_
  intro p e s m args below meth c s₁ B hml hv
  obtain ⟨rfl, hsz, hP, hK, hD0, hE⟩ := hv
  have hx := B.exec
  have hb := B.bytes
  have hr := B.returns
  have hts0 := atoms_spec (ws := (.code yX9_count cX9_count 2 (some .int) :: TBL)) B.pre
  have hts := fun (w : Cond) (h : w ∈ TBL) => hts0 w (List.mem_cons_of_mem _ h)
  have hown : s.vm.findClass RX9 = some m.cls := findClass_of_methodNamed B.named
  have hlocks := B.notSynchronized
  have hN := hE.1
  subst hsz
  have hD := hD0.self (sz := s.heap.size)
  generalize hAe : va_A [(m0, .inr (8, [.int 0, .int 0, .int 0, .int 0, .ref (a 4), .int 0, .int 0, .int 0, .int 0, .int 0, .int 0, .long 0, .int 0, .int 0, .int 0, .int 0, .int 0, .int 0, .ref (a 18), .ref (a 19), .ref (a 20), .ref (a 21), .ref (a 22), .ref (a 23), .ref (a 24), .ref (a 25), .ref (a 26), .ref (a 27), .ref (a 28), .ref (a 29), .ref (a 30), .ref (a 31), .ref (a 32), .ref (a 33), .ref (a 34), .ref (a 35), .long 0, .int 0, .ref (a 38), .ref (a 39), .int 0, .ref (a 41), .ref (a 42), .ref (a 43)])), ((a 21), .inl ((ca 21), 2, .inl (fun _ => 0)))] s.heap.size = A at hD hE ⊢
  have hA : ∀ q : Nat, s.heap.size ≤ q → A q := fun q h => by rw [← hAe]; exact Or.inr h
  have hS : va_S A s.heap s.heap [] := va_S.rf
  have hP : va_P (dC, dI) vwCl [(m0, .inr (8, [.int 0, .int 0, .int 0, .int 0, .ref (a 4), .int 0, .int 0, .int 0, .int 0, .int 0, .int 0, .long 0, .int 0, .int 0, .int 0, .int 0, .int 0, .int 0, .ref (a 18), .ref (a 19), .ref (a 20), .ref (a 21), .ref (a 22), .ref (a 23), .ref (a 24), .ref (a 25), .ref (a 26), .ref (a 27), .ref (a 28), .ref (a 29), .ref (a 30), .ref (a 31), .ref (a 32), .ref (a 33), .ref (a 34), .ref (a 35), .long 0, .int 0, .ref (a 38), .ref (a 39), .int 0, .ref (a 41), .ref (a 42), .ref (a 43)])), ((a 21), .inl ((ca 21), 2, .inl (fun _ => 0)))] s.heap := hP
  have hl := lv_entry ([.ref m0, .int 4]) (n := 2) (Nat.le_of_ble_eq_true rfl)
  rw [lg_entry_eq]
  generalize (lg_sl ([.ref m0, .int 4]) ++ List.replicate (2 - (lg_sl ([.ref m0, .int 4])).length) Slot.unset).toArray = ls at hl ⊢
  have hl : lv_has ls 2 [(0, .ref m0), (1, .int 4)] := hl
  refine lv_aload_n hx hb dX9_count_0 rfl (lv_at hl 0 rfl) ?_
  refine lv_iconst (v := 0) hx hb dX9_count_1 (by decide) ?_
  refine va_put (D := (dC, dI)) (ci := 8) (v := .int 0) (ty := .int) (C := RX9) (T := TX9) (N := 44) hx hb hts inlX9 tyX9 tyX9_ok nmX9 hown hK hP hD hS 0 rfl rfl 0 (by decide) (hts (.fieldLink RX9 85 "ClosedUntilModel" "thrown" "I") qw_43) (fun _ h9 => h9) rfl (by decide +kernel) rfl rfl (Nat.le_of_ble_eq_true rfl) dX9_count_2 (fun H locs hP hD hS => ?_)
  have hP : va_P (dC, dI) vwCl [(m0, .inr (8, [.int 0, .int 0, .int 0, .int 0, .ref (a 4), .int 0, .int 0, .int 0, .int 0, .int 0, .int 0, .long 0, .int 0, .int 0, .int 0, .int 0, .int 0, .int 0, .ref (a 18), .ref (a 19), .ref (a 20), .ref (a 21), .ref (a 22), .ref (a 23), .ref (a 24), .ref (a 25), .ref (a 26), .ref (a 27), .ref (a 28), .ref (a 29), .ref (a 30), .ref (a 31), .ref (a 32), .ref (a 33), .ref (a 34), .ref (a 35), .long 0, .int 0, .ref (a 38), .ref (a 39), .int 0, .ref (a 41), .ref (a 42), .ref (a 43)])), ((a 21), .inl ((ca 21), 2, .inl (fun _ => 0)))] H := hP
  have hD : va_D A [(m0, .inr (8, [.int 0, .int 0, .int 0, .int 0, .ref (a 4), .int 0, .int 0, .int 0, .int 0, .int 0, .int 0, .long 0, .int 0, .int 0, .int 0, .int 0, .int 0, .int 0, .ref (a 18), .ref (a 19), .ref (a 20), .ref (a 21), .ref (a 22), .ref (a 23), .ref (a 24), .ref (a 25), .ref (a 26), .ref (a 27), .ref (a 28), .ref (a 29), .ref (a 30), .ref (a 31), .ref (a 32), .ref (a 33), .ref (a 34), .ref (a 35), .long 0, .int 0, .ref (a 38), .ref (a 39), .int 0, .ref (a 41), .ref (a 42), .ref (a 43)])), ((a 21), .inl ((ca 21), 2, .inl (fun _ => 0)))] := hD
  refine lv_iload_n hx hb dX9_count_5 rfl (lv_at hl 1 rfl) ?_
  refine lv_tableIn (tgt := 80) hx hb dX9_count_6 (by decide) (by decide) rfl (by decide) ?_
  refine lv_aload_n hx hb dX9_count_80 rfl (lv_at hl 0 rfl) ?_
  have hPc := hP.sub (ws' := [(m0, .inr (8, [.int 0, .int 0, .int 0, .int 0, .ref (a 4), .int 0, .int 0, .int 0, .int 0, .int 0, .int 0, .long 0, .int 0, .int 0, .int 0, .int 0, .int 0, .int 0, .ref (a 18), .ref (a 19), .ref (a 20), .ref (a 21), .ref (a 22), .ref (a 23), .ref (a 24), .ref (a 25), .ref (a 26), .ref (a 27), .ref (a 28), .ref (a 29), .ref (a 30), .ref (a 31), .ref (a 32), .ref (a 33), .ref (a 34), .ref (a 35), .long 0, .int 0, .ref (a 38), .ref (a 39), .int 0, .ref (a 41), .ref (a 42), .ref (a 43)])), ((a 21), .inl ((ca 21), 2, .inl (fun _ => 0)))]) [0, 1] rfl
  have hKc := hK.sub (tys' := [((ca 21), .int)]) [0] rfl
  refine vp_callSi ((va_runV (As := []) (rest := []) ⟨hx, hb, hml, hown, hts⟩ (c_9rv l dC dI g (m0) (a) (ca) ) (cwV 0 hts (gwV qw_358 qw_359 qw_360 qw_23 qw_357) rfl rfl rfl (by decide +kernel) ⟨Nat.le_of_ble_eq_true rfl, Nat.le_of_ble_eq_true rfl⟩) ⟨fun a U g9 mk q => ⟨q.1, q.2.1, va_K.moved (u := U) (U := U.calling g9 mk a) (Vm.Alike.refl U.vm) q.2.2.1, Ev.bl q.2.2.2⟩, va_recv hK hP (ci := 8) (q0 := 0) rfl rfl, fun U hU hW => ⟨rfl, by rw [hU]; exact hPc, va_K.moved hW.alike hKc, hE.go hS (fun _ h => h.elim) hU hW⟩⟩ rfl rfl hl.1 rfl (lv_room (Nat.le_of_ble_eq_true rfl)) dX9_count_81 ⟨Nat.le_of_ble_eq_true rfl, Nat.le_of_ble_eq_true rfl⟩)).run (fun r1 h_r1 => ?_)
  have h_r1 : r1 = 0 := h_r1
  subst h_r1
  refine W.widen (k := 0) (n := 0) (Nat.le_of_ble_eq_true rfl) (Nat.le_of_ble_eq_true rfl) ?_
  exact W.iret (v := 0) hx hb hr (fun t ht hW => ⟨⟨0, (), rfl, (rfl), trivial⟩, hS.F ht⟩) hS.2.2 dX9_count_84
set_option maxHeartbeats 4000000 in
set_option maxRecDepth 100000 in
theorem c_9count5 (l : Launch) (dC : Nat → ClassId) (dI : Nat → Nat → Nat) (g : Gv) (sz : Nat) (m0 : Nat) (a : Nat → Nat) (ca : Nat → ClassId)  : Met l yX9_count (.code yX9_count cX9_count 2 (some .int) :: TBL) ({ frames := 3, cells := 0, slots := 0, locals := 180 }) (va_Pc [.ref m0, .int 5] (fun U => U.heap.size = sz ∧ va_P (dC, dI) vwCl [(m0, .inr (8, [.int 0, .int 0, .int 0, .int 0, .ref (a 4), .int 0, .int 0, .int 0, .int 0, .int 0, .int 0, .long 0, .int 0, .int 0, .int 0, .int 0, .int 0, .int 0, .ref (a 18), .ref (a 19), .ref (a 20), .ref (a 21), .ref (a 22), .ref (a 23), .ref (a 24), .ref (a 25), .ref (a 26), .ref (a 27), .ref (a 28), .ref (a 29), .ref (a 30), .ref (a 31), .ref (a 32), .ref (a 33), .ref (a 34), .ref (a 35), .long 0, .int 0, .ref (a 38), .ref (a 39), .int 0, .ref (a 41), .ref (a 42), .ref (a 43)])), ((a 21), .inl ((ca 21), 2, .inl (fun _ => 0)))] U.heap ∧ va_K (dC, dI) vwCl [((ca 21), .int)] U ∧ va_D (fun _ => True) [(m0, .inr (8, [.int 0, .int 0, .int 0, .int 0, .ref (a 4), .int 0, .int 0, .int 0, .int 0, .int 0, .int 0, .long 0, .int 0, .int 0, .int 0, .int 0, .int 0, .int 0, .ref (a 18), .ref (a 19), .ref (a 20), .ref (a 21), .ref (a 22), .ref (a 23), .ref (a 24), .ref (a 25), .ref (a 26), .ref (a 27), .ref (a 28), .ref (a 29), .ref (a 30), .ref (a 31), .ref (a 32), .ref (a 33), .ref (a 34), .ref (a 35), .long 0, .int 0, .ref (a 38), .ref (a 39), .int 0, .ref (a 41), .ref (a 42), .ref (a 43)])), ((a 21), .inl ((ca 21), 2, .inl (fun _ => 0)))] ∧ Ev g (va_A [(m0, .inr (8, [.int 0, .int 0, .int 0, .int 0, .ref (a 4), .int 0, .int 0, .int 0, .int 0, .int 0, .int 0, .long 0, .int 0, .int 0, .int 0, .int 0, .int 0, .int 0, .ref (a 18), .ref (a 19), .ref (a 20), .ref (a 21), .ref (a 22), .ref (a 23), .ref (a 24), .ref (a 25), .ref (a 26), .ref (a 27), .ref (a 28), .ref (a 29), .ref (a 30), .ref (a 31), .ref (a 32), .ref (a 33), .ref (a 34), .ref (a 35), .long 0, .int 0, .ref (a 38), .ref (a 39), .int 0, .ref (a 41), .ref (a 42), .ref (a 43)])), ((a 21), .inl ((ca 21), 2, .inl (fun _ => 0)))] sz) U)) (va_Qi (fun (r : Int32) (u : Unit) => r = 0) (fun (_ : Unit) (_ : State) => True) (va_A [(m0, .inr (8, [.int 0, .int 0, .int 0, .int 0, .ref (a 4), .int 0, .int 0, .int 0, .int 0, .int 0, .int 0, .long 0, .int 0, .int 0, .int 0, .int 0, .int 0, .int 0, .ref (a 18), .ref (a 19), .ref (a 20), .ref (a 21), .ref (a 22), .ref (a 23), .ref (a 24), .ref (a 25), .ref (a 26), .ref (a 27), .ref (a 28), .ref (a 29), .ref (a 30), .ref (a 31), .ref (a 32), .ref (a 33), .ref (a 34), .ref (a 35), .long 0, .int 0, .ref (a 38), .ref (a 39), .int 0, .ref (a 41), .ref (a 42), .ref (a 43)])), ((a 21), .inl ((ca 21), 2, .inl (fun _ => 0)))] sz)) 0 0 (va_A [(m0, .inr (8, [.int 0, .int 0, .int 0, .int 0, .ref (a 4), .int 0, .int 0, .int 0, .int 0, .int 0, .int 0, .long 0, .int 0, .int 0, .int 0, .int 0, .int 0, .int 0, .ref (a 18), .ref (a 19), .ref (a 20), .ref (a 21), .ref (a 22), .ref (a 23), .ref (a 24), .ref (a 25), .ref (a 26), .ref (a 27), .ref (a 28), .ref (a 29), .ref (a 30), .ref (a 31), .ref (a 32), .ref (a 33), .ref (a 34), .ref (a 35), .long 0, .int 0, .ref (a 38), .ref (a 39), .int 0, .ref (a 41), .ref (a 42), .ref (a 43)])), ((a 21), .inl ((ca 21), 2, .inl (fun _ => 0)))] sz) := by
  refine Met.ofW (cc := cX9_count) (maxL := 2) (ret := (some .int)) (by decide) rfl ?_
  intro p e s m args below meth c s₁ B hml hv
  obtain ⟨rfl, hsz, hP, hK, hD0, hE⟩ := hv
  have hx := B.exec
  have hb := B.bytes
  have hr := B.returns
  have hts0 := atoms_spec (ws := (.code yX9_count cX9_count 2 (some .int) :: TBL)) B.pre
  have hts := fun (w : Cond) (h : w ∈ TBL) => hts0 w (List.mem_cons_of_mem _ h)
  have hown : s.vm.findClass RX9 = some m.cls := findClass_of_methodNamed B.named
  have hlocks := B.notSynchronized
  have hN := hE.1
  subst hsz
  have hD := hD0.self (sz := s.heap.size)
  generalize hAe : va_A [(m0, .inr (8, [.int 0, .int 0, .int 0, .int 0, .ref (a 4), .int 0, .int 0, .int 0, .int 0, .int 0, .int 0, .long 0, .int 0, .int 0, .int 0, .int 0, .int 0, .int 0, .ref (a 18), .ref (a 19), .ref (a 20), .ref (a 21), .ref (a 22), .ref (a 23), .ref (a 24), .ref (a 25), .ref (a 26), .ref (a 27), .ref (a 28), .ref (a 29), .ref (a 30), .ref (a 31), .ref (a 32), .ref (a 33), .ref (a 34), .ref (a 35), .long 0, .int 0, .ref (a 38), .ref (a 39), .int 0, .ref (a 41), .ref (a 42), .ref (a 43)])), ((a 21), .inl ((ca 21), 2, .inl (fun _ => 0)))] s.heap.size = A at hD hE ⊢
  have hA : ∀ q : Nat, s.heap.size ≤ q → A q := fun q h => by rw [← hAe]; exact Or.inr h
  have hS : va_S A s.heap s.heap [] := va_S.rf
  have hP : va_P (dC, dI) vwCl [(m0, .inr (8, [.int 0, .int 0, .int 0, .int 0, .ref (a 4), .int 0, .int 0, .int 0, .int 0, .int 0, .int 0, .long 0, .int 0, .int 0, .int 0, .int 0, .int 0, .int 0, .ref (a 18), .ref (a 19), .ref (a 20), .ref (a 21), .ref (a 22), .ref (a 23), .ref (a 24), .ref (a 25), .ref (a 26), .ref (a 27), .ref (a 28), .ref (a 29), .ref (a 30), .ref (a 31), .ref (a 32), .ref (a 33), .ref (a 34), .ref (a 35), .long 0, .int 0, .ref (a 38), .ref (a 39), .int 0, .ref (a 41), .ref (a 42), .ref (a 43)])), ((a 21), .inl ((ca 21), 2, .inl (fun _ => 0)))] s.heap := hP
  have hl := lv_entry ([.ref m0, .int 5]) (n := 2) (Nat.le_of_ble_eq_true rfl)
  rw [lg_entry_eq]
  generalize (lg_sl ([.ref m0, .int 5]) ++ List.replicate (2 - (lg_sl ([.ref m0, .int 5])).length) Slot.unset).toArray = ls at hl ⊢
  have hl : lv_has ls 2 [(0, .ref m0), (1, .int 5)] := hl
  refine lv_aload_n hx hb dX9_count_0 rfl (lv_at hl 0 rfl) ?_
  refine lv_iconst (v := 0) hx hb dX9_count_1 (by decide) ?_
  refine va_put (D := (dC, dI)) (ci := 8) (v := .int 0) (ty := .int) (C := RX9) (T := TX9) (N := 44) hx hb hts inlX9 tyX9 tyX9_ok nmX9 hown hK hP hD hS 0 rfl rfl 0 (by decide) (hts (.fieldLink RX9 85 "ClosedUntilModel" "thrown" "I") qw_43) (fun _ h9 => h9) rfl (by decide +kernel) rfl rfl (Nat.le_of_ble_eq_true rfl) dX9_count_2 (fun H locs hP hD hS => ?_)
  have hP : va_P (dC, dI) vwCl [(m0, .inr (8, [.int 0, .int 0, .int 0, .int 0, .ref (a 4), .int 0, .int 0, .int 0, .int 0, .int 0, .int 0, .long 0, .int 0, .int 0, .int 0, .int 0, .int 0, .int 0, .ref (a 18), .ref (a 19), .ref (a 20), .ref (a 21), .ref (a 22), .ref (a 23), .ref (a 24), .ref (a 25), .ref (a 26), .ref (a 27), .ref (a 28), .ref (a 29), .ref (a 30), .ref (a 31), .ref (a 32), .ref (a 33), .ref (a 34), .ref (a 35), .long 0, .int 0, .ref (a 38), .ref (a 39), .int 0, .ref (a 41), .ref (a 42), .ref (a 43)])), ((a 21), .inl ((ca 21), 2, .inl (fun _ => 0)))] H := hP
  have hD : va_D A [(m0, .inr (8, [.int 0, .int 0, .int 0, .int 0, .ref (a 4), .int 0, .int 0, .int 0, .int 0, .int 0, .int 0, .long 0, .int 0, .int 0, .int 0, .int 0, .int 0, .int 0, .ref (a 18), .ref (a 19), .ref (a 20), .ref (a 21), .ref (a 22), .ref (a 23), .ref (a 24), .ref (a 25), .ref (a 26), .ref (a 27), .ref (a 28), .ref (a 29), .ref (a 30), .ref (a 31), .ref (a 32), .ref (a 33), .ref (a 34), .ref (a 35), .long 0, .int 0, .ref (a 38), .ref (a 39), .int 0, .ref (a 41), .ref (a 42), .ref (a 43)])), ((a 21), .inl ((ca 21), 2, .inl (fun _ => 0)))] := hD
  refine lv_iload_n hx hb dX9_count_5 rfl (lv_at hl 1 rfl) ?_
  refine lv_tableIn (tgt := 85) hx hb dX9_count_6 (by decide) (by decide) rfl (by decide) ?_
  refine lv_aload_n hx hb dX9_count_85 rfl (lv_at hl 0 rfl) ?_
  have hPc := hP.sub (ws' := [(m0, .inr (8, [.int 0, .int 0, .int 0, .int 0, .ref (a 4), .int 0, .int 0, .int 0, .int 0, .int 0, .int 0, .long 0, .int 0, .int 0, .int 0, .int 0, .int 0, .int 0, .ref (a 18), .ref (a 19), .ref (a 20), .ref (a 21), .ref (a 22), .ref (a 23), .ref (a 24), .ref (a 25), .ref (a 26), .ref (a 27), .ref (a 28), .ref (a 29), .ref (a 30), .ref (a 31), .ref (a 32), .ref (a 33), .ref (a 34), .ref (a 35), .long 0, .int 0, .ref (a 38), .ref (a 39), .int 0, .ref (a 41), .ref (a 42), .ref (a 43)])), ((a 21), .inl ((ca 21), 2, .inl (fun _ => 0)))]) [0, 1] rfl
  have hKc := hK.sub (tys' := [((ca 21), .int)]) [0] rfl
  refine vp_callSi ((va_runV (As := []) (rest := []) ⟨hx, hb, hml, hown, hts⟩ (c_9lf l dC dI g (m0) (a) (ca) ) (cwV 0 hts (gwV qw_362 qw_363 qw_364 qw_23 qw_361) rfl rfl rfl (by decide +kernel) ⟨Nat.le_of_ble_eq_true rfl, Nat.le_of_ble_eq_true rfl⟩) ⟨fun a U g9 mk q => ⟨q.1, q.2.1, va_K.moved (u := U) (U := U.calling g9 mk a) (Vm.Alike.refl U.vm) q.2.2.1, Ev.bl q.2.2.2⟩, va_recv hK hP (ci := 8) (q0 := 0) rfl rfl, fun U hU hW => ⟨rfl, by rw [hU]; exact hPc, va_K.moved hW.alike hKc, hE.go hS (fun _ h => h.elim) hU hW⟩⟩ rfl rfl hl.1 rfl (lv_room (Nat.le_of_ble_eq_true rfl)) dX9_count_86 ⟨Nat.le_of_ble_eq_true rfl, Nat.le_of_ble_eq_true rfl⟩)).run (fun r1 h_r1 => ?_)
  have h_r1 : r1 = 0 := h_r1
  subst h_r1
  refine W.widen (k := 0) (n := 0) (Nat.le_of_ble_eq_true rfl) (Nat.le_of_ble_eq_true rfl) ?_
  exact W.iret (v := 0) hx hb hr (fun t ht hW => ⟨⟨0, (), rfl, (rfl), trivial⟩, hS.F ht⟩) hS.2.2 dX9_count_89
set_option maxHeartbeats 4000000 in
set_option maxRecDepth 100000 in
theorem c_9count6 (l : Launch) (dC : Nat → ClassId) (dI : Nat → Nat → Nat) (g : Gv) (sz : Nat) (m0 : Nat) (a : Nat → Nat) (ca : Nat → ClassId)  : Met l yX9_count (.code yX9_count cX9_count 2 (some .int) :: TBL) ({ frames := 3, cells := 0, slots := 0, locals := 180 }) (va_Pc [.ref m0, .int 6] (fun U => U.heap.size = sz ∧ va_P (dC, dI) vwCl [(m0, .inr (8, [.int 0, .int 0, .int 0, .int 0, .ref (a 4), .int 0, .int 0, .int 0, .int 0, .int 0, .int 0, .long 0, .int 0, .int 0, .int 0, .int 0, .int 0, .int 0, .ref (a 18), .ref (a 19), .ref (a 20), .ref (a 21), .ref (a 22), .ref (a 23), .ref (a 24), .ref (a 25), .ref (a 26), .ref (a 27), .ref (a 28), .ref (a 29), .ref (a 30), .ref (a 31), .ref (a 32), .ref (a 33), .ref (a 34), .ref (a 35), .long 0, .int 0, .ref (a 38), .ref (a 39), .int 0, .ref (a 41), .ref (a 42), .ref (a 43)]))] U.heap ∧ va_K (dC, dI) vwCl [] U ∧ va_D (fun _ => True) [(m0, .inr (8, [.int 0, .int 0, .int 0, .int 0, .ref (a 4), .int 0, .int 0, .int 0, .int 0, .int 0, .int 0, .long 0, .int 0, .int 0, .int 0, .int 0, .int 0, .int 0, .ref (a 18), .ref (a 19), .ref (a 20), .ref (a 21), .ref (a 22), .ref (a 23), .ref (a 24), .ref (a 25), .ref (a 26), .ref (a 27), .ref (a 28), .ref (a 29), .ref (a 30), .ref (a 31), .ref (a 32), .ref (a 33), .ref (a 34), .ref (a 35), .long 0, .int 0, .ref (a 38), .ref (a 39), .int 0, .ref (a 41), .ref (a 42), .ref (a 43)]))] ∧ Ev g (va_A [(m0, .inr (8, [.int 0, .int 0, .int 0, .int 0, .ref (a 4), .int 0, .int 0, .int 0, .int 0, .int 0, .int 0, .long 0, .int 0, .int 0, .int 0, .int 0, .int 0, .int 0, .ref (a 18), .ref (a 19), .ref (a 20), .ref (a 21), .ref (a 22), .ref (a 23), .ref (a 24), .ref (a 25), .ref (a 26), .ref (a 27), .ref (a 28), .ref (a 29), .ref (a 30), .ref (a 31), .ref (a 32), .ref (a 33), .ref (a 34), .ref (a 35), .long 0, .int 0, .ref (a 38), .ref (a 39), .int 0, .ref (a 41), .ref (a 42), .ref (a 43)]))] sz) U)) (va_Qi (fun (r : Int32) (u : Unit) => r = 0) (fun (_ : Unit) (_ : State) => True) (va_A [(m0, .inr (8, [.int 0, .int 0, .int 0, .int 0, .ref (a 4), .int 0, .int 0, .int 0, .int 0, .int 0, .int 0, .long 0, .int 0, .int 0, .int 0, .int 0, .int 0, .int 0, .ref (a 18), .ref (a 19), .ref (a 20), .ref (a 21), .ref (a 22), .ref (a 23), .ref (a 24), .ref (a 25), .ref (a 26), .ref (a 27), .ref (a 28), .ref (a 29), .ref (a 30), .ref (a 31), .ref (a 32), .ref (a 33), .ref (a 34), .ref (a 35), .long 0, .int 0, .ref (a 38), .ref (a 39), .int 0, .ref (a 41), .ref (a 42), .ref (a 43)]))] sz)) 0 0 (va_A [(m0, .inr (8, [.int 0, .int 0, .int 0, .int 0, .ref (a 4), .int 0, .int 0, .int 0, .int 0, .int 0, .int 0, .long 0, .int 0, .int 0, .int 0, .int 0, .int 0, .int 0, .ref (a 18), .ref (a 19), .ref (a 20), .ref (a 21), .ref (a 22), .ref (a 23), .ref (a 24), .ref (a 25), .ref (a 26), .ref (a 27), .ref (a 28), .ref (a 29), .ref (a 30), .ref (a 31), .ref (a 32), .ref (a 33), .ref (a 34), .ref (a 35), .long 0, .int 0, .ref (a 38), .ref (a 39), .int 0, .ref (a 41), .ref (a 42), .ref (a 43)]))] sz) := by
  refine Met.ofW (cc := cX9_count) (maxL := 2) (ret := (some .int)) (by decide) rfl ?_
  intro p e s m args below meth c s₁ B hml hv
  obtain ⟨rfl, hsz, hP, hK, hD0, hE⟩ := hv
  have hx := B.exec
  have hb := B.bytes
  have hr := B.returns
  have hts0 := atoms_spec (ws := (.code yX9_count cX9_count 2 (some .int) :: TBL)) B.pre
  have hts := fun (w : Cond) (h : w ∈ TBL) => hts0 w (List.mem_cons_of_mem _ h)
  have hown : s.vm.findClass RX9 = some m.cls := findClass_of_methodNamed B.named
  have hlocks := B.notSynchronized
  have hN := hE.1
  subst hsz
  have hD := hD0.self (sz := s.heap.size)
  generalize hAe : va_A [(m0, .inr (8, [.int 0, .int 0, .int 0, .int 0, .ref (a 4), .int 0, .int 0, .int 0, .int 0, .int 0, .int 0, .long 0, .int 0, .int 0, .int 0, .int 0, .int 0, .int 0, .ref (a 18), .ref (a 19), .ref (a 20), .ref (a 21), .ref (a 22), .ref (a 23), .ref (a 24), .ref (a 25), .ref (a 26), .ref (a 27), .ref (a 28), .ref (a 29), .ref (a 30), .ref (a 31), .ref (a 32), .ref (a 33), .ref (a 34), .ref (a 35), .long 0, .int 0, .ref (a 38), .ref (a 39), .int 0, .ref (a 41), .ref (a 42), .ref (a 43)]))] s.heap.size = A at hD hE ⊢
  have hA : ∀ q : Nat, s.heap.size ≤ q → A q := fun q h => by rw [← hAe]; exact Or.inr h
  have hS : va_S A s.heap s.heap [] := va_S.rf
  have hP : va_P (dC, dI) vwCl [(m0, .inr (8, [.int 0, .int 0, .int 0, .int 0, .ref (a 4), .int 0, .int 0, .int 0, .int 0, .int 0, .int 0, .long 0, .int 0, .int 0, .int 0, .int 0, .int 0, .int 0, .ref (a 18), .ref (a 19), .ref (a 20), .ref (a 21), .ref (a 22), .ref (a 23), .ref (a 24), .ref (a 25), .ref (a 26), .ref (a 27), .ref (a 28), .ref (a 29), .ref (a 30), .ref (a 31), .ref (a 32), .ref (a 33), .ref (a 34), .ref (a 35), .long 0, .int 0, .ref (a 38), .ref (a 39), .int 0, .ref (a 41), .ref (a 42), .ref (a 43)]))] s.heap := hP
  have hl := lv_entry ([.ref m0, .int 6]) (n := 2) (Nat.le_of_ble_eq_true rfl)
  rw [lg_entry_eq]
  generalize (lg_sl ([.ref m0, .int 6]) ++ List.replicate (2 - (lg_sl ([.ref m0, .int 6])).length) Slot.unset).toArray = ls at hl ⊢
  have hl : lv_has ls 2 [(0, .ref m0), (1, .int 6)] := hl
  refine lv_aload_n hx hb dX9_count_0 rfl (lv_at hl 0 rfl) ?_
  refine lv_iconst (v := 0) hx hb dX9_count_1 (by decide) ?_
  refine va_put (D := (dC, dI)) (ci := 8) (v := .int 0) (ty := .int) (C := RX9) (T := TX9) (N := 44) hx hb hts inlX9 tyX9 tyX9_ok nmX9 hown hK hP hD hS 0 rfl rfl 0 (by decide) (hts (.fieldLink RX9 85 "ClosedUntilModel" "thrown" "I") qw_43) (fun _ h9 => h9) rfl (by decide +kernel) rfl rfl (Nat.le_of_ble_eq_true rfl) dX9_count_2 (fun H locs hP hD hS => ?_)
  have hP : va_P (dC, dI) vwCl [(m0, .inr (8, [.int 0, .int 0, .int 0, .int 0, .ref (a 4), .int 0, .int 0, .int 0, .int 0, .int 0, .int 0, .long 0, .int 0, .int 0, .int 0, .int 0, .int 0, .int 0, .ref (a 18), .ref (a 19), .ref (a 20), .ref (a 21), .ref (a 22), .ref (a 23), .ref (a 24), .ref (a 25), .ref (a 26), .ref (a 27), .ref (a 28), .ref (a 29), .ref (a 30), .ref (a 31), .ref (a 32), .ref (a 33), .ref (a 34), .ref (a 35), .long 0, .int 0, .ref (a 38), .ref (a 39), .int 0, .ref (a 41), .ref (a 42), .ref (a 43)]))] H := hP
  have hD : va_D A [(m0, .inr (8, [.int 0, .int 0, .int 0, .int 0, .ref (a 4), .int 0, .int 0, .int 0, .int 0, .int 0, .int 0, .long 0, .int 0, .int 0, .int 0, .int 0, .int 0, .int 0, .ref (a 18), .ref (a 19), .ref (a 20), .ref (a 21), .ref (a 22), .ref (a 23), .ref (a 24), .ref (a 25), .ref (a 26), .ref (a 27), .ref (a 28), .ref (a 29), .ref (a 30), .ref (a 31), .ref (a 32), .ref (a 33), .ref (a 34), .ref (a 35), .long 0, .int 0, .ref (a 38), .ref (a 39), .int 0, .ref (a 41), .ref (a 42), .ref (a 43)]))] := hD
  refine lv_iload_n hx hb dX9_count_5 rfl (lv_at hl 1 rfl) ?_
  refine lv_tableIn (tgt := 90) hx hb dX9_count_6 (by decide) (by decide) rfl (by decide) ?_
  refine lv_aload_n hx hb dX9_count_90 rfl (lv_at hl 0 rfl) ?_
  refine va_get (D := (dC, dI)) (ci := 8) (v := .int 0) (C := RX9) (T := TX9) (N := 44) hx hb hts inlX9 hown hK hP 0 rfl rfl 40 (by decide) (hts (.fieldLink RX9 310 "ClosedUntilModel" "undos" "I") qw_341) (fun _ h9 => h9) rfl dX9_count_91 ?_
  refine W.widen (k := 0) (n := 0) (Nat.le_of_ble_eq_true rfl) (Nat.le_of_ble_eq_true rfl) ?_
  exact W.iret (v := 0) hx hb hr (fun t ht hW => ⟨⟨0, (), rfl, (rfl), trivial⟩, hS.F ht⟩) hS.2.2 dX9_count_94
set_option maxHeartbeats 4000000 in
set_option maxRecDepth 100000 in
theorem c_9count7 (l : Launch) (dC : Nat → ClassId) (dI : Nat → Nat → Nat) (g : Gv) (sz : Nat) (m0 : Nat) (a : Nat → Nat) (ca : Nat → ClassId)  : Met l yX9_count (.code yX9_count cX9_count 2 (some .int) :: TBL) ({ frames := 3, cells := 0, slots := 0, locals := 180 }) (va_Pc [.ref m0, .int 7] (fun U => U.heap.size = sz ∧ va_P (dC, dI) vwCl [(m0, .inr (8, [.int 0, .int 0, .int 0, .int 0, .ref (a 4), .int 0, .int 0, .int 0, .int 0, .int 0, .int 0, .long 0, .int 0, .int 0, .int 0, .int 0, .int 0, .int 0, .ref (a 18), .ref (a 19), .ref (a 20), .ref (a 21), .ref (a 22), .ref (a 23), .ref (a 24), .ref (a 25), .ref (a 26), .ref (a 27), .ref (a 28), .ref (a 29), .ref (a 30), .ref (a 31), .ref (a 32), .ref (a 33), .ref (a 34), .ref (a 35), .long 0, .int 0, .ref (a 38), .ref (a 39), .int 0, .ref (a 41), .ref (a 42), .ref (a 43)]))] U.heap ∧ va_K (dC, dI) vwCl [] U ∧ va_D (fun _ => True) [(m0, .inr (8, [.int 0, .int 0, .int 0, .int 0, .ref (a 4), .int 0, .int 0, .int 0, .int 0, .int 0, .int 0, .long 0, .int 0, .int 0, .int 0, .int 0, .int 0, .int 0, .ref (a 18), .ref (a 19), .ref (a 20), .ref (a 21), .ref (a 22), .ref (a 23), .ref (a 24), .ref (a 25), .ref (a 26), .ref (a 27), .ref (a 28), .ref (a 29), .ref (a 30), .ref (a 31), .ref (a 32), .ref (a 33), .ref (a 34), .ref (a 35), .long 0, .int 0, .ref (a 38), .ref (a 39), .int 0, .ref (a 41), .ref (a 42), .ref (a 43)]))] ∧ Ev g (va_A [(m0, .inr (8, [.int 0, .int 0, .int 0, .int 0, .ref (a 4), .int 0, .int 0, .int 0, .int 0, .int 0, .int 0, .long 0, .int 0, .int 0, .int 0, .int 0, .int 0, .int 0, .ref (a 18), .ref (a 19), .ref (a 20), .ref (a 21), .ref (a 22), .ref (a 23), .ref (a 24), .ref (a 25), .ref (a 26), .ref (a 27), .ref (a 28), .ref (a 29), .ref (a 30), .ref (a 31), .ref (a 32), .ref (a 33), .ref (a 34), .ref (a 35), .long 0, .int 0, .ref (a 38), .ref (a 39), .int 0, .ref (a 41), .ref (a 42), .ref (a 43)]))] sz) U)) (va_Qi (fun (r : Int32) (u : Unit) => r = 0) (fun (_ : Unit) (_ : State) => True) (va_A [(m0, .inr (8, [.int 0, .int 0, .int 0, .int 0, .ref (a 4), .int 0, .int 0, .int 0, .int 0, .int 0, .int 0, .long 0, .int 0, .int 0, .int 0, .int 0, .int 0, .int 0, .ref (a 18), .ref (a 19), .ref (a 20), .ref (a 21), .ref (a 22), .ref (a 23), .ref (a 24), .ref (a 25), .ref (a 26), .ref (a 27), .ref (a 28), .ref (a 29), .ref (a 30), .ref (a 31), .ref (a 32), .ref (a 33), .ref (a 34), .ref (a 35), .long 0, .int 0, .ref (a 38), .ref (a 39), .int 0, .ref (a 41), .ref (a 42), .ref (a 43)]))] sz)) 0 0 (va_A [(m0, .inr (8, [.int 0, .int 0, .int 0, .int 0, .ref (a 4), .int 0, .int 0, .int 0, .int 0, .int 0, .int 0, .long 0, .int 0, .int 0, .int 0, .int 0, .int 0, .int 0, .ref (a 18), .ref (a 19), .ref (a 20), .ref (a 21), .ref (a 22), .ref (a 23), .ref (a 24), .ref (a 25), .ref (a 26), .ref (a 27), .ref (a 28), .ref (a 29), .ref (a 30), .ref (a 31), .ref (a 32), .ref (a 33), .ref (a 34), .ref (a 35), .long 0, .int 0, .ref (a 38), .ref (a 39), .int 0, .ref (a 41), .ref (a 42), .ref (a 43)]))] sz) := by
  refine Met.ofW (cc := cX9_count) (maxL := 2) (ret := (some .int)) (by decide) rfl ?_
  intro p e s m args below meth c s₁ B hml hv
  obtain ⟨rfl, hsz, hP, hK, hD0, hE⟩ := hv
  have hx := B.exec
  have hb := B.bytes
  have hr := B.returns
  have hts0 := atoms_spec (ws := (.code yX9_count cX9_count 2 (some .int) :: TBL)) B.pre
  have hts := fun (w : Cond) (h : w ∈ TBL) => hts0 w (List.mem_cons_of_mem _ h)
  have hown : s.vm.findClass RX9 = some m.cls := findClass_of_methodNamed B.named
  have hlocks := B.notSynchronized
  have hN := hE.1
  subst hsz
  have hD := hD0.self (sz := s.heap.size)
  generalize hAe : va_A [(m0, .inr (8, [.int 0, .int 0, .int 0, .int 0, .ref (a 4), .int 0, .int 0, .int 0, .int 0, .int 0, .int 0, .long 0, .int 0, .int 0, .int 0, .int 0, .int 0, .int 0, .ref (a 18), .ref (a 19), .ref (a 20), .ref (a 21), .ref (a 22), .ref (a 23), .ref (a 24), .ref (a 25), .ref (a 26), .ref (a 27), .ref (a 28), .ref (a 29), .ref (a 30), .ref (a 31), .ref (a 32), .ref (a 33), .ref (a 34), .ref (a 35), .long 0, .int 0, .ref (a 38), .ref (a 39), .int 0, .ref (a 41), .ref (a 42), .ref (a 43)]))] s.heap.size = A at hD hE ⊢
  have hA : ∀ q : Nat, s.heap.size ≤ q → A q := fun q h => by rw [← hAe]; exact Or.inr h
  have hS : va_S A s.heap s.heap [] := va_S.rf
  have hP : va_P (dC, dI) vwCl [(m0, .inr (8, [.int 0, .int 0, .int 0, .int 0, .ref (a 4), .int 0, .int 0, .int 0, .int 0, .int 0, .int 0, .long 0, .int 0, .int 0, .int 0, .int 0, .int 0, .int 0, .ref (a 18), .ref (a 19), .ref (a 20), .ref (a 21), .ref (a 22), .ref (a 23), .ref (a 24), .ref (a 25), .ref (a 26), .ref (a 27), .ref (a 28), .ref (a 29), .ref (a 30), .ref (a 31), .ref (a 32), .ref (a 33), .ref (a 34), .ref (a 35), .long 0, .int 0, .ref (a 38), .ref (a 39), .int 0, .ref (a 41), .ref (a 42), .ref (a 43)]))] s.heap := hP
  have hl := lv_entry ([.ref m0, .int 7]) (n := 2) (Nat.le_of_ble_eq_true rfl)
  rw [lg_entry_eq]
  generalize (lg_sl ([.ref m0, .int 7]) ++ List.replicate (2 - (lg_sl ([.ref m0, .int 7])).length) Slot.unset).toArray = ls at hl ⊢
  have hl : lv_has ls 2 [(0, .ref m0), (1, .int 7)] := hl
  refine lv_aload_n hx hb dX9_count_0 rfl (lv_at hl 0 rfl) ?_
  refine lv_iconst (v := 0) hx hb dX9_count_1 (by decide) ?_
  refine va_put (D := (dC, dI)) (ci := 8) (v := .int 0) (ty := .int) (C := RX9) (T := TX9) (N := 44) hx hb hts inlX9 tyX9 tyX9_ok nmX9 hown hK hP hD hS 0 rfl rfl 0 (by decide) (hts (.fieldLink RX9 85 "ClosedUntilModel" "thrown" "I") qw_43) (fun _ h9 => h9) rfl (by decide +kernel) rfl rfl (Nat.le_of_ble_eq_true rfl) dX9_count_2 (fun H locs hP hD hS => ?_)
  have hP : va_P (dC, dI) vwCl [(m0, .inr (8, [.int 0, .int 0, .int 0, .int 0, .ref (a 4), .int 0, .int 0, .int 0, .int 0, .int 0, .int 0, .long 0, .int 0, .int 0, .int 0, .int 0, .int 0, .int 0, .ref (a 18), .ref (a 19), .ref (a 20), .ref (a 21), .ref (a 22), .ref (a 23), .ref (a 24), .ref (a 25), .ref (a 26), .ref (a 27), .ref (a 28), .ref (a 29), .ref (a 30), .ref (a 31), .ref (a 32), .ref (a 33), .ref (a 34), .ref (a 35), .long 0, .int 0, .ref (a 38), .ref (a 39), .int 0, .ref (a 41), .ref (a 42), .ref (a 43)]))] H := hP
  have hD : va_D A [(m0, .inr (8, [.int 0, .int 0, .int 0, .int 0, .ref (a 4), .int 0, .int 0, .int 0, .int 0, .int 0, .int 0, .long 0, .int 0, .int 0, .int 0, .int 0, .int 0, .int 0, .ref (a 18), .ref (a 19), .ref (a 20), .ref (a 21), .ref (a 22), .ref (a 23), .ref (a 24), .ref (a 25), .ref (a 26), .ref (a 27), .ref (a 28), .ref (a 29), .ref (a 30), .ref (a 31), .ref (a 32), .ref (a 33), .ref (a 34), .ref (a 35), .long 0, .int 0, .ref (a 38), .ref (a 39), .int 0, .ref (a 41), .ref (a 42), .ref (a 43)]))] := hD
  refine lv_iload_n hx hb dX9_count_5 rfl (lv_at hl 1 rfl) ?_
  refine lv_tableIn (tgt := 95) hx hb dX9_count_6 (by decide) (by decide) rfl (by decide) ?_
  refine lv_aload_n hx hb dX9_count_95 rfl (lv_at hl 0 rfl) ?_
  refine va_get (D := (dC, dI)) (ci := 8) (v := .int 0) (C := RX9) (T := TX9) (N := 44) hx hb hts inlX9 hown hK hP 0 rfl rfl 5 (by decide) (hts (.fieldLink RX9 142 "ClosedUntilModel" "taped" "I") qw_365) (fun _ h9 => h9) rfl dX9_count_96 ?_
  refine W.widen (k := 0) (n := 0) (Nat.le_of_ble_eq_true rfl) (Nat.le_of_ble_eq_true rfl) ?_
  exact W.iret (v := 0) hx hb hr (fun t ht hW => ⟨⟨0, (), rfl, (rfl), trivial⟩, hS.F ht⟩) hS.2.2 dX9_count_99
set_option maxHeartbeats 4000000 in
set_option maxRecDepth 100000 in
theorem c_9countO (l : Launch) (dC : Nat → ClassId) (dI : Nat → Nat → Nat) (g : Gv) (sz : Nat) (m0 : Nat) (a : Nat → Nat) (ca : Nat → ClassId) (wh : Int32) (hw : ¬ (0 ≤ wh.toInt ∧ wh.toInt ≤ 7)) : Met l yX9_count (.code yX9_count cX9_count 2 (some .int) :: TBL) ({ frames := 3, cells := 0, slots := 0, locals := 180 }) (va_Pc [.ref m0, .int wh] (fun U => U.heap.size = sz ∧ va_P (dC, dI) vwCl [(m0, .inr (8, [.int 0, .int 0, .int 0, .int 0, .ref (a 4), .int 0, .int 0, .int 0, .int 0, .int 0, .int 0, .long 0, .int 0, .int 0, .int 0, .int 0, .int 0, .int 0, .ref (a 18), .ref (a 19), .ref (a 20), .ref (a 21), .ref (a 22), .ref (a 23), .ref (a 24), .ref (a 25), .ref (a 26), .ref (a 27), .ref (a 28), .ref (a 29), .ref (a 30), .ref (a 31), .ref (a 32), .ref (a 33), .ref (a 34), .ref (a 35), .long 0, .int 0, .ref (a 38), .ref (a 39), .int 0, .ref (a 41), .ref (a 42), .ref (a 43)]))] U.heap ∧ va_K (dC, dI) vwCl [] U ∧ va_D (fun _ => True) [(m0, .inr (8, [.int 0, .int 0, .int 0, .int 0, .ref (a 4), .int 0, .int 0, .int 0, .int 0, .int 0, .int 0, .long 0, .int 0, .int 0, .int 0, .int 0, .int 0, .int 0, .ref (a 18), .ref (a 19), .ref (a 20), .ref (a 21), .ref (a 22), .ref (a 23), .ref (a 24), .ref (a 25), .ref (a 26), .ref (a 27), .ref (a 28), .ref (a 29), .ref (a 30), .ref (a 31), .ref (a 32), .ref (a 33), .ref (a 34), .ref (a 35), .long 0, .int 0, .ref (a 38), .ref (a 39), .int 0, .ref (a 41), .ref (a 42), .ref (a 43)]))] ∧ Ev g (va_A [(m0, .inr (8, [.int 0, .int 0, .int 0, .int 0, .ref (a 4), .int 0, .int 0, .int 0, .int 0, .int 0, .int 0, .long 0, .int 0, .int 0, .int 0, .int 0, .int 0, .int 0, .ref (a 18), .ref (a 19), .ref (a 20), .ref (a 21), .ref (a 22), .ref (a 23), .ref (a 24), .ref (a 25), .ref (a 26), .ref (a 27), .ref (a 28), .ref (a 29), .ref (a 30), .ref (a 31), .ref (a 32), .ref (a 33), .ref (a 34), .ref (a 35), .long 0, .int 0, .ref (a 38), .ref (a 39), .int 0, .ref (a 41), .ref (a 42), .ref (a 43)]))] sz) U)) (va_Qi (fun (r : Int32) (u : Unit) => r = (-1)) (fun (_ : Unit) (_ : State) => True) (va_A [(m0, .inr (8, [.int 0, .int 0, .int 0, .int 0, .ref (a 4), .int 0, .int 0, .int 0, .int 0, .int 0, .int 0, .long 0, .int 0, .int 0, .int 0, .int 0, .int 0, .int 0, .ref (a 18), .ref (a 19), .ref (a 20), .ref (a 21), .ref (a 22), .ref (a 23), .ref (a 24), .ref (a 25), .ref (a 26), .ref (a 27), .ref (a 28), .ref (a 29), .ref (a 30), .ref (a 31), .ref (a 32), .ref (a 33), .ref (a 34), .ref (a 35), .long 0, .int 0, .ref (a 38), .ref (a 39), .int 0, .ref (a 41), .ref (a 42), .ref (a 43)]))] sz)) 0 0 (va_A [(m0, .inr (8, [.int 0, .int 0, .int 0, .int 0, .ref (a 4), .int 0, .int 0, .int 0, .int 0, .int 0, .int 0, .long 0, .int 0, .int 0, .int 0, .int 0, .int 0, .int 0, .ref (a 18), .ref (a 19), .ref (a 20), .ref (a 21), .ref (a 22), .ref (a 23), .ref (a 24), .ref (a 25), .ref (a 26), .ref (a 27), .ref (a 28), .ref (a 29), .ref (a 30), .ref (a 31), .ref (a 32), .ref (a 33), .ref (a 34), .ref (a 35), .long 0, .int 0, .ref (a 38), .ref (a 39), .int 0, .ref (a 41), .ref (a 42), .ref (a 43)]))] sz) := by
  refine Met.ofW (cc := cX9_count) (maxL := 2) (ret := (some .int)) (by decide) rfl ?_
  intro p e s m args below meth c s₁ B hml hv
  obtain ⟨rfl, hsz, hP, hK, hD0, hE⟩ := hv
  have hx := B.exec
  have hb := B.bytes
  have hr := B.returns
  have hts0 := atoms_spec (ws := (.code yX9_count cX9_count 2 (some .int) :: TBL)) B.pre
  have hts := fun (w : Cond) (h : w ∈ TBL) => hts0 w (List.mem_cons_of_mem _ h)
  have hown : s.vm.findClass RX9 = some m.cls := findClass_of_methodNamed B.named
  have hlocks := B.notSynchronized
  have hN := hE.1
  subst hsz
  have hD := hD0.self (sz := s.heap.size)
  generalize hAe : va_A [(m0, .inr (8, [.int 0, .int 0, .int 0, .int 0, .ref (a 4), .int 0, .int 0, .int 0, .int 0, .int 0, .int 0, .long 0, .int 0, .int 0, .int 0, .int 0, .int 0, .int 0, .ref (a 18), .ref (a 19), .ref (a 20), .ref (a 21), .ref (a 22), .ref (a 23), .ref (a 24), .ref (a 25), .ref (a 26), .ref (a 27), .ref (a 28), .ref (a 29), .ref (a 30), .ref (a 31), .ref (a 32), .ref (a 33), .ref (a 34), .ref (a 35), .long 0, .int 0, .ref (a 38), .ref (a 39), .int 0, .ref (a 41), .ref (a 42), .ref (a 43)]))] s.heap.size = A at hD hE ⊢
  have hA : ∀ q : Nat, s.heap.size ≤ q → A q := fun q h => by rw [← hAe]; exact Or.inr h
  have hS : va_S A s.heap s.heap [] := va_S.rf
  have hP : va_P (dC, dI) vwCl [(m0, .inr (8, [.int 0, .int 0, .int 0, .int 0, .ref (a 4), .int 0, .int 0, .int 0, .int 0, .int 0, .int 0, .long 0, .int 0, .int 0, .int 0, .int 0, .int 0, .int 0, .ref (a 18), .ref (a 19), .ref (a 20), .ref (a 21), .ref (a 22), .ref (a 23), .ref (a 24), .ref (a 25), .ref (a 26), .ref (a 27), .ref (a 28), .ref (a 29), .ref (a 30), .ref (a 31), .ref (a 32), .ref (a 33), .ref (a 34), .ref (a 35), .long 0, .int 0, .ref (a 38), .ref (a 39), .int 0, .ref (a 41), .ref (a 42), .ref (a 43)]))] s.heap := hP
  have hl := lv_entry ([.ref m0, .int wh]) (n := 2) (Nat.le_of_ble_eq_true rfl)
  rw [lg_entry_eq]
  generalize (lg_sl ([.ref m0, .int wh]) ++ List.replicate (2 - (lg_sl ([.ref m0, .int wh])).length) Slot.unset).toArray = ls at hl ⊢
  have hl : lv_has ls 2 [(0, .ref m0), (1, .int wh)] := hl
  refine lv_aload_n hx hb dX9_count_0 rfl (lv_at hl 0 rfl) ?_
  refine lv_iconst (v := 0) hx hb dX9_count_1 (by decide) ?_
  refine va_put (D := (dC, dI)) (ci := 8) (v := .int 0) (ty := .int) (C := RX9) (T := TX9) (N := 44) hx hb hts inlX9 tyX9 tyX9_ok nmX9 hown hK hP hD hS 0 rfl rfl 0 (by decide) (hts (.fieldLink RX9 85 "ClosedUntilModel" "thrown" "I") qw_43) (fun _ h9 => h9) rfl (by decide +kernel) rfl rfl (Nat.le_of_ble_eq_true rfl) dX9_count_2 (fun H locs hP hD hS => ?_)
  have hP : va_P (dC, dI) vwCl [(m0, .inr (8, [.int 0, .int 0, .int 0, .int 0, .ref (a 4), .int 0, .int 0, .int 0, .int 0, .int 0, .int 0, .long 0, .int 0, .int 0, .int 0, .int 0, .int 0, .int 0, .ref (a 18), .ref (a 19), .ref (a 20), .ref (a 21), .ref (a 22), .ref (a 23), .ref (a 24), .ref (a 25), .ref (a 26), .ref (a 27), .ref (a 28), .ref (a 29), .ref (a 30), .ref (a 31), .ref (a 32), .ref (a 33), .ref (a 34), .ref (a 35), .long 0, .int 0, .ref (a 38), .ref (a 39), .int 0, .ref (a 41), .ref (a 42), .ref (a 43)]))] H := hP
  have hD : va_D A [(m0, .inr (8, [.int 0, .int 0, .int 0, .int 0, .ref (a 4), .int 0, .int 0, .int 0, .int 0, .int 0, .int 0, .long 0, .int 0, .int 0, .int 0, .int 0, .int 0, .int 0, .ref (a 18), .ref (a 19), .ref (a 20), .ref (a 21), .ref (a 22), .ref (a 23), .ref (a 24), .ref (a 25), .ref (a 26), .ref (a 27), .ref (a 28), .ref (a 29), .ref (a 30), .ref (a 31), .ref (a 32), .ref (a 33), .ref (a 34), .ref (a 35), .long 0, .int 0, .ref (a 38), .ref (a 39), .int 0, .ref (a 41), .ref (a 42), .ref (a 43)]))] := hD
  refine lv_iload_n hx hb dX9_count_5 rfl (lv_at hl 1 rfl) ?_
  refine lv_tableOut (tgt := 100) hx hb dX9_count_6 (by omega) (by decide) ?_
  refine lv_iconst (v := (-1)) hx hb dX9_count_100 (by decide) ?_
  refine W.widen (k := 0) (n := 0) (Nat.le_of_ble_eq_true rfl) (Nat.le_of_ble_eq_true rfl) ?_
  exact W.iret (v := (-1)) hx hb hr (fun t ht hW => ⟨⟨(-1), (), rfl, (rfl), trivial⟩, hS.F ht⟩) hS.2.2 dX9_count_101
