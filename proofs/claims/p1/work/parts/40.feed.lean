theorem dX4_hasRoom_0 : decode cX4_hasRoom 0 = .ok (.aload_n 0, 1) := by decide +kernel
theorem dX4_hasRoom_1 : decode cX4_hasRoom 1 = .ok (.getfield 15, 3) := by decide +kernel
theorem dX4_hasRoom_4 : decode cX4_hasRoom 4 = .ok (.bipush 20, 2) := by decide +kernel
theorem dX4_hasRoom_6 : decode cX4_hasRoom 6 = .ok (.iadd, 1) := by decide +kernel
theorem dX4_hasRoom_7 : decode cX4_hasRoom 7 = .ok (.aload_n 0, 1) := by decide +kernel
theorem dX4_hasRoom_8 : decode cX4_hasRoom 8 = .ok (.getfield 9, 3) := by decide +kernel
theorem dX4_hasRoom_11 : decode cX4_hasRoom 11 = .ok (.arraylength, 1) := by decide +kernel
theorem dX4_hasRoom_12 : decode cX4_hasRoom 12 = .ok (.if_icmp .gt 7, 3) := by decide +kernel
theorem dX4_hasRoom_15 : decode cX4_hasRoom 15 = .ok (.iconst 1, 1) := by decide +kernel
theorem dX4_hasRoom_16 : decode cX4_hasRoom 16 = .ok (.goto 4, 3) := by decide +kernel
theorem dX4_hasRoom_19 : decode cX4_hasRoom 19 = .ok (.iconst 0, 1) := by decide +kernel
theorem dX4_hasRoom_20 : decode cX4_hasRoom 20 = .ok (.ireturn, 1) := by decide +kernel
theorem dX4_append_0 : decode cX4_append 0 = .ok (.bipush 24, 2) := by decide +kernel
theorem dX4_append_2 : decode cX4_append 2 = .ok (.istore_n 2, 1) := by decide +kernel
theorem dX4_append_3 : decode cX4_append 3 = .ok (.iload_n 2, 1) := by decide +kernel
theorem dX4_append_4 : decode cX4_append 4 = .ok (.ifCond .lt 44, 3) := by decide +kernel
theorem dX4_append_7 : decode cX4_append 7 = .ok (.aload_n 0, 1) := by decide +kernel
theorem dX4_append_8 : decode cX4_append 8 = .ok (.getfield 15, 3) := by decide +kernel
theorem dX4_append_11 : decode cX4_append 11 = .ok (.aload_n 0, 1) := by decide +kernel
theorem dX4_append_12 : decode cX4_append 12 = .ok (.getfield 9, 3) := by decide +kernel
theorem dX4_append_15 : decode cX4_append 15 = .ok (.arraylength, 1) := by decide +kernel
theorem dX4_append_16 : decode cX4_append 16 = .ok (.if_icmp .ge 32, 3) := by decide +kernel
theorem dX4_append_19 : decode cX4_append 19 = .ok (.aload_n 0, 1) := by decide +kernel
theorem dX4_append_20 : decode cX4_append 20 = .ok (.getfield 9, 3) := by decide +kernel
theorem dX4_append_23 : decode cX4_append 23 = .ok (.aload_n 0, 1) := by decide +kernel
theorem dX4_append_24 : decode cX4_append 24 = .ok (.getfield 15, 3) := by decide +kernel
theorem dX4_append_27 : decode cX4_append 27 = .ok (.iload_n 1, 1) := by decide +kernel
theorem dX4_append_28 : decode cX4_append 28 = .ok (.iload_n 2, 1) := by decide +kernel
theorem dX4_append_29 : decode cX4_append 29 = .ok (.iushr, 1) := by decide +kernel
theorem dX4_append_30 : decode cX4_append 30 = .ok (.i2b, 1) := by decide +kernel
theorem dX4_append_31 : decode cX4_append 31 = .ok (.bastore, 1) := by decide +kernel
theorem dX4_append_32 : decode cX4_append 32 = .ok (.aload_n 0, 1) := by decide +kernel
theorem dX4_append_33 : decode cX4_append 33 = .ok (.dup, 1) := by decide +kernel
theorem dX4_append_34 : decode cX4_append 34 = .ok (.getfield 15, 3) := by decide +kernel
theorem dX4_append_37 : decode cX4_append 37 = .ok (.iconst 1, 1) := by decide +kernel
theorem dX4_append_38 : decode cX4_append 38 = .ok (.iadd, 1) := by decide +kernel
theorem dX4_append_39 : decode cX4_append 39 = .ok (.putfield 15, 3) := by decide +kernel
theorem dX4_append_42 : decode cX4_append 42 = .ok (.iinc 2 (-8), 3) := by decide +kernel
theorem dX4_append_45 : decode cX4_append 45 = .ok (.goto (-42), 3) := by decide +kernel
theorem dX4_append_48 : decode cX4_append 48 = .ok (.return_, 1) := by decide +kernel
theorem dX8_feed_0 : decode cX8_feed 0 = .ok (.aload_n 0, 1) := by decide +kernel
theorem dX8_feed_1 : decode cX8_feed 1 = .ok (.getfield 10, 3) := by decide +kernel
theorem dX8_feed_4 : decode cX8_feed 4 = .ok (.invokevirtual 69, 3) := by decide +kernel
theorem dX8_feed_7 : decode cX8_feed 7 = .ok (.ifCond .ne 5, 3) := by decide +kernel
theorem dX8_feed_10 : decode cX8_feed 10 = .ok (.iconst (-1), 1) := by decide +kernel
theorem dX8_feed_11 : decode cX8_feed 11 = .ok (.ireturn, 1) := by decide +kernel
theorem dX8_feed_12 : decode cX8_feed 12 = .ok (.aload_n 0, 1) := by decide +kernel
theorem dX8_feed_13 : decode cX8_feed 13 = .ok (.getfield 10, 3) := by decide +kernel
theorem dX8_feed_16 : decode cX8_feed 16 = .ok (.iload_n 1, 1) := by decide +kernel
theorem dX8_feed_17 : decode cX8_feed 17 = .ok (.invokevirtual 73, 3) := by decide +kernel
theorem dX8_feed_20 : decode cX8_feed 20 = .ok (.aload_n 0, 1) := by decide +kernel
theorem dX8_feed_21 : decode cX8_feed 21 = .ok (.getfield 10, 3) := by decide +kernel
theorem dX8_feed_24 : decode cX8_feed 24 = .ok (.iload_n 2, 1) := by decide +kernel
theorem dX8_feed_25 : decode cX8_feed 25 = .ok (.invokevirtual 73, 3) := by decide +kernel
theorem dX8_feed_28 : decode cX8_feed 28 = .ok (.aload_n 0, 1) := by decide +kernel
theorem dX8_feed_29 : decode cX8_feed 29 = .ok (.getfield 10, 3) := by decide +kernel
theorem dX8_feed_32 : decode cX8_feed 32 = .ok (.iload_n 3, 1) := by decide +kernel
theorem dX8_feed_33 : decode cX8_feed 33 = .ok (.invokevirtual 73, 3) := by decide +kernel
theorem dX8_feed_36 : decode cX8_feed 36 = .ok (.aload_n 0, 1) := by decide +kernel
theorem dX8_feed_37 : decode cX8_feed 37 = .ok (.getfield 10, 3) := by decide +kernel
theorem dX8_feed_40 : decode cX8_feed 40 = .ok (.iload 4, 2) := by decide +kernel
theorem dX8_feed_42 : decode cX8_feed 42 = .ok (.invokevirtual 73, 3) := by decide +kernel
theorem dX8_feed_45 : decode cX8_feed 45 = .ok (.aload_n 0, 1) := by decide +kernel
theorem dX8_feed_46 : decode cX8_feed 46 = .ok (.getfield 10, 3) := by decide +kernel
theorem dX8_feed_49 : decode cX8_feed 49 = .ok (.iload 5, 2) := by decide +kernel
theorem dX8_feed_51 : decode cX8_feed 51 = .ok (.invokevirtual 73, 3) := by decide +kernel
theorem dX8_feed_54 : decode cX8_feed 54 = .ok (.aload_n 0, 1) := by decide +kernel
theorem dX8_feed_55 : decode cX8_feed 55 = .ok (.getfield 10, 3) := by decide +kernel
theorem dX8_feed_58 : decode cX8_feed 58 = .ok (.getfield 77, 3) := by decide +kernel
theorem dX8_feed_61 : decode cX8_feed 61 = .ok (.ireturn, 1) := by decide +kernel
theorem qw_289 : (Cond.fieldLink RX4 15 "ClosedUntil$Tape" "length" "I" : Cond) ∈ TBL := List.mem_of_getElem? (i := 197) (by decide +kernel)
theorem qw_290 : (Cond.code yX4_hasRoom cX4_hasRoom 1 (some .boolean) : Cond) ∈ TBL := List.mem_of_getElem? (i := 196) (by decide +kernel)
theorem qw_291 : (Cond.instanceMethod yX4_hasRoom : Cond) ∈ TBL := List.mem_of_getElem? (i := 194) (by decide +kernel)
theorem qw_292 : (Cond.selects RX4 yX4_hasRoom yX4_hasRoom : Cond) ∈ TBL := List.mem_of_getElem? (i := 195) (by decide +kernel)
theorem qw_293 : (Cond.code yX4_append cX4_append 3 none : Cond) ∈ TBL := List.mem_of_getElem? (i := 200) (by decide +kernel)
theorem qw_294 : (Cond.instanceMethod yX4_append : Cond) ∈ TBL := List.mem_of_getElem? (i := 198) (by decide +kernel)
theorem qw_295 : (Cond.selects RX4 yX4_append yX4_append : Cond) ∈ TBL := List.mem_of_getElem? (i := 199) (by decide +kernel)
set_option maxHeartbeats 4000000 in
set_option maxRecDepth 100000 in
theorem c_hr (l : Launch) (dC : Nat → ClassId) (dI : Nat → Nat → Nat) (g : Gv) (h0 : Nat) (f4 : Nat → Nat) (c4 : ClassId)  : Met l yX4_hasRoom (.code yX4_hasRoom cX4_hasRoom 1 (some .boolean) :: TBL) ({ frames := 0, cells := 0, slots := 0, locals := 0 }) (va_Pc [.ref h0] (fun U => va_P (dC, dI) vwCl [(h0, .inr (3, [.ref (f4 0), .int 0])), ((f4 0), .inl (c4, 1000, .inl (fun _ => 0)))] U.heap ∧ va_K (dC, dI) vwCl [(c4, .byte)] U ∧ Ev g (fun _ => False) U)) (vp_Si (fun r => r = 1)) 0 0 (fun _ => False) := by
  refine Met.ofW (cc := cX4_hasRoom) (maxL := 1) (ret := (some .boolean)) (by decide) rfl ?_
  intro p e s m args below meth c s₁ B hml hv
  obtain ⟨rfl, hP, hK, hE⟩ := hv
  have hx := B.exec
  have hb := B.bytes
  have hr := B.returns
  have hts0 := atoms_spec (ws := (.code yX4_hasRoom cX4_hasRoom 1 (some .boolean) :: TBL)) B.pre
  have hts := fun (w : Cond) (h : w ∈ TBL) => hts0 w (List.mem_cons_of_mem _ h)
  have hown : s.vm.findClass RX4 = some m.cls := findClass_of_methodNamed B.named
  have hlocks := B.notSynchronized
  have hN := hE.1
  have hS : va_S (fun _ => False) s.heap s.heap [] := va_S.rf
  have hP : va_P (dC, dI) vwCl [(h0, .inr (3, [.ref (f4 0), .int 0])), ((f4 0), .inl (c4, 1000, .inl (fun _ => 0)))] s.heap := hP
  have hl := lv_entry ([.ref h0]) (n := 1) (Nat.le_of_ble_eq_true rfl)
  rw [lg_entry_eq]
  generalize (lg_sl ([.ref h0]) ++ List.replicate (1 - (lg_sl ([.ref h0])).length) Slot.unset).toArray = ls at hl ⊢
  have hl : lv_has ls 1 [(0, .ref h0)] := hl
  refine lv_aload_n hx hb dX4_hasRoom_0 rfl (lv_at hl 0 rfl) ?_
  refine va_get (D := (dC, dI)) (ci := 3) (v := .int 0) (C := RX4) (T := TX4) (N := 2) hx hb hts inlX4 hown hK hP 0 rfl rfl 1 (by decide) (hts (.fieldLink RX4 15 "ClosedUntil$Tape" "length" "I") qw_289) (fun _ h9 => h9) rfl dX4_hasRoom_1 ?_
  refine lv_bipush (v := 20) hx hb dX4_hasRoom_4 (by decide) ?_
  refine lv_iadd hx hb dX4_hasRoom_6 ?_
  refine cst (v := 20) (by decide) ?_
  refine lv_aload_n hx hb dX4_hasRoom_7 rfl (lv_at hl 0 rfl) ?_
  refine va_get (D := (dC, dI)) (ci := 3) (v := .ref (f4 0)) (C := RX4) (T := TX4) (N := 2) hx hb hts inlX4 hown hK hP 0 rfl rfl 0 (by decide) (hts (.fieldLink RX4 9 "ClosedUntil$Tape" "bytes" "[B") qw_104) (fun _ h9 => h9) rfl dX4_hasRoom_8 ?_
  refine va_alen hx hb hK hP 1 0 rfl rfl (v := 1000) (show Int32.ofNat 1000 = 1000 from by decide) dX4_hasRoom_11 ?_
  refine lv_icmp_gt (tgt := 19) hx hb dX4_hasRoom_12 (by decide) (fun c12_1 => by exfalso; exact absurd c12_1 (by decide)) (fun c12_1 => ?_)
  refine lv_iconst (v := 1) hx hb dX4_hasRoom_15 (by decide) ?_
  refine lv_goto (tgt := 20) hx hb dX4_hasRoom_16 (by decide) ?_
  exact W.zret (v := 1) hx hb hr rfl (fun t ht hW => ⟨1, rfl, (rfl), ht⟩) (fun _ h => absurd h List.not_mem_nil) dX4_hasRoom_20
set_option maxHeartbeats 4000000 in
set_option maxRecDepth 100000 in
theorem c_ap0 (l : Launch) (dC : Nat → ClassId) (dI : Nat → Nat → Nat) (g : Gv) (sz : Nat) (h0 : Nat) (f4 : Nat → Nat) (c4 : ClassId) (bf : Nat → Int32) (vv : Int32)  : Met l yX4_append (.code yX4_append cX4_append 3 none :: TBL) ({ frames := 0, cells := 0, slots := 0, locals := 0 }) (va_Pc [.ref h0, .int vv] (fun U => U.heap.size = sz ∧ va_P (dC, dI) vwCl [(h0, .inr (3, [.ref (f4 0), .int 0])), ((f4 0), .inl (c4, 1000, .inl bf))] U.heap ∧ va_K (dC, dI) vwCl [(c4, .byte)] U ∧ va_D (fun _ => True) [(h0, .inr (3, [.ref (f4 0), .int 0])), ((f4 0), .inl (c4, 1000, .inl bf))] ∧ Ev g (va_A [(h0, .inr (3, [.ref (f4 0), .int 0])), ((f4 0), .inl (c4, 1000, .inl bf))] sz) U)) (va_Qv (fun (u : (Nat → Int32)) => True) (fun (u : (Nat → Int32)) (t : State) => va_P (dC, dI) vwCl [(h0, .inr (3, [.ref (f4 0), .int 4])), ((f4 0), .inl (c4, 1000, .inl u))] t.heap ∧ va_K (dC, dI) vwCl [] t ∧ va_D (va_A [(h0, .inr (3, [.ref (f4 0), .int 0])), ((f4 0), .inl (c4, 1000, .inl bf))] sz) [(h0, .inr (3, [.ref (f4 0), .int 4])), ((f4 0), .inl (c4, 1000, .inl u))]) (va_A [(h0, .inr (3, [.ref (f4 0), .int 0])), ((f4 0), .inl (c4, 1000, .inl bf))] sz)) 0 0 (va_A [(h0, .inr (3, [.ref (f4 0), .int 0])), ((f4 0), .inl (c4, 1000, .inl bf))] sz) := by
  refine Met.ofW (cc := cX4_append) (maxL := 3) (ret := none) (by decide) rfl ?_
  intro p e s m args below meth c s₁ B hml hv
  obtain ⟨rfl, hsz, hP, hK, hD0, hE⟩ := hv
  have hx := B.exec
  have hb := B.bytes
  have hr := B.returns
  have hts0 := atoms_spec (ws := (.code yX4_append cX4_append 3 none :: TBL)) B.pre
  have hts := fun (w : Cond) (h : w ∈ TBL) => hts0 w (List.mem_cons_of_mem _ h)
  have hown : s.vm.findClass RX4 = some m.cls := findClass_of_methodNamed B.named
  have hlocks := B.notSynchronized
  have hN := hE.1
  subst hsz
  have hD := hD0.self (sz := s.heap.size)
  generalize hAe : va_A [(h0, .inr (3, [.ref (f4 0), .int 0])), ((f4 0), .inl (c4, 1000, .inl bf))] s.heap.size = A at hD hE ⊢
  have hA : ∀ q : Nat, s.heap.size ≤ q → A q := fun q h => by rw [← hAe]; exact Or.inr h
  have hS : va_S A s.heap s.heap [] := va_S.rf
  have hP : va_P (dC, dI) vwCl [(h0, .inr (3, [.ref (f4 0), .int 0])), ((f4 0), .inl (c4, 1000, .inl bf))] s.heap := hP
  have hl := lv_entry ([.ref h0, .int vv]) (n := 3) (Nat.le_of_ble_eq_true rfl)
  rw [lg_entry_eq]
  generalize (lg_sl ([.ref h0, .int vv]) ++ List.replicate (3 - (lg_sl ([.ref h0, .int vv])).length) Slot.unset).toArray = ls at hl ⊢
  have hl : lv_has ls 3 [(0, .ref h0), (1, .int vv)] := hl
  refine lv_bipush (v := 24) hx hb dX4_append_0 (by decide) ?_
  refine lv_istore_n (lv' := [(2, .int 24), (0, .ref h0), (1, .int vv)]) hx hb dX4_append_2 rfl hl (by decide) rfl (fun ls hl => ?_)
  refine lv_iload_n hx hb dX4_append_3 rfl (lv_at hl 0 rfl) ?_
  refine lv_if_lt (tgt := 48) hx hb dX4_append_4 (by decide) (fun c4_1 => by exfalso; exact absurd c4_1 (by decide)) (fun c4_1 => ?_)
  refine lv_aload_n hx hb dX4_append_7 rfl (lv_at hl 1 rfl) ?_
  refine va_get (D := (dC, dI)) (ci := 3) (v := .int 0) (C := RX4) (T := TX4) (N := 2) hx hb hts inlX4 hown hK hP 0 rfl rfl 1 (by decide) (hts (.fieldLink RX4 15 "ClosedUntil$Tape" "length" "I") qw_289) (fun _ h9 => h9) rfl dX4_append_8 ?_
  refine lv_aload_n hx hb dX4_append_11 rfl (lv_at hl 1 rfl) ?_
  refine va_get (D := (dC, dI)) (ci := 3) (v := .ref (f4 0)) (C := RX4) (T := TX4) (N := 2) hx hb hts inlX4 hown hK hP 0 rfl rfl 0 (by decide) (hts (.fieldLink RX4 9 "ClosedUntil$Tape" "bytes" "[B") qw_104) (fun _ h9 => h9) rfl dX4_append_12 ?_
  refine va_alen hx hb hK hP 1 0 rfl rfl (v := 1000) (show Int32.ofNat 1000 = 1000 from by decide) dX4_append_15 ?_
  refine lv_icmp_ge (tgt := 48) hx hb dX4_append_16 (by decide) (fun c16_2 => by exfalso; exact absurd c16_2 (by decide)) (fun c16_2 => ?_)
  refine lv_aload_n hx hb dX4_append_19 rfl (lv_at hl 1 rfl) ?_
  refine va_get (D := (dC, dI)) (ci := 3) (v := .ref (f4 0)) (C := RX4) (T := TX4) (N := 2) hx hb hts inlX4 hown hK hP 0 rfl rfl 0 (by decide) (hts (.fieldLink RX4 9 "ClosedUntil$Tape" "bytes" "[B") qw_104) (fun _ h9 => h9) rfl dX4_append_20 ?_
  refine lv_aload_n hx hb dX4_append_23 rfl (lv_at hl 1 rfl) ?_
  refine va_get (D := (dC, dI)) (ci := 3) (v := .int 0) (C := RX4) (T := TX4) (N := 2) hx hb hts inlX4 hown hK hP 0 rfl rfl 1 (by decide) (hts (.fieldLink RX4 15 "ClosedUntil$Tape" "length" "I") qw_289) (fun _ h9 => h9) rfl dX4_append_24 ?_
  refine lv_iload_n hx hb dX4_append_27 rfl (lv_at hl 2 rfl) ?_
  refine lv_iload_n hx hb dX4_append_28 rfl (lv_at hl 0 rfl) ?_
  refine lv_iushr hx hb dX4_append_29 rfl ?_
  refine lv_topi (fun x3 e_x3 => ?_)
  refine lv_i2b hx hb dX4_append_30 rfl ?_
  refine lv_topi (fun x4 e_x4 => ?_)
  refine va_bast hx hb hK hP hD hS 1 0 rfl rfl (vin0 (by decide)) dX4_append_31 (fun H locs hP hD hS => ?_)
  have hP : va_P (dC, dI) vwCl [(h0, .inr (3, [.ref (f4 0), .int 0])), ((f4 0), .inl (c4, 1000, .inl (upd bf (0 : Int32).toNatClampNeg (vp_nar .byte x4))))] H := hP
  have hD : va_D A [(h0, .inr (3, [.ref (f4 0), .int 0])), ((f4 0), .inl (c4, 1000, .inl (upd bf (0 : Int32).toNatClampNeg (vp_nar .byte x4))))] := hD
  refine lv_aload_n hx hb dX4_append_32 rfl (lv_at hl 1 rfl) ?_
  refine lv_dup hx hb dX4_append_33 rfl ?_
  refine va_get (D := (dC, dI)) (ci := 3) (v := .int 0) (C := RX4) (T := TX4) (N := 2) hx hb hts inlX4 hown hK hP 0 rfl rfl 1 (by decide) (hts (.fieldLink RX4 15 "ClosedUntil$Tape" "length" "I") qw_289) (fun _ h9 => h9) rfl dX4_append_34 ?_
  refine lv_iconst (v := 1) hx hb dX4_append_37 (by decide) ?_
  refine lv_iadd hx hb dX4_append_38 ?_
  refine cst (v := 1) (by decide) ?_
  refine va_put (D := (dC, dI)) (ci := 3) (v := .int 1) (ty := .int) (C := RX4) (T := TX4) (N := 2) hx hb hts inlX4 tyX4 tyX4_ok nmX4 hown hK hP hD hS 0 rfl rfl 1 (by decide) (hts (.fieldLink RX4 15 "ClosedUntil$Tape" "length" "I") qw_289) (fun _ h9 => h9) rfl (by decide +kernel) rfl rfl (Nat.le_of_ble_eq_true rfl) dX4_append_39 (fun H locs hP hD hS => ?_)
  have hP : va_P (dC, dI) vwCl [(h0, .inr (3, [.ref (f4 0), .int 1])), ((f4 0), .inl (c4, 1000, .inl (upd bf (0 : Int32).toNatClampNeg (vp_nar .byte x4))))] H := hP
  have hD : va_D A [(h0, .inr (3, [.ref (f4 0), .int 1])), ((f4 0), .inl (c4, 1000, .inl (upd bf (0 : Int32).toNatClampNeg (vp_nar .byte x4))))] := hD
  refine lv_iinc (v := 16) (lv' := [(2, .int 16), (0, .ref h0), (1, .int vv)]) hx hb dX4_append_42 hl (k := 0) rfl (by decide) (by decide) rfl (fun ls hl => ?_)
  refine lv_goto (tgt := 3) hx hb dX4_append_45 (by decide) ?_
  refine lv_iload_n hx hb dX4_append_3 rfl (lv_at hl 0 rfl) ?_
  refine lv_if_lt (tgt := 48) hx hb dX4_append_4 (by decide) (fun c4_5 => by exfalso; exact absurd c4_5 (by decide)) (fun c4_5 => ?_)
  refine lv_aload_n hx hb dX4_append_7 rfl (lv_at hl 1 rfl) ?_
  refine va_get (D := (dC, dI)) (ci := 3) (v := .int 1) (C := RX4) (T := TX4) (N := 2) hx hb hts inlX4 hown hK hP 0 rfl rfl 1 (by decide) (hts (.fieldLink RX4 15 "ClosedUntil$Tape" "length" "I") qw_289) (fun _ h9 => h9) rfl dX4_append_8 ?_
  refine lv_aload_n hx hb dX4_append_11 rfl (lv_at hl 1 rfl) ?_
  refine va_get (D := (dC, dI)) (ci := 3) (v := .ref (f4 0)) (C := RX4) (T := TX4) (N := 2) hx hb hts inlX4 hown hK hP 0 rfl rfl 0 (by decide) (hts (.fieldLink RX4 9 "ClosedUntil$Tape" "bytes" "[B") qw_104) (fun _ h9 => h9) rfl dX4_append_12 ?_
  refine va_alen hx hb hK hP 1 0 rfl rfl (v := 1000) (show Int32.ofNat 1000 = 1000 from by decide) dX4_append_15 ?_
  refine lv_icmp_ge (tgt := 48) hx hb dX4_append_16 (by decide) (fun c16_6 => by exfalso; exact absurd c16_6 (by decide)) (fun c16_6 => ?_)
  refine lv_aload_n hx hb dX4_append_19 rfl (lv_at hl 1 rfl) ?_
  refine va_get (D := (dC, dI)) (ci := 3) (v := .ref (f4 0)) (C := RX4) (T := TX4) (N := 2) hx hb hts inlX4 hown hK hP 0 rfl rfl 0 (by decide) (hts (.fieldLink RX4 9 "ClosedUntil$Tape" "bytes" "[B") qw_104) (fun _ h9 => h9) rfl dX4_append_20 ?_
  refine lv_aload_n hx hb dX4_append_23 rfl (lv_at hl 1 rfl) ?_
  refine va_get (D := (dC, dI)) (ci := 3) (v := .int 1) (C := RX4) (T := TX4) (N := 2) hx hb hts inlX4 hown hK hP 0 rfl rfl 1 (by decide) (hts (.fieldLink RX4 15 "ClosedUntil$Tape" "length" "I") qw_289) (fun _ h9 => h9) rfl dX4_append_24 ?_
  refine lv_iload_n hx hb dX4_append_27 rfl (lv_at hl 2 rfl) ?_
  refine lv_iload_n hx hb dX4_append_28 rfl (lv_at hl 0 rfl) ?_
  refine lv_iushr hx hb dX4_append_29 rfl ?_
  refine lv_topi (fun x7 e_x7 => ?_)
  refine lv_i2b hx hb dX4_append_30 rfl ?_
  refine lv_topi (fun x8 e_x8 => ?_)
  refine va_bast hx hb hK hP hD hS 1 0 rfl rfl (vin0 (by decide)) dX4_append_31 (fun H locs hP hD hS => ?_)
  have hP : va_P (dC, dI) vwCl [(h0, .inr (3, [.ref (f4 0), .int 1])), ((f4 0), .inl (c4, 1000, .inl (upd (upd bf (0 : Int32).toNatClampNeg (vp_nar .byte x4)) (1 : Int32).toNatClampNeg (vp_nar .byte x8))))] H := hP
  have hD : va_D A [(h0, .inr (3, [.ref (f4 0), .int 1])), ((f4 0), .inl (c4, 1000, .inl (upd (upd bf (0 : Int32).toNatClampNeg (vp_nar .byte x4)) (1 : Int32).toNatClampNeg (vp_nar .byte x8))))] := hD
  refine lv_aload_n hx hb dX4_append_32 rfl (lv_at hl 1 rfl) ?_
  refine lv_dup hx hb dX4_append_33 rfl ?_
  refine va_get (D := (dC, dI)) (ci := 3) (v := .int 1) (C := RX4) (T := TX4) (N := 2) hx hb hts inlX4 hown hK hP 0 rfl rfl 1 (by decide) (hts (.fieldLink RX4 15 "ClosedUntil$Tape" "length" "I") qw_289) (fun _ h9 => h9) rfl dX4_append_34 ?_
  refine lv_iconst (v := 1) hx hb dX4_append_37 (by decide) ?_
  refine lv_iadd hx hb dX4_append_38 ?_
  refine cst (v := 2) (by decide) ?_
  refine va_put (D := (dC, dI)) (ci := 3) (v := .int 2) (ty := .int) (C := RX4) (T := TX4) (N := 2) hx hb hts inlX4 tyX4 tyX4_ok nmX4 hown hK hP hD hS 0 rfl rfl 1 (by decide) (hts (.fieldLink RX4 15 "ClosedUntil$Tape" "length" "I") qw_289) (fun _ h9 => h9) rfl (by decide +kernel) rfl rfl (Nat.le_of_ble_eq_true rfl) dX4_append_39 (fun H locs hP hD hS => ?_)
  have hP : va_P (dC, dI) vwCl [(h0, .inr (3, [.ref (f4 0), .int 2])), ((f4 0), .inl (c4, 1000, .inl (upd (upd bf (0 : Int32).toNatClampNeg (vp_nar .byte x4)) (1 : Int32).toNatClampNeg (vp_nar .byte x8))))] H := hP
  have hD : va_D A [(h0, .inr (3, [.ref (f4 0), .int 2])), ((f4 0), .inl (c4, 1000, .inl (upd (upd bf (0 : Int32).toNatClampNeg (vp_nar .byte x4)) (1 : Int32).toNatClampNeg (vp_nar .byte x8))))] := hD
  refine lv_iinc (v := 8) (lv' := [(2, .int 8), (0, .ref h0), (1, .int vv)]) hx hb dX4_append_42 hl (k := 0) rfl (by decide) (by decide) rfl (fun ls hl => ?_)
  refine lv_goto (tgt := 3) hx hb dX4_append_45 (by decide) ?_
  refine lv_iload_n hx hb dX4_append_3 rfl (lv_at hl 0 rfl) ?_
  refine lv_if_lt (tgt := 48) hx hb dX4_append_4 (by decide) (fun c4_9 => by exfalso; exact absurd c4_9 (by decide)) (fun c4_9 => ?_)
  refine lv_aload_n hx hb dX4_append_7 rfl (lv_at hl 1 rfl) ?_
  refine va_get (D := (dC, dI)) (ci := 3) (v := .int 2) (C := RX4) (T := TX4) (N := 2) hx hb hts inlX4 hown hK hP 0 rfl rfl 1 (by decide) (hts (.fieldLink RX4 15 "ClosedUntil$Tape" "length" "I") qw_289) (fun _ h9 => h9) rfl dX4_append_8 ?_
  refine lv_aload_n hx hb dX4_append_11 rfl (lv_at hl 1 rfl) ?_
  refine va_get (D := (dC, dI)) (ci := 3) (v := .ref (f4 0)) (C := RX4) (T := TX4) (N := 2) hx hb hts inlX4 hown hK hP 0 rfl rfl 0 (by decide) (hts (.fieldLink RX4 9 "ClosedUntil$Tape" "bytes" "[B") qw_104) (fun _ h9 => h9) rfl dX4_append_12 ?_
  refine va_alen hx hb hK hP 1 0 rfl rfl (v := 1000) (show Int32.ofNat 1000 = 1000 from by decide) dX4_append_15 ?_
  refine lv_icmp_ge (tgt := 48) hx hb dX4_append_16 (by decide) (fun c16_10 => by exfalso; exact absurd c16_10 (by decide)) (fun c16_10 => ?_)
  refine lv_aload_n hx hb dX4_append_19 rfl (lv_at hl 1 rfl) ?_
  refine va_get (D := (dC, dI)) (ci := 3) (v := .ref (f4 0)) (C := RX4) (T := TX4) (N := 2) hx hb hts inlX4 hown hK hP 0 rfl rfl 0 (by decide) (hts (.fieldLink RX4 9 "ClosedUntil$Tape" "bytes" "[B") qw_104) (fun _ h9 => h9) rfl dX4_append_20 ?_
  refine lv_aload_n hx hb dX4_append_23 rfl (lv_at hl 1 rfl) ?_
  refine va_get (D := (dC, dI)) (ci := 3) (v := .int 2) (C := RX4) (T := TX4) (N := 2) hx hb hts inlX4 hown hK hP 0 rfl rfl 1 (by decide) (hts (.fieldLink RX4 15 "ClosedUntil$Tape" "length" "I") qw_289) (fun _ h9 => h9) rfl dX4_append_24 ?_
  refine lv_iload_n hx hb dX4_append_27 rfl (lv_at hl 2 rfl) ?_
  refine lv_iload_n hx hb dX4_append_28 rfl (lv_at hl 0 rfl) ?_
  refine lv_iushr hx hb dX4_append_29 rfl ?_
  refine lv_topi (fun x11 e_x11 => ?_)
  refine lv_i2b hx hb dX4_append_30 rfl ?_
  refine lv_topi (fun x12 e_x12 => ?_)
  refine va_bast hx hb hK hP hD hS 1 0 rfl rfl (vin0 (by decide)) dX4_append_31 (fun H locs hP hD hS => ?_)
  have hP : va_P (dC, dI) vwCl [(h0, .inr (3, [.ref (f4 0), .int 2])), ((f4 0), .inl (c4, 1000, .inl (upd (upd (upd bf (0 : Int32).toNatClampNeg (vp_nar .byte x4)) (1 : Int32).toNatClampNeg (vp_nar .byte x8)) (2 : Int32).toNatClampNeg (vp_nar .byte x12))))] H := hP
  have hD : va_D A [(h0, .inr (3, [.ref (f4 0), .int 2])), ((f4 0), .inl (c4, 1000, .inl (upd (upd (upd bf (0 : Int32).toNatClampNeg (vp_nar .byte x4)) (1 : Int32).toNatClampNeg (vp_nar .byte x8)) (2 : Int32).toNatClampNeg (vp_nar .byte x12))))] := hD
  refine lv_aload_n hx hb dX4_append_32 rfl (lv_at hl 1 rfl) ?_
  refine lv_dup hx hb dX4_append_33 rfl ?_
  refine va_get (D := (dC, dI)) (ci := 3) (v := .int 2) (C := RX4) (T := TX4) (N := 2) hx hb hts inlX4 hown hK hP 0 rfl rfl 1 (by decide) (hts (.fieldLink RX4 15 "ClosedUntil$Tape" "length" "I") qw_289) (fun _ h9 => h9) rfl dX4_append_34 ?_
  refine lv_iconst (v := 1) hx hb dX4_append_37 (by decide) ?_
  refine lv_iadd hx hb dX4_append_38 ?_
  refine cst (v := 3) (by decide) ?_
  refine va_put (D := (dC, dI)) (ci := 3) (v := .int 3) (ty := .int) (C := RX4) (T := TX4) (N := 2) hx hb hts inlX4 tyX4 tyX4_ok nmX4 hown hK hP hD hS 0 rfl rfl 1 (by decide) (hts (.fieldLink RX4 15 "ClosedUntil$Tape" "length" "I") qw_289) (fun _ h9 => h9) rfl (by decide +kernel) rfl rfl (Nat.le_of_ble_eq_true rfl) dX4_append_39 (fun H locs hP hD hS => ?_)
  have hP : va_P (dC, dI) vwCl [(h0, .inr (3, [.ref (f4 0), .int 3])), ((f4 0), .inl (c4, 1000, .inl (upd (upd (upd bf (0 : Int32).toNatClampNeg (vp_nar .byte x4)) (1 : Int32).toNatClampNeg (vp_nar .byte x8)) (2 : Int32).toNatClampNeg (vp_nar .byte x12))))] H := hP
  have hD : va_D A [(h0, .inr (3, [.ref (f4 0), .int 3])), ((f4 0), .inl (c4, 1000, .inl (upd (upd (upd bf (0 : Int32).toNatClampNeg (vp_nar .byte x4)) (1 : Int32).toNatClampNeg (vp_nar .byte x8)) (2 : Int32).toNatClampNeg (vp_nar .byte x12))))] := hD
  refine lv_iinc (v := 0) (lv' := [(2, .int 0), (0, .ref h0), (1, .int vv)]) hx hb dX4_append_42 hl (k := 0) rfl (by decide) (by decide) rfl (fun ls hl => ?_)
  refine lv_goto (tgt := 3) hx hb dX4_append_45 (by decide) ?_
  refine lv_iload_n hx hb dX4_append_3 rfl (lv_at hl 0 rfl) ?_
  refine lv_if_lt (tgt := 48) hx hb dX4_append_4 (by decide) (fun c4_13 => by exfalso; exact absurd c4_13 (by decide)) (fun c4_13 => ?_)
  refine lv_aload_n hx hb dX4_append_7 rfl (lv_at hl 1 rfl) ?_
  refine va_get (D := (dC, dI)) (ci := 3) (v := .int 3) (C := RX4) (T := TX4) (N := 2) hx hb hts inlX4 hown hK hP 0 rfl rfl 1 (by decide) (hts (.fieldLink RX4 15 "ClosedUntil$Tape" "length" "I") qw_289) (fun _ h9 => h9) rfl dX4_append_8 ?_
  refine lv_aload_n hx hb dX4_append_11 rfl (lv_at hl 1 rfl) ?_
  refine va_get (D := (dC, dI)) (ci := 3) (v := .ref (f4 0)) (C := RX4) (T := TX4) (N := 2) hx hb hts inlX4 hown hK hP 0 rfl rfl 0 (by decide) (hts (.fieldLink RX4 9 "ClosedUntil$Tape" "bytes" "[B") qw_104) (fun _ h9 => h9) rfl dX4_append_12 ?_
  refine va_alen hx hb hK hP 1 0 rfl rfl (v := 1000) (show Int32.ofNat 1000 = 1000 from by decide) dX4_append_15 ?_
  refine lv_icmp_ge (tgt := 48) hx hb dX4_append_16 (by decide) (fun c16_14 => by exfalso; exact absurd c16_14 (by decide)) (fun c16_14 => ?_)
  refine lv_aload_n hx hb dX4_append_19 rfl (lv_at hl 1 rfl) ?_
  refine va_get (D := (dC, dI)) (ci := 3) (v := .ref (f4 0)) (C := RX4) (T := TX4) (N := 2) hx hb hts inlX4 hown hK hP 0 rfl rfl 0 (by decide) (hts (.fieldLink RX4 9 "ClosedUntil$Tape" "bytes" "[B") qw_104) (fun _ h9 => h9) rfl dX4_append_20 ?_
  refine lv_aload_n hx hb dX4_append_23 rfl (lv_at hl 1 rfl) ?_
  refine va_get (D := (dC, dI)) (ci := 3) (v := .int 3) (C := RX4) (T := TX4) (N := 2) hx hb hts inlX4 hown hK hP 0 rfl rfl 1 (by decide) (hts (.fieldLink RX4 15 "ClosedUntil$Tape" "length" "I") qw_289) (fun _ h9 => h9) rfl dX4_append_24 ?_
  refine lv_iload_n hx hb dX4_append_27 rfl (lv_at hl 2 rfl) ?_
  refine lv_iload_n hx hb dX4_append_28 rfl (lv_at hl 0 rfl) ?_
  refine lv_iushr hx hb dX4_append_29 rfl ?_
  refine lv_topi (fun x15 e_x15 => ?_)
  refine lv_i2b hx hb dX4_append_30 rfl ?_
  refine lv_topi (fun x16 e_x16 => ?_)
  refine va_bast hx hb hK hP hD hS 1 0 rfl rfl (vin0 (by decide)) dX4_append_31 (fun H locs hP hD hS => ?_)
  have hP : va_P (dC, dI) vwCl [(h0, .inr (3, [.ref (f4 0), .int 3])), ((f4 0), .inl (c4, 1000, .inl (upd (upd (upd (upd bf (0 : Int32).toNatClampNeg (vp_nar .byte x4)) (1 : Int32).toNatClampNeg (vp_nar .byte x8)) (2 : Int32).toNatClampNeg (vp_nar .byte x12)) (3 : Int32).toNatClampNeg (vp_nar .byte x16))))] H := hP
  have hD : va_D A [(h0, .inr (3, [.ref (f4 0), .int 3])), ((f4 0), .inl (c4, 1000, .inl (upd (upd (upd (upd bf (0 : Int32).toNatClampNeg (vp_nar .byte x4)) (1 : Int32).toNatClampNeg (vp_nar .byte x8)) (2 : Int32).toNatClampNeg (vp_nar .byte x12)) (3 : Int32).toNatClampNeg (vp_nar .byte x16))))] := hD
  refine lv_aload_n hx hb dX4_append_32 rfl (lv_at hl 1 rfl) ?_
  refine lv_dup hx hb dX4_append_33 rfl ?_
  refine va_get (D := (dC, dI)) (ci := 3) (v := .int 3) (C := RX4) (T := TX4) (N := 2) hx hb hts inlX4 hown hK hP 0 rfl rfl 1 (by decide) (hts (.fieldLink RX4 15 "ClosedUntil$Tape" "length" "I") qw_289) (fun _ h9 => h9) rfl dX4_append_34 ?_
  refine lv_iconst (v := 1) hx hb dX4_append_37 (by decide) ?_
  refine lv_iadd hx hb dX4_append_38 ?_
  refine cst (v := 4) (by decide) ?_
  refine va_put (D := (dC, dI)) (ci := 3) (v := .int 4) (ty := .int) (C := RX4) (T := TX4) (N := 2) hx hb hts inlX4 tyX4 tyX4_ok nmX4 hown hK hP hD hS 0 rfl rfl 1 (by decide) (hts (.fieldLink RX4 15 "ClosedUntil$Tape" "length" "I") qw_289) (fun _ h9 => h9) rfl (by decide +kernel) rfl rfl (Nat.le_of_ble_eq_true rfl) dX4_append_39 (fun H locs hP hD hS => ?_)
  have hP : va_P (dC, dI) vwCl [(h0, .inr (3, [.ref (f4 0), .int 4])), ((f4 0), .inl (c4, 1000, .inl (upd (upd (upd (upd bf (0 : Int32).toNatClampNeg (vp_nar .byte x4)) (1 : Int32).toNatClampNeg (vp_nar .byte x8)) (2 : Int32).toNatClampNeg (vp_nar .byte x12)) (3 : Int32).toNatClampNeg (vp_nar .byte x16))))] H := hP
  have hD : va_D A [(h0, .inr (3, [.ref (f4 0), .int 4])), ((f4 0), .inl (c4, 1000, .inl (upd (upd (upd (upd bf (0 : Int32).toNatClampNeg (vp_nar .byte x4)) (1 : Int32).toNatClampNeg (vp_nar .byte x8)) (2 : Int32).toNatClampNeg (vp_nar .byte x12)) (3 : Int32).toNatClampNeg (vp_nar .byte x16))))] := hD
  refine lv_iinc (v := (-8)) (lv' := [(2, .int (-8)), (0, .ref h0), (1, .int vv)]) hx hb dX4_append_42 hl (k := 0) rfl (by decide) (by decide) rfl (fun ls hl => ?_)
  refine lv_goto (tgt := 3) hx hb dX4_append_45 (by decide) ?_
  refine lv_iload_n hx hb dX4_append_3 rfl (lv_at hl 0 rfl) ?_
  refine lv_if_lt (tgt := 48) hx hb dX4_append_4 (by decide) (fun c4_17 => ?_) (fun c4_17 => by exfalso; exact absurd c4_17 (by decide))
  refine W.widen (k := 0) (n := 0) (Nat.le_of_ble_eq_true rfl) (Nat.le_of_ble_eq_true rfl) ?_
  have hP9 := hP.sub (ws' := [(h0, .inr (3, [.ref (f4 0), .int 4])), ((f4 0), .inl (c4, 1000, .inl (upd (upd (upd (upd bf (0 : Int32).toNatClampNeg (vp_nar .byte x4)) (1 : Int32).toNatClampNeg (vp_nar .byte x8)) (2 : Int32).toNatClampNeg (vp_nar .byte x12)) (3 : Int32).toNatClampNeg (vp_nar .byte x16))))]) [0, 1] rfl
  have hD9 := hD.sub (ws' := [(h0, .inr (3, [.ref (f4 0), .int 4])), ((f4 0), .inl (c4, 1000, .inl (upd (upd (upd (upd bf (0 : Int32).toNatClampNeg (vp_nar .byte x4)) (1 : Int32).toNatClampNeg (vp_nar .byte x8)) (2 : Int32).toNatClampNeg (vp_nar .byte x12)) (3 : Int32).toNatClampNeg (vp_nar .byte x16))))]) [0, 1] (by decide) rfl
  have hK9 := hK.sub (tys' := []) [] rfl
  exact W.vret hx hb hr (fun t ht hW => ⟨⟨((upd (upd (upd (upd bf (0 : Int32).toNatClampNeg (vp_nar .byte x4)) (1 : Int32).toNatClampNeg (vp_nar .byte x8)) (2 : Int32).toNatClampNeg (vp_nar .byte x12)) (3 : Int32).toNatClampNeg (vp_nar .byte x16))), rfl, (trivial), by rw [ht]; exact hP9, va_K.moved hW.alike hK9, hD9⟩, hS.F ht⟩) hS.2.2 dX4_append_48
set_option maxHeartbeats 4000000 in
set_option maxRecDepth 100000 in
theorem c_ap4 (l : Launch) (dC : Nat → ClassId) (dI : Nat → Nat → Nat) (g : Gv) (sz : Nat) (h0 : Nat) (f4 : Nat → Nat) (c4 : ClassId) (bf : Nat → Int32) (vv : Int32)  : Met l yX4_append (.code yX4_append cX4_append 3 none :: TBL) ({ frames := 0, cells := 0, slots := 0, locals := 0 }) (va_Pc [.ref h0, .int vv] (fun U => U.heap.size = sz ∧ va_P (dC, dI) vwCl [(h0, .inr (3, [.ref (f4 0), .int 4])), ((f4 0), .inl (c4, 1000, .inl bf))] U.heap ∧ va_K (dC, dI) vwCl [(c4, .byte)] U ∧ va_D (fun _ => True) [(h0, .inr (3, [.ref (f4 0), .int 4])), ((f4 0), .inl (c4, 1000, .inl bf))] ∧ Ev g (va_A [(h0, .inr (3, [.ref (f4 0), .int 4])), ((f4 0), .inl (c4, 1000, .inl bf))] sz) U)) (va_Qv (fun (u : (Nat → Int32)) => True) (fun (u : (Nat → Int32)) (t : State) => va_P (dC, dI) vwCl [(h0, .inr (3, [.ref (f4 0), .int 8])), ((f4 0), .inl (c4, 1000, .inl u))] t.heap ∧ va_K (dC, dI) vwCl [] t ∧ va_D (va_A [(h0, .inr (3, [.ref (f4 0), .int 4])), ((f4 0), .inl (c4, 1000, .inl bf))] sz) [(h0, .inr (3, [.ref (f4 0), .int 8])), ((f4 0), .inl (c4, 1000, .inl u))]) (va_A [(h0, .inr (3, [.ref (f4 0), .int 4])), ((f4 0), .inl (c4, 1000, .inl bf))] sz)) 0 0 (va_A [(h0, .inr (3, [.ref (f4 0), .int 4])), ((f4 0), .inl (c4, 1000, .inl bf))] sz) := by
  refine Met.ofW (cc := cX4_append) (maxL := 3) (ret := none) (by decide) rfl ?_
  intro p e s m args below meth c s₁ B hml hv
  obtain ⟨rfl, hsz, hP, hK, hD0, hE⟩ := hv
  have hx := B.exec
  have hb := B.bytes
  have hr := B.returns
  have hts0 := atoms_spec (ws := (.code yX4_append cX4_append 3 none :: TBL)) B.pre
  have hts := fun (w : Cond) (h : w ∈ TBL) => hts0 w (List.mem_cons_of_mem _ h)
  have hown : s.vm.findClass RX4 = some m.cls := findClass_of_methodNamed B.named
  have hlocks := B.notSynchronized
  have hN := hE.1
  subst hsz
  have hD := hD0.self (sz := s.heap.size)
  generalize hAe : va_A [(h0, .inr (3, [.ref (f4 0), .int 4])), ((f4 0), .inl (c4, 1000, .inl bf))] s.heap.size = A at hD hE ⊢
  have hA : ∀ q : Nat, s.heap.size ≤ q → A q := fun q h => by rw [← hAe]; exact Or.inr h
  have hS : va_S A s.heap s.heap [] := va_S.rf
  have hP : va_P (dC, dI) vwCl [(h0, .inr (3, [.ref (f4 0), .int 4])), ((f4 0), .inl (c4, 1000, .inl bf))] s.heap := hP
  have hl := lv_entry ([.ref h0, .int vv]) (n := 3) (Nat.le_of_ble_eq_true rfl)
  rw [lg_entry_eq]
  generalize (lg_sl ([.ref h0, .int vv]) ++ List.replicate (3 - (lg_sl ([.ref h0, .int vv])).length) Slot.unset).toArray = ls at hl ⊢
  have hl : lv_has ls 3 [(0, .ref h0), (1, .int vv)] := hl
  refine lv_bipush (v := 24) hx hb dX4_append_0 (by decide) ?_
  refine lv_istore_n (lv' := [(2, .int 24), (0, .ref h0), (1, .int vv)]) hx hb dX4_append_2 rfl hl (by decide) rfl (fun ls hl => ?_)
  refine lv_iload_n hx hb dX4_append_3 rfl (lv_at hl 0 rfl) ?_
  refine lv_if_lt (tgt := 48) hx hb dX4_append_4 (by decide) (fun c4_1 => by exfalso; exact absurd c4_1 (by decide)) (fun c4_1 => ?_)
  refine lv_aload_n hx hb dX4_append_7 rfl (lv_at hl 1 rfl) ?_
  refine va_get (D := (dC, dI)) (ci := 3) (v := .int 4) (C := RX4) (T := TX4) (N := 2) hx hb hts inlX4 hown hK hP 0 rfl rfl 1 (by decide) (hts (.fieldLink RX4 15 "ClosedUntil$Tape" "length" "I") qw_289) (fun _ h9 => h9) rfl dX4_append_8 ?_
  refine lv_aload_n hx hb dX4_append_11 rfl (lv_at hl 1 rfl) ?_
  refine va_get (D := (dC, dI)) (ci := 3) (v := .ref (f4 0)) (C := RX4) (T := TX4) (N := 2) hx hb hts inlX4 hown hK hP 0 rfl rfl 0 (by decide) (hts (.fieldLink RX4 9 "ClosedUntil$Tape" "bytes" "[B") qw_104) (fun _ h9 => h9) rfl dX4_append_12 ?_
  refine va_alen hx hb hK hP 1 0 rfl rfl (v := 1000) (show Int32.ofNat 1000 = 1000 from by decide) dX4_append_15 ?_
  refine lv_icmp_ge (tgt := 48) hx hb dX4_append_16 (by decide) (fun c16_2 => by exfalso; exact absurd c16_2 (by decide)) (fun c16_2 => ?_)
  refine lv_aload_n hx hb dX4_append_19 rfl (lv_at hl 1 rfl) ?_
  refine va_get (D := (dC, dI)) (ci := 3) (v := .ref (f4 0)) (C := RX4) (T := TX4) (N := 2) hx hb hts inlX4 hown hK hP 0 rfl rfl 0 (by decide) (hts (.fieldLink RX4 9 "ClosedUntil$Tape" "bytes" "[B") qw_104) (fun _ h9 => h9) rfl dX4_append_20 ?_
  refine lv_aload_n hx hb dX4_append_23 rfl (lv_at hl 1 rfl) ?_
  refine va_get (D := (dC, dI)) (ci := 3) (v := .int 4) (C := RX4) (T := TX4) (N := 2) hx hb hts inlX4 hown hK hP 0 rfl rfl 1 (by decide) (hts (.fieldLink RX4 15 "ClosedUntil$Tape" "length" "I") qw_289) (fun _ h9 => h9) rfl dX4_append_24 ?_
  refine lv_iload_n hx hb dX4_append_27 rfl (lv_at hl 2 rfl) ?_
  refine lv_iload_n hx hb dX4_append_28 rfl (lv_at hl 0 rfl) ?_
  refine lv_iushr hx hb dX4_append_29 rfl ?_
  refine lv_topi (fun x3 e_x3 => ?_)
  refine lv_i2b hx hb dX4_append_30 rfl ?_
  refine lv_topi (fun x4 e_x4 => ?_)
  refine va_bast hx hb hK hP hD hS 1 0 rfl rfl (vin0 (by decide)) dX4_append_31 (fun H locs hP hD hS => ?_)
  have hP : va_P (dC, dI) vwCl [(h0, .inr (3, [.ref (f4 0), .int 4])), ((f4 0), .inl (c4, 1000, .inl (upd bf (4 : Int32).toNatClampNeg (vp_nar .byte x4))))] H := hP
  have hD : va_D A [(h0, .inr (3, [.ref (f4 0), .int 4])), ((f4 0), .inl (c4, 1000, .inl (upd bf (4 : Int32).toNatClampNeg (vp_nar .byte x4))))] := hD
  refine lv_aload_n hx hb dX4_append_32 rfl (lv_at hl 1 rfl) ?_
  refine lv_dup hx hb dX4_append_33 rfl ?_
  refine va_get (D := (dC, dI)) (ci := 3) (v := .int 4) (C := RX4) (T := TX4) (N := 2) hx hb hts inlX4 hown hK hP 0 rfl rfl 1 (by decide) (hts (.fieldLink RX4 15 "ClosedUntil$Tape" "length" "I") qw_289) (fun _ h9 => h9) rfl dX4_append_34 ?_
  refine lv_iconst (v := 1) hx hb dX4_append_37 (by decide) ?_
  refine lv_iadd hx hb dX4_append_38 ?_
  refine cst (v := 5) (by decide) ?_
  refine va_put (D := (dC, dI)) (ci := 3) (v := .int 5) (ty := .int) (C := RX4) (T := TX4) (N := 2) hx hb hts inlX4 tyX4 tyX4_ok nmX4 hown hK hP hD hS 0 rfl rfl 1 (by decide) (hts (.fieldLink RX4 15 "ClosedUntil$Tape" "length" "I") qw_289) (fun _ h9 => h9) rfl (by decide +kernel) rfl rfl (Nat.le_of_ble_eq_true rfl) dX4_append_39 (fun H locs hP hD hS => ?_)
  have hP : va_P (dC, dI) vwCl [(h0, .inr (3, [.ref (f4 0), .int 5])), ((f4 0), .inl (c4, 1000, .inl (upd bf (4 : Int32).toNatClampNeg (vp_nar .byte x4))))] H := hP
  have hD : va_D A [(h0, .inr (3, [.ref (f4 0), .int 5])), ((f4 0), .inl (c4, 1000, .inl (upd bf (4 : Int32).toNatClampNeg (vp_nar .byte x4))))] := hD
  refine lv_iinc (v := 16) (lv' := [(2, .int 16), (0, .ref h0), (1, .int vv)]) hx hb dX4_append_42 hl (k := 0) rfl (by decide) (by decide) rfl (fun ls hl => ?_)
  refine lv_goto (tgt := 3) hx hb dX4_append_45 (by decide) ?_
  refine lv_iload_n hx hb dX4_append_3 rfl (lv_at hl 0 rfl) ?_
  refine lv_if_lt (tgt := 48) hx hb dX4_append_4 (by decide) (fun c4_5 => by exfalso; exact absurd c4_5 (by decide)) (fun c4_5 => ?_)
  refine lv_aload_n hx hb dX4_append_7 rfl (lv_at hl 1 rfl) ?_
  refine va_get (D := (dC, dI)) (ci := 3) (v := .int 5) (C := RX4) (T := TX4) (N := 2) hx hb hts inlX4 hown hK hP 0 rfl rfl 1 (by decide) (hts (.fieldLink RX4 15 "ClosedUntil$Tape" "length" "I") qw_289) (fun _ h9 => h9) rfl dX4_append_8 ?_
  refine lv_aload_n hx hb dX4_append_11 rfl (lv_at hl 1 rfl) ?_
  refine va_get (D := (dC, dI)) (ci := 3) (v := .ref (f4 0)) (C := RX4) (T := TX4) (N := 2) hx hb hts inlX4 hown hK hP 0 rfl rfl 0 (by decide) (hts (.fieldLink RX4 9 "ClosedUntil$Tape" "bytes" "[B") qw_104) (fun _ h9 => h9) rfl dX4_append_12 ?_
  refine va_alen hx hb hK hP 1 0 rfl rfl (v := 1000) (show Int32.ofNat 1000 = 1000 from by decide) dX4_append_15 ?_
  refine lv_icmp_ge (tgt := 48) hx hb dX4_append_16 (by decide) (fun c16_6 => by exfalso; exact absurd c16_6 (by decide)) (fun c16_6 => ?_)
  refine lv_aload_n hx hb dX4_append_19 rfl (lv_at hl 1 rfl) ?_
  refine va_get (D := (dC, dI)) (ci := 3) (v := .ref (f4 0)) (C := RX4) (T := TX4) (N := 2) hx hb hts inlX4 hown hK hP 0 rfl rfl 0 (by decide) (hts (.fieldLink RX4 9 "ClosedUntil$Tape" "bytes" "[B") qw_104) (fun _ h9 => h9) rfl dX4_append_20 ?_
  refine lv_aload_n hx hb dX4_append_23 rfl (lv_at hl 1 rfl) ?_
  refine va_get (D := (dC, dI)) (ci := 3) (v := .int 5) (C := RX4) (T := TX4) (N := 2) hx hb hts inlX4 hown hK hP 0 rfl rfl 1 (by decide) (hts (.fieldLink RX4 15 "ClosedUntil$Tape" "length" "I") qw_289) (fun _ h9 => h9) rfl dX4_append_24 ?_
  refine lv_iload_n hx hb dX4_append_27 rfl (lv_at hl 2 rfl) ?_
  refine lv_iload_n hx hb dX4_append_28 rfl (lv_at hl 0 rfl) ?_
  refine lv_iushr hx hb dX4_append_29 rfl ?_
  refine lv_topi (fun x7 e_x7 => ?_)
  refine lv_i2b hx hb dX4_append_30 rfl ?_
  refine lv_topi (fun x8 e_x8 => ?_)
  refine va_bast hx hb hK hP hD hS 1 0 rfl rfl (vin0 (by decide)) dX4_append_31 (fun H locs hP hD hS => ?_)
  have hP : va_P (dC, dI) vwCl [(h0, .inr (3, [.ref (f4 0), .int 5])), ((f4 0), .inl (c4, 1000, .inl (upd (upd bf (4 : Int32).toNatClampNeg (vp_nar .byte x4)) (5 : Int32).toNatClampNeg (vp_nar .byte x8))))] H := hP
  have hD : va_D A [(h0, .inr (3, [.ref (f4 0), .int 5])), ((f4 0), .inl (c4, 1000, .inl (upd (upd bf (4 : Int32).toNatClampNeg (vp_nar .byte x4)) (5 : Int32).toNatClampNeg (vp_nar .byte x8))))] := hD
  refine lv_aload_n hx hb dX4_append_32 rfl (lv_at hl 1 rfl) ?_
  refine lv_dup hx hb dX4_append_33 rfl ?_
  refine va_get (D := (dC, dI)) (ci := 3) (v := .int 5) (C := RX4) (T := TX4) (N := 2) hx hb hts inlX4 hown hK hP 0 rfl rfl 1 (by decide) (hts (.fieldLink RX4 15 "ClosedUntil$Tape" "length" "I") qw_289) (fun _ h9 => h9) rfl dX4_append_34 ?_
  refine lv_iconst (v := 1) hx hb dX4_append_37 (by decide) ?_
  refine lv_iadd hx hb dX4_append_38 ?_
  refine cst (v := 6) (by decide) ?_
  refine va_put (D := (dC, dI)) (ci := 3) (v := .int 6) (ty := .int) (C := RX4) (T := TX4) (N := 2) hx hb hts inlX4 tyX4 tyX4_ok nmX4 hown hK hP hD hS 0 rfl rfl 1 (by decide) (hts (.fieldLink RX4 15 "ClosedUntil$Tape" "length" "I") qw_289) (fun _ h9 => h9) rfl (by decide +kernel) rfl rfl (Nat.le_of_ble_eq_true rfl) dX4_append_39 (fun H locs hP hD hS => ?_)
  have hP : va_P (dC, dI) vwCl [(h0, .inr (3, [.ref (f4 0), .int 6])), ((f4 0), .inl (c4, 1000, .inl (upd (upd bf (4 : Int32).toNatClampNeg (vp_nar .byte x4)) (5 : Int32).toNatClampNeg (vp_nar .byte x8))))] H := hP
  have hD : va_D A [(h0, .inr (3, [.ref (f4 0), .int 6])), ((f4 0), .inl (c4, 1000, .inl (upd (upd bf (4 : Int32).toNatClampNeg (vp_nar .byte x4)) (5 : Int32).toNatClampNeg (vp_nar .byte x8))))] := hD
  refine lv_iinc (v := 8) (lv' := [(2, .int 8), (0, .ref h0), (1, .int vv)]) hx hb dX4_append_42 hl (k := 0) rfl (by decide) (by decide) rfl (fun ls hl => ?_)
  refine lv_goto (tgt := 3) hx hb dX4_append_45 (by decide) ?_
  refine lv_iload_n hx hb dX4_append_3 rfl (lv_at hl 0 rfl) ?_
  refine lv_if_lt (tgt := 48) hx hb dX4_append_4 (by decide) (fun c4_9 => by exfalso; exact absurd c4_9 (by decide)) (fun c4_9 => ?_)
  refine lv_aload_n hx hb dX4_append_7 rfl (lv_at hl 1 rfl) ?_
  refine va_get (D := (dC, dI)) (ci := 3) (v := .int 6) (C := RX4) (T := TX4) (N := 2) hx hb hts inlX4 hown hK hP 0 rfl rfl 1 (by decide) (hts (.fieldLink RX4 15 "ClosedUntil$Tape" "length" "I") qw_289) (fun _ h9 => h9) rfl dX4_append_8 ?_
  refine lv_aload_n hx hb dX4_append_11 rfl (lv_at hl 1 rfl) ?_
  refine va_get (D := (dC, dI)) (ci := 3) (v := .ref (f4 0)) (C := RX4) (T := TX4) (N := 2) hx hb hts inlX4 hown hK hP 0 rfl rfl 0 (by decide) (hts (.fieldLink RX4 9 "ClosedUntil$Tape" "bytes" "[B") qw_104) (fun _ h9 => h9) rfl dX4_append_12 ?_
  refine va_alen hx hb hK hP 1 0 rfl rfl (v := 1000) (show Int32.ofNat 1000 = 1000 from by decide) dX4_append_15 ?_
  refine lv_icmp_ge (tgt := 48) hx hb dX4_append_16 (by decide) (fun c16_10 => by exfalso; exact absurd c16_10 (by decide)) (fun c16_10 => ?_)
  refine lv_aload_n hx hb dX4_append_19 rfl (lv_at hl 1 rfl) ?_
  refine va_get (D := (dC, dI)) (ci := 3) (v := .ref (f4 0)) (C := RX4) (T := TX4) (N := 2) hx hb hts inlX4 hown hK hP 0 rfl rfl 0 (by decide) (hts (.fieldLink RX4 9 "ClosedUntil$Tape" "bytes" "[B") qw_104) (fun _ h9 => h9) rfl dX4_append_20 ?_
  refine lv_aload_n hx hb dX4_append_23 rfl (lv_at hl 1 rfl) ?_
  refine va_get (D := (dC, dI)) (ci := 3) (v := .int 6) (C := RX4) (T := TX4) (N := 2) hx hb hts inlX4 hown hK hP 0 rfl rfl 1 (by decide) (hts (.fieldLink RX4 15 "ClosedUntil$Tape" "length" "I") qw_289) (fun _ h9 => h9) rfl dX4_append_24 ?_
  refine lv_iload_n hx hb dX4_append_27 rfl (lv_at hl 2 rfl) ?_
  refine lv_iload_n hx hb dX4_append_28 rfl (lv_at hl 0 rfl) ?_
  refine lv_iushr hx hb dX4_append_29 rfl ?_
  refine lv_topi (fun x11 e_x11 => ?_)
  refine lv_i2b hx hb dX4_append_30 rfl ?_
  refine lv_topi (fun x12 e_x12 => ?_)
  refine va_bast hx hb hK hP hD hS 1 0 rfl rfl (vin0 (by decide)) dX4_append_31 (fun H locs hP hD hS => ?_)
  have hP : va_P (dC, dI) vwCl [(h0, .inr (3, [.ref (f4 0), .int 6])), ((f4 0), .inl (c4, 1000, .inl (upd (upd (upd bf (4 : Int32).toNatClampNeg (vp_nar .byte x4)) (5 : Int32).toNatClampNeg (vp_nar .byte x8)) (6 : Int32).toNatClampNeg (vp_nar .byte x12))))] H := hP
  have hD : va_D A [(h0, .inr (3, [.ref (f4 0), .int 6])), ((f4 0), .inl (c4, 1000, .inl (upd (upd (upd bf (4 : Int32).toNatClampNeg (vp_nar .byte x4)) (5 : Int32).toNatClampNeg (vp_nar .byte x8)) (6 : Int32).toNatClampNeg (vp_nar .byte x12))))] := hD
  refine lv_aload_n hx hb dX4_append_32 rfl (lv_at hl 1 rfl) ?_
  refine lv_dup hx hb dX4_append_33 rfl ?_
  refine va_get (D := (dC, dI)) (ci := 3) (v := .int 6) (C := RX4) (T := TX4) (N := 2) hx hb hts inlX4 hown hK hP 0 rfl rfl 1 (by decide) (hts (.fieldLink RX4 15 "ClosedUntil$Tape" "length" "I") qw_289) (fun _ h9 => h9) rfl dX4_append_34 ?_
  refine lv_iconst (v := 1) hx hb dX4_append_37 (by decide) ?_
  refine lv_iadd hx hb dX4_append_38 ?_
  refine cst (v := 7) (by decide) ?_
  refine va_put (D := (dC, dI)) (ci := 3) (v := .int 7) (ty := .int) (C := RX4) (T := TX4) (N := 2) hx hb hts inlX4 tyX4 tyX4_ok nmX4 hown hK hP hD hS 0 rfl rfl 1 (by decide) (hts (.fieldLink RX4 15 "ClosedUntil$Tape" "length" "I") qw_289) (fun _ h9 => h9) rfl (by decide +kernel) rfl rfl (Nat.le_of_ble_eq_true rfl) dX4_append_39 (fun H locs hP hD hS => ?_)
  have hP : va_P (dC, dI) vwCl [(h0, .inr (3, [.ref (f4 0), .int 7])), ((f4 0), .inl (c4, 1000, .inl (upd (upd (upd bf (4 : Int32).toNatClampNeg (vp_nar .byte x4)) (5 : Int32).toNatClampNeg (vp_nar .byte x8)) (6 : Int32).toNatClampNeg (vp_nar .byte x12))))] H := hP
  have hD : va_D A [(h0, .inr (3, [.ref (f4 0), .int 7])), ((f4 0), .inl (c4, 1000, .inl (upd (upd (upd bf (4 : Int32).toNatClampNeg (vp_nar .byte x4)) (5 : Int32).toNatClampNeg (vp_nar .byte x8)) (6 : Int32).toNatClampNeg (vp_nar .byte x12))))] := hD
  refine lv_iinc (v := 0) (lv' := [(2, .int 0), (0, .ref h0), (1, .int vv)]) hx hb dX4_append_42 hl (k := 0) rfl (by decide) (by decide) rfl (fun ls hl => ?_)
  refine lv_goto (tgt := 3) hx hb dX4_append_45 (by decide) ?_
  refine lv_iload_n hx hb dX4_append_3 rfl (lv_at hl 0 rfl) ?_
  refine lv_if_lt (tgt := 48) hx hb dX4_append_4 (by decide) (fun c4_13 => by exfalso; exact absurd c4_13 (by decide)) (fun c4_13 => ?_)
  refine lv_aload_n hx hb dX4_append_7 rfl (lv_at hl 1 rfl) ?_
  refine va_get (D := (dC, dI)) (ci := 3) (v := .int 7) (C := RX4) (T := TX4) (N := 2) hx hb hts inlX4 hown hK hP 0 rfl rfl 1 (by decide) (hts (.fieldLink RX4 15 "ClosedUntil$Tape" "length" "I") qw_289) (fun _ h9 => h9) rfl dX4_append_8 ?_
  refine lv_aload_n hx hb dX4_append_11 rfl (lv_at hl 1 rfl) ?_
  refine va_get (D := (dC, dI)) (ci := 3) (v := .ref (f4 0)) (C := RX4) (T := TX4) (N := 2) hx hb hts inlX4 hown hK hP 0 rfl rfl 0 (by decide) (hts (.fieldLink RX4 9 "ClosedUntil$Tape" "bytes" "[B") qw_104) (fun _ h9 => h9) rfl dX4_append_12 ?_
  refine va_alen hx hb hK hP 1 0 rfl rfl (v := 1000) (show Int32.ofNat 1000 = 1000 from by decide) dX4_append_15 ?_
  refine lv_icmp_ge (tgt := 48) hx hb dX4_append_16 (by decide) (fun c16_14 => by exfalso; exact absurd c16_14 (by decide)) (fun c16_14 => ?_)
  refine lv_aload_n hx hb dX4_append_19 rfl (lv_at hl 1 rfl) ?_
  refine va_get (D := (dC, dI)) (ci := 3) (v := .ref (f4 0)) (C := RX4) (T := TX4) (N := 2) hx hb hts inlX4 hown hK hP 0 rfl rfl 0 (by decide) (hts (.fieldLink RX4 9 "ClosedUntil$Tape" "bytes" "[B") qw_104) (fun _ h9 => h9) rfl dX4_append_20 ?_
  refine lv_aload_n hx hb dX4_append_23 rfl (lv_at hl 1 rfl) ?_
  refine va_get (D := (dC, dI)) (ci := 3) (v := .int 7) (C := RX4) (T := TX4) (N := 2) hx hb hts inlX4 hown hK hP 0 rfl rfl 1 (by decide) (hts (.fieldLink RX4 15 "ClosedUntil$Tape" "length" "I") qw_289) (fun _ h9 => h9) rfl dX4_append_24 ?_
  refine lv_iload_n hx hb dX4_append_27 rfl (lv_at hl 2 rfl) ?_
  refine lv_iload_n hx hb dX4_append_28 rfl (lv_at hl 0 rfl) ?_
  refine lv_iushr hx hb dX4_append_29 rfl ?_
  refine lv_topi (fun x15 e_x15 => ?_)
  refine lv_i2b hx hb dX4_append_30 rfl ?_
  refine lv_topi (fun x16 e_x16 => ?_)
  refine va_bast hx hb hK hP hD hS 1 0 rfl rfl (vin0 (by decide)) dX4_append_31 (fun H locs hP hD hS => ?_)
  have hP : va_P (dC, dI) vwCl [(h0, .inr (3, [.ref (f4 0), .int 7])), ((f4 0), .inl (c4, 1000, .inl (upd (upd (upd (upd bf (4 : Int32).toNatClampNeg (vp_nar .byte x4)) (5 : Int32).toNatClampNeg (vp_nar .byte x8)) (6 : Int32).toNatClampNeg (vp_nar .byte x12)) (7 : Int32).toNatClampNeg (vp_nar .byte x16))))] H := hP
  have hD : va_D A [(h0, .inr (3, [.ref (f4 0), .int 7])), ((f4 0), .inl (c4, 1000, .inl (upd (upd (upd (upd bf (4 : Int32).toNatClampNeg (vp_nar .byte x4)) (5 : Int32).toNatClampNeg (vp_nar .byte x8)) (6 : Int32).toNatClampNeg (vp_nar .byte x12)) (7 : Int32).toNatClampNeg (vp_nar .byte x16))))] := hD
  refine lv_aload_n hx hb dX4_append_32 rfl (lv_at hl 1 rfl) ?_
  refine lv_dup hx hb dX4_append_33 rfl ?_
  refine va_get (D := (dC, dI)) (ci := 3) (v := .int 7) (C := RX4) (T := TX4) (N := 2) hx hb hts inlX4 hown hK hP 0 rfl rfl 1 (by decide) (hts (.fieldLink RX4 15 "ClosedUntil$Tape" "length" "I") qw_289) (fun _ h9 => h9) rfl dX4_append_34 ?_
  refine lv_iconst (v := 1) hx hb dX4_append_37 (by decide) ?_
  refine lv_iadd hx hb dX4_append_38 ?_
  refine cst (v := 8) (by decide) ?_
  refine va_put (D := (dC, dI)) (ci := 3) (v := .int 8) (ty := .int) (C := RX4) (T := TX4) (N := 2) hx hb hts inlX4 tyX4 tyX4_ok nmX4 hown hK hP hD hS 0 rfl rfl 1 (by decide) (hts (.fieldLink RX4 15 "ClosedUntil$Tape" "length" "I") qw_289) (fun _ h9 => h9) rfl (by decide +kernel) rfl rfl (Nat.le_of_ble_eq_true rfl) dX4_append_39 (fun H locs hP hD hS => ?_)
  have hP : va_P (dC, dI) vwCl [(h0, .inr (3, [.ref (f4 0), .int 8])), ((f4 0), .inl (c4, 1000, .inl (upd (upd (upd (upd bf (4 : Int32).toNatClampNeg (vp_nar .byte x4)) (5 : Int32).toNatClampNeg (vp_nar .byte x8)) (6 : Int32).toNatClampNeg (vp_nar .byte x12)) (7 : Int32).toNatClampNeg (vp_nar .byte x16))))] H := hP
  have hD : va_D A [(h0, .inr (3, [.ref (f4 0), .int 8])), ((f4 0), .inl (c4, 1000, .inl (upd (upd (upd (upd bf (4 : Int32).toNatClampNeg (vp_nar .byte x4)) (5 : Int32).toNatClampNeg (vp_nar .byte x8)) (6 : Int32).toNatClampNeg (vp_nar .byte x12)) (7 : Int32).toNatClampNeg (vp_nar .byte x16))))] := hD
  refine lv_iinc (v := (-8)) (lv' := [(2, .int (-8)), (0, .ref h0), (1, .int vv)]) hx hb dX4_append_42 hl (k := 0) rfl (by decide) (by decide) rfl (fun ls hl => ?_)
  refine lv_goto (tgt := 3) hx hb dX4_append_45 (by decide) ?_
  refine lv_iload_n hx hb dX4_append_3 rfl (lv_at hl 0 rfl) ?_
  refine lv_if_lt (tgt := 48) hx hb dX4_append_4 (by decide) (fun c4_17 => ?_) (fun c4_17 => by exfalso; exact absurd c4_17 (by decide))
  refine W.widen (k := 0) (n := 0) (Nat.le_of_ble_eq_true rfl) (Nat.le_of_ble_eq_true rfl) ?_
  have hP9 := hP.sub (ws' := [(h0, .inr (3, [.ref (f4 0), .int 8])), ((f4 0), .inl (c4, 1000, .inl (upd (upd (upd (upd bf (4 : Int32).toNatClampNeg (vp_nar .byte x4)) (5 : Int32).toNatClampNeg (vp_nar .byte x8)) (6 : Int32).toNatClampNeg (vp_nar .byte x12)) (7 : Int32).toNatClampNeg (vp_nar .byte x16))))]) [0, 1] rfl
  have hD9 := hD.sub (ws' := [(h0, .inr (3, [.ref (f4 0), .int 8])), ((f4 0), .inl (c4, 1000, .inl (upd (upd (upd (upd bf (4 : Int32).toNatClampNeg (vp_nar .byte x4)) (5 : Int32).toNatClampNeg (vp_nar .byte x8)) (6 : Int32).toNatClampNeg (vp_nar .byte x12)) (7 : Int32).toNatClampNeg (vp_nar .byte x16))))]) [0, 1] (by decide) rfl
  have hK9 := hK.sub (tys' := []) [] rfl
  exact W.vret hx hb hr (fun t ht hW => ⟨⟨((upd (upd (upd (upd bf (4 : Int32).toNatClampNeg (vp_nar .byte x4)) (5 : Int32).toNatClampNeg (vp_nar .byte x8)) (6 : Int32).toNatClampNeg (vp_nar .byte x12)) (7 : Int32).toNatClampNeg (vp_nar .byte x16))), rfl, (trivial), by rw [ht]; exact hP9, va_K.moved hW.alike hK9, hD9⟩, hS.F ht⟩) hS.2.2 dX4_append_48
set_option maxHeartbeats 4000000 in
set_option maxRecDepth 100000 in
theorem c_ap8 (l : Launch) (dC : Nat → ClassId) (dI : Nat → Nat → Nat) (g : Gv) (sz : Nat) (h0 : Nat) (f4 : Nat → Nat) (c4 : ClassId) (bf : Nat → Int32) (vv : Int32)  : Met l yX4_append (.code yX4_append cX4_append 3 none :: TBL) ({ frames := 0, cells := 0, slots := 0, locals := 0 }) (va_Pc [.ref h0, .int vv] (fun U => U.heap.size = sz ∧ va_P (dC, dI) vwCl [(h0, .inr (3, [.ref (f4 0), .int 8])), ((f4 0), .inl (c4, 1000, .inl bf))] U.heap ∧ va_K (dC, dI) vwCl [(c4, .byte)] U ∧ va_D (fun _ => True) [(h0, .inr (3, [.ref (f4 0), .int 8])), ((f4 0), .inl (c4, 1000, .inl bf))] ∧ Ev g (va_A [(h0, .inr (3, [.ref (f4 0), .int 8])), ((f4 0), .inl (c4, 1000, .inl bf))] sz) U)) (va_Qv (fun (u : (Nat → Int32)) => True) (fun (u : (Nat → Int32)) (t : State) => va_P (dC, dI) vwCl [(h0, .inr (3, [.ref (f4 0), .int 12])), ((f4 0), .inl (c4, 1000, .inl u))] t.heap ∧ va_K (dC, dI) vwCl [] t ∧ va_D (va_A [(h0, .inr (3, [.ref (f4 0), .int 8])), ((f4 0), .inl (c4, 1000, .inl bf))] sz) [(h0, .inr (3, [.ref (f4 0), .int 12])), ((f4 0), .inl (c4, 1000, .inl u))]) (va_A [(h0, .inr (3, [.ref (f4 0), .int 8])), ((f4 0), .inl (c4, 1000, .inl bf))] sz)) 0 0 (va_A [(h0, .inr (3, [.ref (f4 0), .int 8])), ((f4 0), .inl (c4, 1000, .inl bf))] sz) := by
  refine Met.ofW (cc := cX4_append) (maxL := 3) (ret := none) (by decide) rfl ?_
  intro p e s m args below meth c s₁ B hml hv
  obtain ⟨rfl, hsz, hP, hK, hD0, hE⟩ := hv
  have hx := B.exec
  have hb := B.bytes
  have hr := B.returns
  have hts0 := atoms_spec (ws := (.code yX4_append cX4_append 3 none :: TBL)) B.pre
  have hts := fun (w : Cond) (h : w ∈ TBL) => hts0 w (List.mem_cons_of_mem _ h)
  have hown : s.vm.findClass RX4 = some m.cls := findClass_of_methodNamed B.named
  have hlocks := B.notSynchronized
  have hN := hE.1
  subst hsz
  have hD := hD0.self (sz := s.heap.size)
  generalize hAe : va_A [(h0, .inr (3, [.ref (f4 0), .int 8])), ((f4 0), .inl (c4, 1000, .inl bf))] s.heap.size = A at hD hE ⊢
  have hA : ∀ q : Nat, s.heap.size ≤ q → A q := fun q h => by rw [← hAe]; exact Or.inr h
  have hS : va_S A s.heap s.heap [] := va_S.rf
  have hP : va_P (dC, dI) vwCl [(h0, .inr (3, [.ref (f4 0), .int 8])), ((f4 0), .inl (c4, 1000, .inl bf))] s.heap := hP
  have hl := lv_entry ([.ref h0, .int vv]) (n := 3) (Nat.le_of_ble_eq_true rfl)
  rw [lg_entry_eq]
  generalize (lg_sl ([.ref h0, .int vv]) ++ List.replicate (3 - (lg_sl ([.ref h0, .int vv])).length) Slot.unset).toArray = ls at hl ⊢
  have hl : lv_has ls 3 [(0, .ref h0), (1, .int vv)] := hl
  refine lv_bipush (v := 24) hx hb dX4_append_0 (by decide) ?_
  refine lv_istore_n (lv' := [(2, .int 24), (0, .ref h0), (1, .int vv)]) hx hb dX4_append_2 rfl hl (by decide) rfl (fun ls hl => ?_)
  refine lv_iload_n hx hb dX4_append_3 rfl (lv_at hl 0 rfl) ?_
  refine lv_if_lt (tgt := 48) hx hb dX4_append_4 (by decide) (fun c4_1 => by exfalso; exact absurd c4_1 (by decide)) (fun c4_1 => ?_)
  refine lv_aload_n hx hb dX4_append_7 rfl (lv_at hl 1 rfl) ?_
  refine va_get (D := (dC, dI)) (ci := 3) (v := .int 8) (C := RX4) (T := TX4) (N := 2) hx hb hts inlX4 hown hK hP 0 rfl rfl 1 (by decide) (hts (.fieldLink RX4 15 "ClosedUntil$Tape" "length" "I") qw_289) (fun _ h9 => h9) rfl dX4_append_8 ?_
  refine lv_aload_n hx hb dX4_append_11 rfl (lv_at hl 1 rfl) ?_
  refine va_get (D := (dC, dI)) (ci := 3) (v := .ref (f4 0)) (C := RX4) (T := TX4) (N := 2) hx hb hts inlX4 hown hK hP 0 rfl rfl 0 (by decide) (hts (.fieldLink RX4 9 "ClosedUntil$Tape" "bytes" "[B") qw_104) (fun _ h9 => h9) rfl dX4_append_12 ?_
  refine va_alen hx hb hK hP 1 0 rfl rfl (v := 1000) (show Int32.ofNat 1000 = 1000 from by decide) dX4_append_15 ?_
  refine lv_icmp_ge (tgt := 48) hx hb dX4_append_16 (by decide) (fun c16_2 => by exfalso; exact absurd c16_2 (by decide)) (fun c16_2 => ?_)
  refine lv_aload_n hx hb dX4_append_19 rfl (lv_at hl 1 rfl) ?_
  refine va_get (D := (dC, dI)) (ci := 3) (v := .ref (f4 0)) (C := RX4) (T := TX4) (N := 2) hx hb hts inlX4 hown hK hP 0 rfl rfl 0 (by decide) (hts (.fieldLink RX4 9 "ClosedUntil$Tape" "bytes" "[B") qw_104) (fun _ h9 => h9) rfl dX4_append_20 ?_
  refine lv_aload_n hx hb dX4_append_23 rfl (lv_at hl 1 rfl) ?_
  refine va_get (D := (dC, dI)) (ci := 3) (v := .int 8) (C := RX4) (T := TX4) (N := 2) hx hb hts inlX4 hown hK hP 0 rfl rfl 1 (by decide) (hts (.fieldLink RX4 15 "ClosedUntil$Tape" "length" "I") qw_289) (fun _ h9 => h9) rfl dX4_append_24 ?_
  refine lv_iload_n hx hb dX4_append_27 rfl (lv_at hl 2 rfl) ?_
  refine lv_iload_n hx hb dX4_append_28 rfl (lv_at hl 0 rfl) ?_
  refine lv_iushr hx hb dX4_append_29 rfl ?_
  refine lv_topi (fun x3 e_x3 => ?_)
  refine lv_i2b hx hb dX4_append_30 rfl ?_
  refine lv_topi (fun x4 e_x4 => ?_)
  refine va_bast hx hb hK hP hD hS 1 0 rfl rfl (vin0 (by decide)) dX4_append_31 (fun H locs hP hD hS => ?_)
  have hP : va_P (dC, dI) vwCl [(h0, .inr (3, [.ref (f4 0), .int 8])), ((f4 0), .inl (c4, 1000, .inl (upd bf (8 : Int32).toNatClampNeg (vp_nar .byte x4))))] H := hP
  have hD : va_D A [(h0, .inr (3, [.ref (f4 0), .int 8])), ((f4 0), .inl (c4, 1000, .inl (upd bf (8 : Int32).toNatClampNeg (vp_nar .byte x4))))] := hD
  refine lv_aload_n hx hb dX4_append_32 rfl (lv_at hl 1 rfl) ?_
  refine lv_dup hx hb dX4_append_33 rfl ?_
  refine va_get (D := (dC, dI)) (ci := 3) (v := .int 8) (C := RX4) (T := TX4) (N := 2) hx hb hts inlX4 hown hK hP 0 rfl rfl 1 (by decide) (hts (.fieldLink RX4 15 "ClosedUntil$Tape" "length" "I") qw_289) (fun _ h9 => h9) rfl dX4_append_34 ?_
  refine lv_iconst (v := 1) hx hb dX4_append_37 (by decide) ?_
  refine lv_iadd hx hb dX4_append_38 ?_
  refine cst (v := 9) (by decide) ?_
  refine va_put (D := (dC, dI)) (ci := 3) (v := .int 9) (ty := .int) (C := RX4) (T := TX4) (N := 2) hx hb hts inlX4 tyX4 tyX4_ok nmX4 hown hK hP hD hS 0 rfl rfl 1 (by decide) (hts (.fieldLink RX4 15 "ClosedUntil$Tape" "length" "I") qw_289) (fun _ h9 => h9) rfl (by decide +kernel) rfl rfl (Nat.le_of_ble_eq_true rfl) dX4_append_39 (fun H locs hP hD hS => ?_)
  have hP : va_P (dC, dI) vwCl [(h0, .inr (3, [.ref (f4 0), .int 9])), ((f4 0), .inl (c4, 1000, .inl (upd bf (8 : Int32).toNatClampNeg (vp_nar .byte x4))))] H := hP
  have hD : va_D A [(h0, .inr (3, [.ref (f4 0), .int 9])), ((f4 0), .inl (c4, 1000, .inl (upd bf (8 : Int32).toNatClampNeg (vp_nar .byte x4))))] := hD
  refine lv_iinc (v := 16) (lv' := [(2, .int 16), (0, .ref h0), (1, .int vv)]) hx hb dX4_append_42 hl (k := 0) rfl (by decide) (by decide) rfl (fun ls hl => ?_)
  refine lv_goto (tgt := 3) hx hb dX4_append_45 (by decide) ?_
  refine lv_iload_n hx hb dX4_append_3 rfl (lv_at hl 0 rfl) ?_
  refine lv_if_lt (tgt := 48) hx hb dX4_append_4 (by decide) (fun c4_5 => by exfalso; exact absurd c4_5 (by decide)) (fun c4_5 => ?_)
  refine lv_aload_n hx hb dX4_append_7 rfl (lv_at hl 1 rfl) ?_
  refine va_get (D := (dC, dI)) (ci := 3) (v := .int 9) (C := RX4) (T := TX4) (N := 2) hx hb hts inlX4 hown hK hP 0 rfl rfl 1 (by decide) (hts (.fieldLink RX4 15 "ClosedUntil$Tape" "length" "I") qw_289) (fun _ h9 => h9) rfl dX4_append_8 ?_
  refine lv_aload_n hx hb dX4_append_11 rfl (lv_at hl 1 rfl) ?_
  refine va_get (D := (dC, dI)) (ci := 3) (v := .ref (f4 0)) (C := RX4) (T := TX4) (N := 2) hx hb hts inlX4 hown hK hP 0 rfl rfl 0 (by decide) (hts (.fieldLink RX4 9 "ClosedUntil$Tape" "bytes" "[B") qw_104) (fun _ h9 => h9) rfl dX4_append_12 ?_
  refine va_alen hx hb hK hP 1 0 rfl rfl (v := 1000) (show Int32.ofNat 1000 = 1000 from by decide) dX4_append_15 ?_
  refine lv_icmp_ge (tgt := 48) hx hb dX4_append_16 (by decide) (fun c16_6 => by exfalso; exact absurd c16_6 (by decide)) (fun c16_6 => ?_)
  refine lv_aload_n hx hb dX4_append_19 rfl (lv_at hl 1 rfl) ?_
  refine va_get (D := (dC, dI)) (ci := 3) (v := .ref (f4 0)) (C := RX4) (T := TX4) (N := 2) hx hb hts inlX4 hown hK hP 0 rfl rfl 0 (by decide) (hts (.fieldLink RX4 9 "ClosedUntil$Tape" "bytes" "[B") qw_104) (fun _ h9 => h9) rfl dX4_append_20 ?_
  refine lv_aload_n hx hb dX4_append_23 rfl (lv_at hl 1 rfl) ?_
  refine va_get (D := (dC, dI)) (ci := 3) (v := .int 9) (C := RX4) (T := TX4) (N := 2) hx hb hts inlX4 hown hK hP 0 rfl rfl 1 (by decide) (hts (.fieldLink RX4 15 "ClosedUntil$Tape" "length" "I") qw_289) (fun _ h9 => h9) rfl dX4_append_24 ?_
  refine lv_iload_n hx hb dX4_append_27 rfl (lv_at hl 2 rfl) ?_
  refine lv_iload_n hx hb dX4_append_28 rfl (lv_at hl 0 rfl) ?_
  refine lv_iushr hx hb dX4_append_29 rfl ?_
  refine lv_topi (fun x7 e_x7 => ?_)
  refine lv_i2b hx hb dX4_append_30 rfl ?_
  refine lv_topi (fun x8 e_x8 => ?_)
  refine va_bast hx hb hK hP hD hS 1 0 rfl rfl (vin0 (by decide)) dX4_append_31 (fun H locs hP hD hS => ?_)
  have hP : va_P (dC, dI) vwCl [(h0, .inr (3, [.ref (f4 0), .int 9])), ((f4 0), .inl (c4, 1000, .inl (upd (upd bf (8 : Int32).toNatClampNeg (vp_nar .byte x4)) (9 : Int32).toNatClampNeg (vp_nar .byte x8))))] H := hP
  have hD : va_D A [(h0, .inr (3, [.ref (f4 0), .int 9])), ((f4 0), .inl (c4, 1000, .inl (upd (upd bf (8 : Int32).toNatClampNeg (vp_nar .byte x4)) (9 : Int32).toNatClampNeg (vp_nar .byte x8))))] := hD
  refine lv_aload_n hx hb dX4_append_32 rfl (lv_at hl 1 rfl) ?_
  refine lv_dup hx hb dX4_append_33 rfl ?_
  refine va_get (D := (dC, dI)) (ci := 3) (v := .int 9) (C := RX4) (T := TX4) (N := 2) hx hb hts inlX4 hown hK hP 0 rfl rfl 1 (by decide) (hts (.fieldLink RX4 15 "ClosedUntil$Tape" "length" "I") qw_289) (fun _ h9 => h9) rfl dX4_append_34 ?_
  refine lv_iconst (v := 1) hx hb dX4_append_37 (by decide) ?_
  refine lv_iadd hx hb dX4_append_38 ?_
  refine cst (v := 10) (by decide) ?_
  refine va_put (D := (dC, dI)) (ci := 3) (v := .int 10) (ty := .int) (C := RX4) (T := TX4) (N := 2) hx hb hts inlX4 tyX4 tyX4_ok nmX4 hown hK hP hD hS 0 rfl rfl 1 (by decide) (hts (.fieldLink RX4 15 "ClosedUntil$Tape" "length" "I") qw_289) (fun _ h9 => h9) rfl (by decide +kernel) rfl rfl (Nat.le_of_ble_eq_true rfl) dX4_append_39 (fun H locs hP hD hS => ?_)
  have hP : va_P (dC, dI) vwCl [(h0, .inr (3, [.ref (f4 0), .int 10])), ((f4 0), .inl (c4, 1000, .inl (upd (upd bf (8 : Int32).toNatClampNeg (vp_nar .byte x4)) (9 : Int32).toNatClampNeg (vp_nar .byte x8))))] H := hP
  have hD : va_D A [(h0, .inr (3, [.ref (f4 0), .int 10])), ((f4 0), .inl (c4, 1000, .inl (upd (upd bf (8 : Int32).toNatClampNeg (vp_nar .byte x4)) (9 : Int32).toNatClampNeg (vp_nar .byte x8))))] := hD
  refine lv_iinc (v := 8) (lv' := [(2, .int 8), (0, .ref h0), (1, .int vv)]) hx hb dX4_append_42 hl (k := 0) rfl (by decide) (by decide) rfl (fun ls hl => ?_)
  refine lv_goto (tgt := 3) hx hb dX4_append_45 (by decide) ?_
  refine lv_iload_n hx hb dX4_append_3 rfl (lv_at hl 0 rfl) ?_
  refine lv_if_lt (tgt := 48) hx hb dX4_append_4 (by decide) (fun c4_9 => by exfalso; exact absurd c4_9 (by decide)) (fun c4_9 => ?_)
  refine lv_aload_n hx hb dX4_append_7 rfl (lv_at hl 1 rfl) ?_
  refine va_get (D := (dC, dI)) (ci := 3) (v := .int 10) (C := RX4) (T := TX4) (N := 2) hx hb hts inlX4 hown hK hP 0 rfl rfl 1 (by decide) (hts (.fieldLink RX4 15 "ClosedUntil$Tape" "length" "I") qw_289) (fun _ h9 => h9) rfl dX4_append_8 ?_
  refine lv_aload_n hx hb dX4_append_11 rfl (lv_at hl 1 rfl) ?_
  refine va_get (D := (dC, dI)) (ci := 3) (v := .ref (f4 0)) (C := RX4) (T := TX4) (N := 2) hx hb hts inlX4 hown hK hP 0 rfl rfl 0 (by decide) (hts (.fieldLink RX4 9 "ClosedUntil$Tape" "bytes" "[B") qw_104) (fun _ h9 => h9) rfl dX4_append_12 ?_
  refine va_alen hx hb hK hP 1 0 rfl rfl (v := 1000) (show Int32.ofNat 1000 = 1000 from by decide) dX4_append_15 ?_
  refine lv_icmp_ge (tgt := 48) hx hb dX4_append_16 (by decide) (fun c16_10 => by exfalso; exact absurd c16_10 (by decide)) (fun c16_10 => ?_)
  refine lv_aload_n hx hb dX4_append_19 rfl (lv_at hl 1 rfl) ?_
  refine va_get (D := (dC, dI)) (ci := 3) (v := .ref (f4 0)) (C := RX4) (T := TX4) (N := 2) hx hb hts inlX4 hown hK hP 0 rfl rfl 0 (by decide) (hts (.fieldLink RX4 9 "ClosedUntil$Tape" "bytes" "[B") qw_104) (fun _ h9 => h9) rfl dX4_append_20 ?_
  refine lv_aload_n hx hb dX4_append_23 rfl (lv_at hl 1 rfl) ?_
  refine va_get (D := (dC, dI)) (ci := 3) (v := .int 10) (C := RX4) (T := TX4) (N := 2) hx hb hts inlX4 hown hK hP 0 rfl rfl 1 (by decide) (hts (.fieldLink RX4 15 "ClosedUntil$Tape" "length" "I") qw_289) (fun _ h9 => h9) rfl dX4_append_24 ?_
  refine lv_iload_n hx hb dX4_append_27 rfl (lv_at hl 2 rfl) ?_
  refine lv_iload_n hx hb dX4_append_28 rfl (lv_at hl 0 rfl) ?_
  refine lv_iushr hx hb dX4_append_29 rfl ?_
  refine lv_topi (fun x11 e_x11 => ?_)
  refine lv_i2b hx hb dX4_append_30 rfl ?_
  refine lv_topi (fun x12 e_x12 => ?_)
  refine va_bast hx hb hK hP hD hS 1 0 rfl rfl (vin0 (by decide)) dX4_append_31 (fun H locs hP hD hS => ?_)
  have hP : va_P (dC, dI) vwCl [(h0, .inr (3, [.ref (f4 0), .int 10])), ((f4 0), .inl (c4, 1000, .inl (upd (upd (upd bf (8 : Int32).toNatClampNeg (vp_nar .byte x4)) (9 : Int32).toNatClampNeg (vp_nar .byte x8)) (10 : Int32).toNatClampNeg (vp_nar .byte x12))))] H := hP
  have hD : va_D A [(h0, .inr (3, [.ref (f4 0), .int 10])), ((f4 0), .inl (c4, 1000, .inl (upd (upd (upd bf (8 : Int32).toNatClampNeg (vp_nar .byte x4)) (9 : Int32).toNatClampNeg (vp_nar .byte x8)) (10 : Int32).toNatClampNeg (vp_nar .byte x12))))] := hD
  refine lv_aload_n hx hb dX4_append_32 rfl (lv_at hl 1 rfl) ?_
  refine lv_dup hx hb dX4_append_33 rfl ?_
  refine va_get (D := (dC, dI)) (ci := 3) (v := .int 10) (C := RX4) (T := TX4) (N := 2) hx hb hts inlX4 hown hK hP 0 rfl rfl 1 (by decide) (hts (.fieldLink RX4 15 "ClosedUntil$Tape" "length" "I") qw_289) (fun _ h9 => h9) rfl dX4_append_34 ?_
  refine lv_iconst (v := 1) hx hb dX4_append_37 (by decide) ?_
  refine lv_iadd hx hb dX4_append_38 ?_
  refine cst (v := 11) (by decide) ?_
  refine va_put (D := (dC, dI)) (ci := 3) (v := .int 11) (ty := .int) (C := RX4) (T := TX4) (N := 2) hx hb hts inlX4 tyX4 tyX4_ok nmX4 hown hK hP hD hS 0 rfl rfl 1 (by decide) (hts (.fieldLink RX4 15 "ClosedUntil$Tape" "length" "I") qw_289) (fun _ h9 => h9) rfl (by decide +kernel) rfl rfl (Nat.le_of_ble_eq_true rfl) dX4_append_39 (fun H locs hP hD hS => ?_)
  have hP : va_P (dC, dI) vwCl [(h0, .inr (3, [.ref (f4 0), .int 11])), ((f4 0), .inl (c4, 1000, .inl (upd (upd (upd bf (8 : Int32).toNatClampNeg (vp_nar .byte x4)) (9 : Int32).toNatClampNeg (vp_nar .byte x8)) (10 : Int32).toNatClampNeg (vp_nar .byte x12))))] H := hP
  have hD : va_D A [(h0, .inr (3, [.ref (f4 0), .int 11])), ((f4 0), .inl (c4, 1000, .inl (upd (upd (upd bf (8 : Int32).toNatClampNeg (vp_nar .byte x4)) (9 : Int32).toNatClampNeg (vp_nar .byte x8)) (10 : Int32).toNatClampNeg (vp_nar .byte x12))))] := hD
  refine lv_iinc (v := 0) (lv' := [(2, .int 0), (0, .ref h0), (1, .int vv)]) hx hb dX4_append_42 hl (k := 0) rfl (by decide) (by decide) rfl (fun ls hl => ?_)
  refine lv_goto (tgt := 3) hx hb dX4_append_45 (by decide) ?_
  refine lv_iload_n hx hb dX4_append_3 rfl (lv_at hl 0 rfl) ?_
  refine lv_if_lt (tgt := 48) hx hb dX4_append_4 (by decide) (fun c4_13 => by exfalso; exact absurd c4_13 (by decide)) (fun c4_13 => ?_)
  refine lv_aload_n hx hb dX4_append_7 rfl (lv_at hl 1 rfl) ?_
  refine va_get (D := (dC, dI)) (ci := 3) (v := .int 11) (C := RX4) (T := TX4) (N := 2) hx hb hts inlX4 hown hK hP 0 rfl rfl 1 (by decide) (hts (.fieldLink RX4 15 "ClosedUntil$Tape" "length" "I") qw_289) (fun _ h9 => h9) rfl dX4_append_8 ?_
  refine lv_aload_n hx hb dX4_append_11 rfl (lv_at hl 1 rfl) ?_
  refine va_get (D := (dC, dI)) (ci := 3) (v := .ref (f4 0)) (C := RX4) (T := TX4) (N := 2) hx hb hts inlX4 hown hK hP 0 rfl rfl 0 (by decide) (hts (.fieldLink RX4 9 "ClosedUntil$Tape" "bytes" "[B") qw_104) (fun _ h9 => h9) rfl dX4_append_12 ?_
  refine va_alen hx hb hK hP 1 0 rfl rfl (v := 1000) (show Int32.ofNat 1000 = 1000 from by decide) dX4_append_15 ?_
  refine lv_icmp_ge (tgt := 48) hx hb dX4_append_16 (by decide) (fun c16_14 => by exfalso; exact absurd c16_14 (by decide)) (fun c16_14 => ?_)
  refine lv_aload_n hx hb dX4_append_19 rfl (lv_at hl 1 rfl) ?_
  refine va_get (D := (dC, dI)) (ci := 3) (v := .ref (f4 0)) (C := RX4) (T := TX4) (N := 2) hx hb hts inlX4 hown hK hP 0 rfl rfl 0 (by decide) (hts (.fieldLink RX4 9 "ClosedUntil$Tape" "bytes" "[B") qw_104) (fun _ h9 => h9) rfl dX4_append_20 ?_
  refine lv_aload_n hx hb dX4_append_23 rfl (lv_at hl 1 rfl) ?_
  refine va_get (D := (dC, dI)) (ci := 3) (v := .int 11) (C := RX4) (T := TX4) (N := 2) hx hb hts inlX4 hown hK hP 0 rfl rfl 1 (by decide) (hts (.fieldLink RX4 15 "ClosedUntil$Tape" "length" "I") qw_289) (fun _ h9 => h9) rfl dX4_append_24 ?_
  refine lv_iload_n hx hb dX4_append_27 rfl (lv_at hl 2 rfl) ?_
  refine lv_iload_n hx hb dX4_append_28 rfl (lv_at hl 0 rfl) ?_
  refine lv_iushr hx hb dX4_append_29 rfl ?_
  refine lv_topi (fun x15 e_x15 => ?_)
  refine lv_i2b hx hb dX4_append_30 rfl ?_
  refine lv_topi (fun x16 e_x16 => ?_)
  refine va_bast hx hb hK hP hD hS 1 0 rfl rfl (vin0 (by decide)) dX4_append_31 (fun H locs hP hD hS => ?_)
  have hP : va_P (dC, dI) vwCl [(h0, .inr (3, [.ref (f4 0), .int 11])), ((f4 0), .inl (c4, 1000, .inl (upd (upd (upd (upd bf (8 : Int32).toNatClampNeg (vp_nar .byte x4)) (9 : Int32).toNatClampNeg (vp_nar .byte x8)) (10 : Int32).toNatClampNeg (vp_nar .byte x12)) (11 : Int32).toNatClampNeg (vp_nar .byte x16))))] H := hP
  have hD : va_D A [(h0, .inr (3, [.ref (f4 0), .int 11])), ((f4 0), .inl (c4, 1000, .inl (upd (upd (upd (upd bf (8 : Int32).toNatClampNeg (vp_nar .byte x4)) (9 : Int32).toNatClampNeg (vp_nar .byte x8)) (10 : Int32).toNatClampNeg (vp_nar .byte x12)) (11 : Int32).toNatClampNeg (vp_nar .byte x16))))] := hD
  refine lv_aload_n hx hb dX4_append_32 rfl (lv_at hl 1 rfl) ?_
  refine lv_dup hx hb dX4_append_33 rfl ?_
  refine va_get (D := (dC, dI)) (ci := 3) (v := .int 11) (C := RX4) (T := TX4) (N := 2) hx hb hts inlX4 hown hK hP 0 rfl rfl 1 (by decide) (hts (.fieldLink RX4 15 "ClosedUntil$Tape" "length" "I") qw_289) (fun _ h9 => h9) rfl dX4_append_34 ?_
  refine lv_iconst (v := 1) hx hb dX4_append_37 (by decide) ?_
  refine lv_iadd hx hb dX4_append_38 ?_
  refine cst (v := 12) (by decide) ?_
  refine va_put (D := (dC, dI)) (ci := 3) (v := .int 12) (ty := .int) (C := RX4) (T := TX4) (N := 2) hx hb hts inlX4 tyX4 tyX4_ok nmX4 hown hK hP hD hS 0 rfl rfl 1 (by decide) (hts (.fieldLink RX4 15 "ClosedUntil$Tape" "length" "I") qw_289) (fun _ h9 => h9) rfl (by decide +kernel) rfl rfl (Nat.le_of_ble_eq_true rfl) dX4_append_39 (fun H locs hP hD hS => ?_)
  have hP : va_P (dC, dI) vwCl [(h0, .inr (3, [.ref (f4 0), .int 12])), ((f4 0), .inl (c4, 1000, .inl (upd (upd (upd (upd bf (8 : Int32).toNatClampNeg (vp_nar .byte x4)) (9 : Int32).toNatClampNeg (vp_nar .byte x8)) (10 : Int32).toNatClampNeg (vp_nar .byte x12)) (11 : Int32).toNatClampNeg (vp_nar .byte x16))))] H := hP
  have hD : va_D A [(h0, .inr (3, [.ref (f4 0), .int 12])), ((f4 0), .inl (c4, 1000, .inl (upd (upd (upd (upd bf (8 : Int32).toNatClampNeg (vp_nar .byte x4)) (9 : Int32).toNatClampNeg (vp_nar .byte x8)) (10 : Int32).toNatClampNeg (vp_nar .byte x12)) (11 : Int32).toNatClampNeg (vp_nar .byte x16))))] := hD
  refine lv_iinc (v := (-8)) (lv' := [(2, .int (-8)), (0, .ref h0), (1, .int vv)]) hx hb dX4_append_42 hl (k := 0) rfl (by decide) (by decide) rfl (fun ls hl => ?_)
  refine lv_goto (tgt := 3) hx hb dX4_append_45 (by decide) ?_
  refine lv_iload_n hx hb dX4_append_3 rfl (lv_at hl 0 rfl) ?_
  refine lv_if_lt (tgt := 48) hx hb dX4_append_4 (by decide) (fun c4_17 => ?_) (fun c4_17 => by exfalso; exact absurd c4_17 (by decide))
  refine W.widen (k := 0) (n := 0) (Nat.le_of_ble_eq_true rfl) (Nat.le_of_ble_eq_true rfl) ?_
  have hP9 := hP.sub (ws' := [(h0, .inr (3, [.ref (f4 0), .int 12])), ((f4 0), .inl (c4, 1000, .inl (upd (upd (upd (upd bf (8 : Int32).toNatClampNeg (vp_nar .byte x4)) (9 : Int32).toNatClampNeg (vp_nar .byte x8)) (10 : Int32).toNatClampNeg (vp_nar .byte x12)) (11 : Int32).toNatClampNeg (vp_nar .byte x16))))]) [0, 1] rfl
  have hD9 := hD.sub (ws' := [(h0, .inr (3, [.ref (f4 0), .int 12])), ((f4 0), .inl (c4, 1000, .inl (upd (upd (upd (upd bf (8 : Int32).toNatClampNeg (vp_nar .byte x4)) (9 : Int32).toNatClampNeg (vp_nar .byte x8)) (10 : Int32).toNatClampNeg (vp_nar .byte x12)) (11 : Int32).toNatClampNeg (vp_nar .byte x16))))]) [0, 1] (by decide) rfl
  have hK9 := hK.sub (tys' := []) [] rfl
  exact W.vret hx hb hr (fun t ht hW => ⟨⟨((upd (upd (upd (upd bf (8 : Int32).toNatClampNeg (vp_nar .byte x4)) (9 : Int32).toNatClampNeg (vp_nar .byte x8)) (10 : Int32).toNatClampNeg (vp_nar .byte x12)) (11 : Int32).toNatClampNeg (vp_nar .byte x16))), rfl, (trivial), by rw [ht]; exact hP9, va_K.moved hW.alike hK9, hD9⟩, hS.F ht⟩) hS.2.2 dX4_append_48
set_option maxHeartbeats 4000000 in
set_option maxRecDepth 100000 in
theorem c_ap12 (l : Launch) (dC : Nat → ClassId) (dI : Nat → Nat → Nat) (g : Gv) (sz : Nat) (h0 : Nat) (f4 : Nat → Nat) (c4 : ClassId) (bf : Nat → Int32) (vv : Int32)  : Met l yX4_append (.code yX4_append cX4_append 3 none :: TBL) ({ frames := 0, cells := 0, slots := 0, locals := 0 }) (va_Pc [.ref h0, .int vv] (fun U => U.heap.size = sz ∧ va_P (dC, dI) vwCl [(h0, .inr (3, [.ref (f4 0), .int 12])), ((f4 0), .inl (c4, 1000, .inl bf))] U.heap ∧ va_K (dC, dI) vwCl [(c4, .byte)] U ∧ va_D (fun _ => True) [(h0, .inr (3, [.ref (f4 0), .int 12])), ((f4 0), .inl (c4, 1000, .inl bf))] ∧ Ev g (va_A [(h0, .inr (3, [.ref (f4 0), .int 12])), ((f4 0), .inl (c4, 1000, .inl bf))] sz) U)) (va_Qv (fun (u : (Nat → Int32)) => True) (fun (u : (Nat → Int32)) (t : State) => va_P (dC, dI) vwCl [(h0, .inr (3, [.ref (f4 0), .int 16])), ((f4 0), .inl (c4, 1000, .inl u))] t.heap ∧ va_K (dC, dI) vwCl [] t ∧ va_D (va_A [(h0, .inr (3, [.ref (f4 0), .int 12])), ((f4 0), .inl (c4, 1000, .inl bf))] sz) [(h0, .inr (3, [.ref (f4 0), .int 16])), ((f4 0), .inl (c4, 1000, .inl u))]) (va_A [(h0, .inr (3, [.ref (f4 0), .int 12])), ((f4 0), .inl (c4, 1000, .inl bf))] sz)) 0 0 (va_A [(h0, .inr (3, [.ref (f4 0), .int 12])), ((f4 0), .inl (c4, 1000, .inl bf))] sz) := by
  refine Met.ofW (cc := cX4_append) (maxL := 3) (ret := none) (by decide) rfl ?_
  intro p e s m args below meth c s₁ B hml hv
  obtain ⟨rfl, hsz, hP, hK, hD0, hE⟩ := hv
  have hx := B.exec
  have hb := B.bytes
  have hr := B.returns
  have hts0 := atoms_spec (ws := (.code yX4_append cX4_append 3 none :: TBL)) B.pre
  have hts := fun (w : Cond) (h : w ∈ TBL) => hts0 w (List.mem_cons_of_mem _ h)
  have hown : s.vm.findClass RX4 = some m.cls := findClass_of_methodNamed B.named
  have hlocks := B.notSynchronized
  have hN := hE.1
  subst hsz
  have hD := hD0.self (sz := s.heap.size)
  generalize hAe : va_A [(h0, .inr (3, [.ref (f4 0), .int 12])), ((f4 0), .inl (c4, 1000, .inl bf))] s.heap.size = A at hD hE ⊢
  have hA : ∀ q : Nat, s.heap.size ≤ q → A q := fun q h => by rw [← hAe]; exact Or.inr h
  have hS : va_S A s.heap s.heap [] := va_S.rf
  have hP : va_P (dC, dI) vwCl [(h0, .inr (3, [.ref (f4 0), .int 12])), ((f4 0), .inl (c4, 1000, .inl bf))] s.heap := hP
  have hl := lv_entry ([.ref h0, .int vv]) (n := 3) (Nat.le_of_ble_eq_true rfl)
  rw [lg_entry_eq]
  generalize (lg_sl ([.ref h0, .int vv]) ++ List.replicate (3 - (lg_sl ([.ref h0, .int vv])).length) Slot.unset).toArray = ls at hl ⊢
  have hl : lv_has ls 3 [(0, .ref h0), (1, .int vv)] := hl
  refine lv_bipush (v := 24) hx hb dX4_append_0 (by decide) ?_
  refine lv_istore_n (lv' := [(2, .int 24), (0, .ref h0), (1, .int vv)]) hx hb dX4_append_2 rfl hl (by decide) rfl (fun ls hl => ?_)
  refine lv_iload_n hx hb dX4_append_3 rfl (lv_at hl 0 rfl) ?_
  refine lv_if_lt (tgt := 48) hx hb dX4_append_4 (by decide) (fun c4_1 => by exfalso; exact absurd c4_1 (by decide)) (fun c4_1 => ?_)
  refine lv_aload_n hx hb dX4_append_7 rfl (lv_at hl 1 rfl) ?_
  refine va_get (D := (dC, dI)) (ci := 3) (v := .int 12) (C := RX4) (T := TX4) (N := 2) hx hb hts inlX4 hown hK hP 0 rfl rfl 1 (by decide) (hts (.fieldLink RX4 15 "ClosedUntil$Tape" "length" "I") qw_289) (fun _ h9 => h9) rfl dX4_append_8 ?_
  refine lv_aload_n hx hb dX4_append_11 rfl (lv_at hl 1 rfl) ?_
  refine va_get (D := (dC, dI)) (ci := 3) (v := .ref (f4 0)) (C := RX4) (T := TX4) (N := 2) hx hb hts inlX4 hown hK hP 0 rfl rfl 0 (by decide) (hts (.fieldLink RX4 9 "ClosedUntil$Tape" "bytes" "[B") qw_104) (fun _ h9 => h9) rfl dX4_append_12 ?_
  refine va_alen hx hb hK hP 1 0 rfl rfl (v := 1000) (show Int32.ofNat 1000 = 1000 from by decide) dX4_append_15 ?_
  refine lv_icmp_ge (tgt := 48) hx hb dX4_append_16 (by decide) (fun c16_2 => by exfalso; exact absurd c16_2 (by decide)) (fun c16_2 => ?_)
  refine lv_aload_n hx hb dX4_append_19 rfl (lv_at hl 1 rfl) ?_
  refine va_get (D := (dC, dI)) (ci := 3) (v := .ref (f4 0)) (C := RX4) (T := TX4) (N := 2) hx hb hts inlX4 hown hK hP 0 rfl rfl 0 (by decide) (hts (.fieldLink RX4 9 "ClosedUntil$Tape" "bytes" "[B") qw_104) (fun _ h9 => h9) rfl dX4_append_20 ?_
  refine lv_aload_n hx hb dX4_append_23 rfl (lv_at hl 1 rfl) ?_
  refine va_get (D := (dC, dI)) (ci := 3) (v := .int 12) (C := RX4) (T := TX4) (N := 2) hx hb hts inlX4 hown hK hP 0 rfl rfl 1 (by decide) (hts (.fieldLink RX4 15 "ClosedUntil$Tape" "length" "I") qw_289) (fun _ h9 => h9) rfl dX4_append_24 ?_
  refine lv_iload_n hx hb dX4_append_27 rfl (lv_at hl 2 rfl) ?_
  refine lv_iload_n hx hb dX4_append_28 rfl (lv_at hl 0 rfl) ?_
  refine lv_iushr hx hb dX4_append_29 rfl ?_
  refine lv_topi (fun x3 e_x3 => ?_)
  refine lv_i2b hx hb dX4_append_30 rfl ?_
  refine lv_topi (fun x4 e_x4 => ?_)
  refine va_bast hx hb hK hP hD hS 1 0 rfl rfl (vin0 (by decide)) dX4_append_31 (fun H locs hP hD hS => ?_)
  have hP : va_P (dC, dI) vwCl [(h0, .inr (3, [.ref (f4 0), .int 12])), ((f4 0), .inl (c4, 1000, .inl (upd bf (12 : Int32).toNatClampNeg (vp_nar .byte x4))))] H := hP
  have hD : va_D A [(h0, .inr (3, [.ref (f4 0), .int 12])), ((f4 0), .inl (c4, 1000, .inl (upd bf (12 : Int32).toNatClampNeg (vp_nar .byte x4))))] := hD
  refine lv_aload_n hx hb dX4_append_32 rfl (lv_at hl 1 rfl) ?_
  refine lv_dup hx hb dX4_append_33 rfl ?_
  refine va_get (D := (dC, dI)) (ci := 3) (v := .int 12) (C := RX4) (T := TX4) (N := 2) hx hb hts inlX4 hown hK hP 0 rfl rfl 1 (by decide) (hts (.fieldLink RX4 15 "ClosedUntil$Tape" "length" "I") qw_289) (fun _ h9 => h9) rfl dX4_append_34 ?_
  refine lv_iconst (v := 1) hx hb dX4_append_37 (by decide) ?_
  refine lv_iadd hx hb dX4_append_38 ?_
  refine cst (v := 13) (by decide) ?_
  refine va_put (D := (dC, dI)) (ci := 3) (v := .int 13) (ty := .int) (C := RX4) (T := TX4) (N := 2) hx hb hts inlX4 tyX4 tyX4_ok nmX4 hown hK hP hD hS 0 rfl rfl 1 (by decide) (hts (.fieldLink RX4 15 "ClosedUntil$Tape" "length" "I") qw_289) (fun _ h9 => h9) rfl (by decide +kernel) rfl rfl (Nat.le_of_ble_eq_true rfl) dX4_append_39 (fun H locs hP hD hS => ?_)
  have hP : va_P (dC, dI) vwCl [(h0, .inr (3, [.ref (f4 0), .int 13])), ((f4 0), .inl (c4, 1000, .inl (upd bf (12 : Int32).toNatClampNeg (vp_nar .byte x4))))] H := hP
  have hD : va_D A [(h0, .inr (3, [.ref (f4 0), .int 13])), ((f4 0), .inl (c4, 1000, .inl (upd bf (12 : Int32).toNatClampNeg (vp_nar .byte x4))))] := hD
  refine lv_iinc (v := 16) (lv' := [(2, .int 16), (0, .ref h0), (1, .int vv)]) hx hb dX4_append_42 hl (k := 0) rfl (by decide) (by decide) rfl (fun ls hl => ?_)
  refine lv_goto (tgt := 3) hx hb dX4_append_45 (by decide) ?_
  refine lv_iload_n hx hb dX4_append_3 rfl (lv_at hl 0 rfl) ?_
  refine lv_if_lt (tgt := 48) hx hb dX4_append_4 (by decide) (fun c4_5 => by exfalso; exact absurd c4_5 (by decide)) (fun c4_5 => ?_)
  refine lv_aload_n hx hb dX4_append_7 rfl (lv_at hl 1 rfl) ?_
  refine va_get (D := (dC, dI)) (ci := 3) (v := .int 13) (C := RX4) (T := TX4) (N := 2) hx hb hts inlX4 hown hK hP 0 rfl rfl 1 (by decide) (hts (.fieldLink RX4 15 "ClosedUntil$Tape" "length" "I") qw_289) (fun _ h9 => h9) rfl dX4_append_8 ?_
  refine lv_aload_n hx hb dX4_append_11 rfl (lv_at hl 1 rfl) ?_
  refine va_get (D := (dC, dI)) (ci := 3) (v := .ref (f4 0)) (C := RX4) (T := TX4) (N := 2) hx hb hts inlX4 hown hK hP 0 rfl rfl 0 (by decide) (hts (.fieldLink RX4 9 "ClosedUntil$Tape" "bytes" "[B") qw_104) (fun _ h9 => h9) rfl dX4_append_12 ?_
  refine va_alen hx hb hK hP 1 0 rfl rfl (v := 1000) (show Int32.ofNat 1000 = 1000 from by decide) dX4_append_15 ?_
  refine lv_icmp_ge (tgt := 48) hx hb dX4_append_16 (by decide) (fun c16_6 => by exfalso; exact absurd c16_6 (by decide)) (fun c16_6 => ?_)
  refine lv_aload_n hx hb dX4_append_19 rfl (lv_at hl 1 rfl) ?_
  refine va_get (D := (dC, dI)) (ci := 3) (v := .ref (f4 0)) (C := RX4) (T := TX4) (N := 2) hx hb hts inlX4 hown hK hP 0 rfl rfl 0 (by decide) (hts (.fieldLink RX4 9 "ClosedUntil$Tape" "bytes" "[B") qw_104) (fun _ h9 => h9) rfl dX4_append_20 ?_
  refine lv_aload_n hx hb dX4_append_23 rfl (lv_at hl 1 rfl) ?_
  refine va_get (D := (dC, dI)) (ci := 3) (v := .int 13) (C := RX4) (T := TX4) (N := 2) hx hb hts inlX4 hown hK hP 0 rfl rfl 1 (by decide) (hts (.fieldLink RX4 15 "ClosedUntil$Tape" "length" "I") qw_289) (fun _ h9 => h9) rfl dX4_append_24 ?_
  refine lv_iload_n hx hb dX4_append_27 rfl (lv_at hl 2 rfl) ?_
  refine lv_iload_n hx hb dX4_append_28 rfl (lv_at hl 0 rfl) ?_
  refine lv_iushr hx hb dX4_append_29 rfl ?_
  refine lv_topi (fun x7 e_x7 => ?_)
  refine lv_i2b hx hb dX4_append_30 rfl ?_
  refine lv_topi (fun x8 e_x8 => ?_)
  refine va_bast hx hb hK hP hD hS 1 0 rfl rfl (vin0 (by decide)) dX4_append_31 (fun H locs hP hD hS => ?_)
  have hP : va_P (dC, dI) vwCl [(h0, .inr (3, [.ref (f4 0), .int 13])), ((f4 0), .inl (c4, 1000, .inl (upd (upd bf (12 : Int32).toNatClampNeg (vp_nar .byte x4)) (13 : Int32).toNatClampNeg (vp_nar .byte x8))))] H := hP
  have hD : va_D A [(h0, .inr (3, [.ref (f4 0), .int 13])), ((f4 0), .inl (c4, 1000, .inl (upd (upd bf (12 : Int32).toNatClampNeg (vp_nar .byte x4)) (13 : Int32).toNatClampNeg (vp_nar .byte x8))))] := hD
  refine lv_aload_n hx hb dX4_append_32 rfl (lv_at hl 1 rfl) ?_
  refine lv_dup hx hb dX4_append_33 rfl ?_
  refine va_get (D := (dC, dI)) (ci := 3) (v := .int 13) (C := RX4) (T := TX4) (N := 2) hx hb hts inlX4 hown hK hP 0 rfl rfl 1 (by decide) (hts (.fieldLink RX4 15 "ClosedUntil$Tape" "length" "I") qw_289) (fun _ h9 => h9) rfl dX4_append_34 ?_
  refine lv_iconst (v := 1) hx hb dX4_append_37 (by decide) ?_
  refine lv_iadd hx hb dX4_append_38 ?_
  refine cst (v := 14) (by decide) ?_
  refine va_put (D := (dC, dI)) (ci := 3) (v := .int 14) (ty := .int) (C := RX4) (T := TX4) (N := 2) hx hb hts inlX4 tyX4 tyX4_ok nmX4 hown hK hP hD hS 0 rfl rfl 1 (by decide) (hts (.fieldLink RX4 15 "ClosedUntil$Tape" "length" "I") qw_289) (fun _ h9 => h9) rfl (by decide +kernel) rfl rfl (Nat.le_of_ble_eq_true rfl) dX4_append_39 (fun H locs hP hD hS => ?_)
  have hP : va_P (dC, dI) vwCl [(h0, .inr (3, [.ref (f4 0), .int 14])), ((f4 0), .inl (c4, 1000, .inl (upd (upd bf (12 : Int32).toNatClampNeg (vp_nar .byte x4)) (13 : Int32).toNatClampNeg (vp_nar .byte x8))))] H := hP
  have hD : va_D A [(h0, .inr (3, [.ref (f4 0), .int 14])), ((f4 0), .inl (c4, 1000, .inl (upd (upd bf (12 : Int32).toNatClampNeg (vp_nar .byte x4)) (13 : Int32).toNatClampNeg (vp_nar .byte x8))))] := hD
  refine lv_iinc (v := 8) (lv' := [(2, .int 8), (0, .ref h0), (1, .int vv)]) hx hb dX4_append_42 hl (k := 0) rfl (by decide) (by decide) rfl (fun ls hl => ?_)
  refine lv_goto (tgt := 3) hx hb dX4_append_45 (by decide) ?_
  refine lv_iload_n hx hb dX4_append_3 rfl (lv_at hl 0 rfl) ?_
  refine lv_if_lt (tgt := 48) hx hb dX4_append_4 (by decide) (fun c4_9 => by exfalso; exact absurd c4_9 (by decide)) (fun c4_9 => ?_)
  refine lv_aload_n hx hb dX4_append_7 rfl (lv_at hl 1 rfl) ?_
  refine va_get (D := (dC, dI)) (ci := 3) (v := .int 14) (C := RX4) (T := TX4) (N := 2) hx hb hts inlX4 hown hK hP 0 rfl rfl 1 (by decide) (hts (.fieldLink RX4 15 "ClosedUntil$Tape" "length" "I") qw_289) (fun _ h9 => h9) rfl dX4_append_8 ?_
  refine lv_aload_n hx hb dX4_append_11 rfl (lv_at hl 1 rfl) ?_
  refine va_get (D := (dC, dI)) (ci := 3) (v := .ref (f4 0)) (C := RX4) (T := TX4) (N := 2) hx hb hts inlX4 hown hK hP 0 rfl rfl 0 (by decide) (hts (.fieldLink RX4 9 "ClosedUntil$Tape" "bytes" "[B") qw_104) (fun _ h9 => h9) rfl dX4_append_12 ?_
  refine va_alen hx hb hK hP 1 0 rfl rfl (v := 1000) (show Int32.ofNat 1000 = 1000 from by decide) dX4_append_15 ?_
  refine lv_icmp_ge (tgt := 48) hx hb dX4_append_16 (by decide) (fun c16_10 => by exfalso; exact absurd c16_10 (by decide)) (fun c16_10 => ?_)
  refine lv_aload_n hx hb dX4_append_19 rfl (lv_at hl 1 rfl) ?_
  refine va_get (D := (dC, dI)) (ci := 3) (v := .ref (f4 0)) (C := RX4) (T := TX4) (N := 2) hx hb hts inlX4 hown hK hP 0 rfl rfl 0 (by decide) (hts (.fieldLink RX4 9 "ClosedUntil$Tape" "bytes" "[B") qw_104) (fun _ h9 => h9) rfl dX4_append_20 ?_
  refine lv_aload_n hx hb dX4_append_23 rfl (lv_at hl 1 rfl) ?_
  refine va_get (D := (dC, dI)) (ci := 3) (v := .int 14) (C := RX4) (T := TX4) (N := 2) hx hb hts inlX4 hown hK hP 0 rfl rfl 1 (by decide) (hts (.fieldLink RX4 15 "ClosedUntil$Tape" "length" "I") qw_289) (fun _ h9 => h9) rfl dX4_append_24 ?_
  refine lv_iload_n hx hb dX4_append_27 rfl (lv_at hl 2 rfl) ?_
  refine lv_iload_n hx hb dX4_append_28 rfl (lv_at hl 0 rfl) ?_
  refine lv_iushr hx hb dX4_append_29 rfl ?_
  refine lv_topi (fun x11 e_x11 => ?_)
  refine lv_i2b hx hb dX4_append_30 rfl ?_
  refine lv_topi (fun x12 e_x12 => ?_)
  refine va_bast hx hb hK hP hD hS 1 0 rfl rfl (vin0 (by decide)) dX4_append_31 (fun H locs hP hD hS => ?_)
  have hP : va_P (dC, dI) vwCl [(h0, .inr (3, [.ref (f4 0), .int 14])), ((f4 0), .inl (c4, 1000, .inl (upd (upd (upd bf (12 : Int32).toNatClampNeg (vp_nar .byte x4)) (13 : Int32).toNatClampNeg (vp_nar .byte x8)) (14 : Int32).toNatClampNeg (vp_nar .byte x12))))] H := hP
  have hD : va_D A [(h0, .inr (3, [.ref (f4 0), .int 14])), ((f4 0), .inl (c4, 1000, .inl (upd (upd (upd bf (12 : Int32).toNatClampNeg (vp_nar .byte x4)) (13 : Int32).toNatClampNeg (vp_nar .byte x8)) (14 : Int32).toNatClampNeg (vp_nar .byte x12))))] := hD
  refine lv_aload_n hx hb dX4_append_32 rfl (lv_at hl 1 rfl) ?_
  refine lv_dup hx hb dX4_append_33 rfl ?_
  refine va_get (D := (dC, dI)) (ci := 3) (v := .int 14) (C := RX4) (T := TX4) (N := 2) hx hb hts inlX4 hown hK hP 0 rfl rfl 1 (by decide) (hts (.fieldLink RX4 15 "ClosedUntil$Tape" "length" "I") qw_289) (fun _ h9 => h9) rfl dX4_append_34 ?_
  refine lv_iconst (v := 1) hx hb dX4_append_37 (by decide) ?_
  refine lv_iadd hx hb dX4_append_38 ?_
  refine cst (v := 15) (by decide) ?_
  refine va_put (D := (dC, dI)) (ci := 3) (v := .int 15) (ty := .int) (C := RX4) (T := TX4) (N := 2) hx hb hts inlX4 tyX4 tyX4_ok nmX4 hown hK hP hD hS 0 rfl rfl 1 (by decide) (hts (.fieldLink RX4 15 "ClosedUntil$Tape" "length" "I") qw_289) (fun _ h9 => h9) rfl (by decide +kernel) rfl rfl (Nat.le_of_ble_eq_true rfl) dX4_append_39 (fun H locs hP hD hS => ?_)
  have hP : va_P (dC, dI) vwCl [(h0, .inr (3, [.ref (f4 0), .int 15])), ((f4 0), .inl (c4, 1000, .inl (upd (upd (upd bf (12 : Int32).toNatClampNeg (vp_nar .byte x4)) (13 : Int32).toNatClampNeg (vp_nar .byte x8)) (14 : Int32).toNatClampNeg (vp_nar .byte x12))))] H := hP
  have hD : va_D A [(h0, .inr (3, [.ref (f4 0), .int 15])), ((f4 0), .inl (c4, 1000, .inl (upd (upd (upd bf (12 : Int32).toNatClampNeg (vp_nar .byte x4)) (13 : Int32).toNatClampNeg (vp_nar .byte x8)) (14 : Int32).toNatClampNeg (vp_nar .byte x12))))] := hD
  refine lv_iinc (v := 0) (lv' := [(2, .int 0), (0, .ref h0), (1, .int vv)]) hx hb dX4_append_42 hl (k := 0) rfl (by decide) (by decide) rfl (fun ls hl => ?_)
  refine lv_goto (tgt := 3) hx hb dX4_append_45 (by decide) ?_
  refine lv_iload_n hx hb dX4_append_3 rfl (lv_at hl 0 rfl) ?_
  refine lv_if_lt (tgt := 48) hx hb dX4_append_4 (by decide) (fun c4_13 => by exfalso; exact absurd c4_13 (by decide)) (fun c4_13 => ?_)
  refine lv_aload_n hx hb dX4_append_7 rfl (lv_at hl 1 rfl) ?_
  refine va_get (D := (dC, dI)) (ci := 3) (v := .int 15) (C := RX4) (T := TX4) (N := 2) hx hb hts inlX4 hown hK hP 0 rfl rfl 1 (by decide) (hts (.fieldLink RX4 15 "ClosedUntil$Tape" "length" "I") qw_289) (fun _ h9 => h9) rfl dX4_append_8 ?_
  refine lv_aload_n hx hb dX4_append_11 rfl (lv_at hl 1 rfl) ?_
  refine va_get (D := (dC, dI)) (ci := 3) (v := .ref (f4 0)) (C := RX4) (T := TX4) (N := 2) hx hb hts inlX4 hown hK hP 0 rfl rfl 0 (by decide) (hts (.fieldLink RX4 9 "ClosedUntil$Tape" "bytes" "[B") qw_104) (fun _ h9 => h9) rfl dX4_append_12 ?_
  refine va_alen hx hb hK hP 1 0 rfl rfl (v := 1000) (show Int32.ofNat 1000 = 1000 from by decide) dX4_append_15 ?_
  refine lv_icmp_ge (tgt := 48) hx hb dX4_append_16 (by decide) (fun c16_14 => by exfalso; exact absurd c16_14 (by decide)) (fun c16_14 => ?_)
  refine lv_aload_n hx hb dX4_append_19 rfl (lv_at hl 1 rfl) ?_
  refine va_get (D := (dC, dI)) (ci := 3) (v := .ref (f4 0)) (C := RX4) (T := TX4) (N := 2) hx hb hts inlX4 hown hK hP 0 rfl rfl 0 (by decide) (hts (.fieldLink RX4 9 "ClosedUntil$Tape" "bytes" "[B") qw_104) (fun _ h9 => h9) rfl dX4_append_20 ?_
  refine lv_aload_n hx hb dX4_append_23 rfl (lv_at hl 1 rfl) ?_
  refine va_get (D := (dC, dI)) (ci := 3) (v := .int 15) (C := RX4) (T := TX4) (N := 2) hx hb hts inlX4 hown hK hP 0 rfl rfl 1 (by decide) (hts (.fieldLink RX4 15 "ClosedUntil$Tape" "length" "I") qw_289) (fun _ h9 => h9) rfl dX4_append_24 ?_
  refine lv_iload_n hx hb dX4_append_27 rfl (lv_at hl 2 rfl) ?_
  refine lv_iload_n hx hb dX4_append_28 rfl (lv_at hl 0 rfl) ?_
  refine lv_iushr hx hb dX4_append_29 rfl ?_
  refine lv_topi (fun x15 e_x15 => ?_)
  refine lv_i2b hx hb dX4_append_30 rfl ?_
  refine lv_topi (fun x16 e_x16 => ?_)
  refine va_bast hx hb hK hP hD hS 1 0 rfl rfl (vin0 (by decide)) dX4_append_31 (fun H locs hP hD hS => ?_)
  have hP : va_P (dC, dI) vwCl [(h0, .inr (3, [.ref (f4 0), .int 15])), ((f4 0), .inl (c4, 1000, .inl (upd (upd (upd (upd bf (12 : Int32).toNatClampNeg (vp_nar .byte x4)) (13 : Int32).toNatClampNeg (vp_nar .byte x8)) (14 : Int32).toNatClampNeg (vp_nar .byte x12)) (15 : Int32).toNatClampNeg (vp_nar .byte x16))))] H := hP
  have hD : va_D A [(h0, .inr (3, [.ref (f4 0), .int 15])), ((f4 0), .inl (c4, 1000, .inl (upd (upd (upd (upd bf (12 : Int32).toNatClampNeg (vp_nar .byte x4)) (13 : Int32).toNatClampNeg (vp_nar .byte x8)) (14 : Int32).toNatClampNeg (vp_nar .byte x12)) (15 : Int32).toNatClampNeg (vp_nar .byte x16))))] := hD
  refine lv_aload_n hx hb dX4_append_32 rfl (lv_at hl 1 rfl) ?_
  refine lv_dup hx hb dX4_append_33 rfl ?_
  refine va_get (D := (dC, dI)) (ci := 3) (v := .int 15) (C := RX4) (T := TX4) (N := 2) hx hb hts inlX4 hown hK hP 0 rfl rfl 1 (by decide) (hts (.fieldLink RX4 15 "ClosedUntil$Tape" "length" "I") qw_289) (fun _ h9 => h9) rfl dX4_append_34 ?_
  refine lv_iconst (v := 1) hx hb dX4_append_37 (by decide) ?_
  refine lv_iadd hx hb dX4_append_38 ?_
  refine cst (v := 16) (by decide) ?_
  refine va_put (D := (dC, dI)) (ci := 3) (v := .int 16) (ty := .int) (C := RX4) (T := TX4) (N := 2) hx hb hts inlX4 tyX4 tyX4_ok nmX4 hown hK hP hD hS 0 rfl rfl 1 (by decide) (hts (.fieldLink RX4 15 "ClosedUntil$Tape" "length" "I") qw_289) (fun _ h9 => h9) rfl (by decide +kernel) rfl rfl (Nat.le_of_ble_eq_true rfl) dX4_append_39 (fun H locs hP hD hS => ?_)
  have hP : va_P (dC, dI) vwCl [(h0, .inr (3, [.ref (f4 0), .int 16])), ((f4 0), .inl (c4, 1000, .inl (upd (upd (upd (upd bf (12 : Int32).toNatClampNeg (vp_nar .byte x4)) (13 : Int32).toNatClampNeg (vp_nar .byte x8)) (14 : Int32).toNatClampNeg (vp_nar .byte x12)) (15 : Int32).toNatClampNeg (vp_nar .byte x16))))] H := hP
  have hD : va_D A [(h0, .inr (3, [.ref (f4 0), .int 16])), ((f4 0), .inl (c4, 1000, .inl (upd (upd (upd (upd bf (12 : Int32).toNatClampNeg (vp_nar .byte x4)) (13 : Int32).toNatClampNeg (vp_nar .byte x8)) (14 : Int32).toNatClampNeg (vp_nar .byte x12)) (15 : Int32).toNatClampNeg (vp_nar .byte x16))))] := hD
  refine lv_iinc (v := (-8)) (lv' := [(2, .int (-8)), (0, .ref h0), (1, .int vv)]) hx hb dX4_append_42 hl (k := 0) rfl (by decide) (by decide) rfl (fun ls hl => ?_)
  refine lv_goto (tgt := 3) hx hb dX4_append_45 (by decide) ?_
  refine lv_iload_n hx hb dX4_append_3 rfl (lv_at hl 0 rfl) ?_
  refine lv_if_lt (tgt := 48) hx hb dX4_append_4 (by decide) (fun c4_17 => ?_) (fun c4_17 => by exfalso; exact absurd c4_17 (by decide))
  refine W.widen (k := 0) (n := 0) (Nat.le_of_ble_eq_true rfl) (Nat.le_of_ble_eq_true rfl) ?_
  have hP9 := hP.sub (ws' := [(h0, .inr (3, [.ref (f4 0), .int 16])), ((f4 0), .inl (c4, 1000, .inl (upd (upd (upd (upd bf (12 : Int32).toNatClampNeg (vp_nar .byte x4)) (13 : Int32).toNatClampNeg (vp_nar .byte x8)) (14 : Int32).toNatClampNeg (vp_nar .byte x12)) (15 : Int32).toNatClampNeg (vp_nar .byte x16))))]) [0, 1] rfl
  have hD9 := hD.sub (ws' := [(h0, .inr (3, [.ref (f4 0), .int 16])), ((f4 0), .inl (c4, 1000, .inl (upd (upd (upd (upd bf (12 : Int32).toNatClampNeg (vp_nar .byte x4)) (13 : Int32).toNatClampNeg (vp_nar .byte x8)) (14 : Int32).toNatClampNeg (vp_nar .byte x12)) (15 : Int32).toNatClampNeg (vp_nar .byte x16))))]) [0, 1] (by decide) rfl
  have hK9 := hK.sub (tys' := []) [] rfl
  exact W.vret hx hb hr (fun t ht hW => ⟨⟨((upd (upd (upd (upd bf (12 : Int32).toNatClampNeg (vp_nar .byte x4)) (13 : Int32).toNatClampNeg (vp_nar .byte x8)) (14 : Int32).toNatClampNeg (vp_nar .byte x12)) (15 : Int32).toNatClampNeg (vp_nar .byte x16))), rfl, (trivial), by rw [ht]; exact hP9, va_K.moved hW.alike hK9, hD9⟩, hS.F ht⟩) hS.2.2 dX4_append_48
set_option maxHeartbeats 4000000 in
set_option maxRecDepth 100000 in
theorem c_ap16 (l : Launch) (dC : Nat → ClassId) (dI : Nat → Nat → Nat) (g : Gv) (sz : Nat) (h0 : Nat) (f4 : Nat → Nat) (c4 : ClassId) (bf : Nat → Int32) (vv : Int32)  : Met l yX4_append (.code yX4_append cX4_append 3 none :: TBL) ({ frames := 0, cells := 0, slots := 0, locals := 0 }) (va_Pc [.ref h0, .int vv] (fun U => U.heap.size = sz ∧ va_P (dC, dI) vwCl [(h0, .inr (3, [.ref (f4 0), .int 16])), ((f4 0), .inl (c4, 1000, .inl bf))] U.heap ∧ va_K (dC, dI) vwCl [(c4, .byte)] U ∧ va_D (fun _ => True) [(h0, .inr (3, [.ref (f4 0), .int 16])), ((f4 0), .inl (c4, 1000, .inl bf))] ∧ Ev g (va_A [(h0, .inr (3, [.ref (f4 0), .int 16])), ((f4 0), .inl (c4, 1000, .inl bf))] sz) U)) (va_Qv (fun (u : (Nat → Int32)) => True) (fun (u : (Nat → Int32)) (t : State) => va_P (dC, dI) vwCl [(h0, .inr (3, [.ref (f4 0), .int 20])), ((f4 0), .inl (c4, 1000, .inl u))] t.heap ∧ va_K (dC, dI) vwCl [] t ∧ va_D (va_A [(h0, .inr (3, [.ref (f4 0), .int 16])), ((f4 0), .inl (c4, 1000, .inl bf))] sz) [(h0, .inr (3, [.ref (f4 0), .int 20])), ((f4 0), .inl (c4, 1000, .inl u))]) (va_A [(h0, .inr (3, [.ref (f4 0), .int 16])), ((f4 0), .inl (c4, 1000, .inl bf))] sz)) 0 0 (va_A [(h0, .inr (3, [.ref (f4 0), .int 16])), ((f4 0), .inl (c4, 1000, .inl bf))] sz) := by
  refine Met.ofW (cc := cX4_append) (maxL := 3) (ret := none) (by decide) rfl ?_
  intro p e s m args below meth c s₁ B hml hv
  obtain ⟨rfl, hsz, hP, hK, hD0, hE⟩ := hv
  have hx := B.exec
  have hb := B.bytes
  have hr := B.returns
  have hts0 := atoms_spec (ws := (.code yX4_append cX4_append 3 none :: TBL)) B.pre
  have hts := fun (w : Cond) (h : w ∈ TBL) => hts0 w (List.mem_cons_of_mem _ h)
  have hown : s.vm.findClass RX4 = some m.cls := findClass_of_methodNamed B.named
  have hlocks := B.notSynchronized
  have hN := hE.1
  subst hsz
  have hD := hD0.self (sz := s.heap.size)
  generalize hAe : va_A [(h0, .inr (3, [.ref (f4 0), .int 16])), ((f4 0), .inl (c4, 1000, .inl bf))] s.heap.size = A at hD hE ⊢
  have hA : ∀ q : Nat, s.heap.size ≤ q → A q := fun q h => by rw [← hAe]; exact Or.inr h
  have hS : va_S A s.heap s.heap [] := va_S.rf
  have hP : va_P (dC, dI) vwCl [(h0, .inr (3, [.ref (f4 0), .int 16])), ((f4 0), .inl (c4, 1000, .inl bf))] s.heap := hP
  have hl := lv_entry ([.ref h0, .int vv]) (n := 3) (Nat.le_of_ble_eq_true rfl)
  rw [lg_entry_eq]
  generalize (lg_sl ([.ref h0, .int vv]) ++ List.replicate (3 - (lg_sl ([.ref h0, .int vv])).length) Slot.unset).toArray = ls at hl ⊢
  have hl : lv_has ls 3 [(0, .ref h0), (1, .int vv)] := hl
  refine lv_bipush (v := 24) hx hb dX4_append_0 (by decide) ?_
  refine lv_istore_n (lv' := [(2, .int 24), (0, .ref h0), (1, .int vv)]) hx hb dX4_append_2 rfl hl (by decide) rfl (fun ls hl => ?_)
  refine lv_iload_n hx hb dX4_append_3 rfl (lv_at hl 0 rfl) ?_
  refine lv_if_lt (tgt := 48) hx hb dX4_append_4 (by decide) (fun c4_1 => by exfalso; exact absurd c4_1 (by decide)) (fun c4_1 => ?_)
  refine lv_aload_n hx hb dX4_append_7 rfl (lv_at hl 1 rfl) ?_
  refine va_get (D := (dC, dI)) (ci := 3) (v := .int 16) (C := RX4) (T := TX4) (N := 2) hx hb hts inlX4 hown hK hP 0 rfl rfl 1 (by decide) (hts (.fieldLink RX4 15 "ClosedUntil$Tape" "length" "I") qw_289) (fun _ h9 => h9) rfl dX4_append_8 ?_
  refine lv_aload_n hx hb dX4_append_11 rfl (lv_at hl 1 rfl) ?_
  refine va_get (D := (dC, dI)) (ci := 3) (v := .ref (f4 0)) (C := RX4) (T := TX4) (N := 2) hx hb hts inlX4 hown hK hP 0 rfl rfl 0 (by decide) (hts (.fieldLink RX4 9 "ClosedUntil$Tape" "bytes" "[B") qw_104) (fun _ h9 => h9) rfl dX4_append_12 ?_
  refine va_alen hx hb hK hP 1 0 rfl rfl (v := 1000) (show Int32.ofNat 1000 = 1000 from by decide) dX4_append_15 ?_
  refine lv_icmp_ge (tgt := 48) hx hb dX4_append_16 (by decide) (fun c16_2 => by exfalso; exact absurd c16_2 (by decide)) (fun c16_2 => ?_)
  refine lv_aload_n hx hb dX4_append_19 rfl (lv_at hl 1 rfl) ?_
  refine va_get (D := (dC, dI)) (ci := 3) (v := .ref (f4 0)) (C := RX4) (T := TX4) (N := 2) hx hb hts inlX4 hown hK hP 0 rfl rfl 0 (by decide) (hts (.fieldLink RX4 9 "ClosedUntil$Tape" "bytes" "[B") qw_104) (fun _ h9 => h9) rfl dX4_append_20 ?_
  refine lv_aload_n hx hb dX4_append_23 rfl (lv_at hl 1 rfl) ?_
  refine va_get (D := (dC, dI)) (ci := 3) (v := .int 16) (C := RX4) (T := TX4) (N := 2) hx hb hts inlX4 hown hK hP 0 rfl rfl 1 (by decide) (hts (.fieldLink RX4 15 "ClosedUntil$Tape" "length" "I") qw_289) (fun _ h9 => h9) rfl dX4_append_24 ?_
  refine lv_iload_n hx hb dX4_append_27 rfl (lv_at hl 2 rfl) ?_
  refine lv_iload_n hx hb dX4_append_28 rfl (lv_at hl 0 rfl) ?_
  refine lv_iushr hx hb dX4_append_29 rfl ?_
  refine lv_topi (fun x3 e_x3 => ?_)
  refine lv_i2b hx hb dX4_append_30 rfl ?_
  refine lv_topi (fun x4 e_x4 => ?_)
  refine va_bast hx hb hK hP hD hS 1 0 rfl rfl (vin0 (by decide)) dX4_append_31 (fun H locs hP hD hS => ?_)
  have hP : va_P (dC, dI) vwCl [(h0, .inr (3, [.ref (f4 0), .int 16])), ((f4 0), .inl (c4, 1000, .inl (upd bf (16 : Int32).toNatClampNeg (vp_nar .byte x4))))] H := hP
  have hD : va_D A [(h0, .inr (3, [.ref (f4 0), .int 16])), ((f4 0), .inl (c4, 1000, .inl (upd bf (16 : Int32).toNatClampNeg (vp_nar .byte x4))))] := hD
  refine lv_aload_n hx hb dX4_append_32 rfl (lv_at hl 1 rfl) ?_
  refine lv_dup hx hb dX4_append_33 rfl ?_
  refine va_get (D := (dC, dI)) (ci := 3) (v := .int 16) (C := RX4) (T := TX4) (N := 2) hx hb hts inlX4 hown hK hP 0 rfl rfl 1 (by decide) (hts (.fieldLink RX4 15 "ClosedUntil$Tape" "length" "I") qw_289) (fun _ h9 => h9) rfl dX4_append_34 ?_
  refine lv_iconst (v := 1) hx hb dX4_append_37 (by decide) ?_
  refine lv_iadd hx hb dX4_append_38 ?_
  refine cst (v := 17) (by decide) ?_
  refine va_put (D := (dC, dI)) (ci := 3) (v := .int 17) (ty := .int) (C := RX4) (T := TX4) (N := 2) hx hb hts inlX4 tyX4 tyX4_ok nmX4 hown hK hP hD hS 0 rfl rfl 1 (by decide) (hts (.fieldLink RX4 15 "ClosedUntil$Tape" "length" "I") qw_289) (fun _ h9 => h9) rfl (by decide +kernel) rfl rfl (Nat.le_of_ble_eq_true rfl) dX4_append_39 (fun H locs hP hD hS => ?_)
  have hP : va_P (dC, dI) vwCl [(h0, .inr (3, [.ref (f4 0), .int 17])), ((f4 0), .inl (c4, 1000, .inl (upd bf (16 : Int32).toNatClampNeg (vp_nar .byte x4))))] H := hP
  have hD : va_D A [(h0, .inr (3, [.ref (f4 0), .int 17])), ((f4 0), .inl (c4, 1000, .inl (upd bf (16 : Int32).toNatClampNeg (vp_nar .byte x4))))] := hD
  refine lv_iinc (v := 16) (lv' := [(2, .int 16), (0, .ref h0), (1, .int vv)]) hx hb dX4_append_42 hl (k := 0) rfl (by decide) (by decide) rfl (fun ls hl => ?_)
  refine lv_goto (tgt := 3) hx hb dX4_append_45 (by decide) ?_
  refine lv_iload_n hx hb dX4_append_3 rfl (lv_at hl 0 rfl) ?_
  refine lv_if_lt (tgt := 48) hx hb dX4_append_4 (by decide) (fun c4_5 => by exfalso; exact absurd c4_5 (by decide)) (fun c4_5 => ?_)
  refine lv_aload_n hx hb dX4_append_7 rfl (lv_at hl 1 rfl) ?_
  refine va_get (D := (dC, dI)) (ci := 3) (v := .int 17) (C := RX4) (T := TX4) (N := 2) hx hb hts inlX4 hown hK hP 0 rfl rfl 1 (by decide) (hts (.fieldLink RX4 15 "ClosedUntil$Tape" "length" "I") qw_289) (fun _ h9 => h9) rfl dX4_append_8 ?_
  refine lv_aload_n hx hb dX4_append_11 rfl (lv_at hl 1 rfl) ?_
  refine va_get (D := (dC, dI)) (ci := 3) (v := .ref (f4 0)) (C := RX4) (T := TX4) (N := 2) hx hb hts inlX4 hown hK hP 0 rfl rfl 0 (by decide) (hts (.fieldLink RX4 9 "ClosedUntil$Tape" "bytes" "[B") qw_104) (fun _ h9 => h9) rfl dX4_append_12 ?_
  refine va_alen hx hb hK hP 1 0 rfl rfl (v := 1000) (show Int32.ofNat 1000 = 1000 from by decide) dX4_append_15 ?_
  refine lv_icmp_ge (tgt := 48) hx hb dX4_append_16 (by decide) (fun c16_6 => by exfalso; exact absurd c16_6 (by decide)) (fun c16_6 => ?_)
  refine lv_aload_n hx hb dX4_append_19 rfl (lv_at hl 1 rfl) ?_
  refine va_get (D := (dC, dI)) (ci := 3) (v := .ref (f4 0)) (C := RX4) (T := TX4) (N := 2) hx hb hts inlX4 hown hK hP 0 rfl rfl 0 (by decide) (hts (.fieldLink RX4 9 "ClosedUntil$Tape" "bytes" "[B") qw_104) (fun _ h9 => h9) rfl dX4_append_20 ?_
  refine lv_aload_n hx hb dX4_append_23 rfl (lv_at hl 1 rfl) ?_
  refine va_get (D := (dC, dI)) (ci := 3) (v := .int 17) (C := RX4) (T := TX4) (N := 2) hx hb hts inlX4 hown hK hP 0 rfl rfl 1 (by decide) (hts (.fieldLink RX4 15 "ClosedUntil$Tape" "length" "I") qw_289) (fun _ h9 => h9) rfl dX4_append_24 ?_
  refine lv_iload_n hx hb dX4_append_27 rfl (lv_at hl 2 rfl) ?_
  refine lv_iload_n hx hb dX4_append_28 rfl (lv_at hl 0 rfl) ?_
  refine lv_iushr hx hb dX4_append_29 rfl ?_
  refine lv_topi (fun x7 e_x7 => ?_)
  refine lv_i2b hx hb dX4_append_30 rfl ?_
  refine lv_topi (fun x8 e_x8 => ?_)
  refine va_bast hx hb hK hP hD hS 1 0 rfl rfl (vin0 (by decide)) dX4_append_31 (fun H locs hP hD hS => ?_)
  have hP : va_P (dC, dI) vwCl [(h0, .inr (3, [.ref (f4 0), .int 17])), ((f4 0), .inl (c4, 1000, .inl (upd (upd bf (16 : Int32).toNatClampNeg (vp_nar .byte x4)) (17 : Int32).toNatClampNeg (vp_nar .byte x8))))] H := hP
  have hD : va_D A [(h0, .inr (3, [.ref (f4 0), .int 17])), ((f4 0), .inl (c4, 1000, .inl (upd (upd bf (16 : Int32).toNatClampNeg (vp_nar .byte x4)) (17 : Int32).toNatClampNeg (vp_nar .byte x8))))] := hD
  refine lv_aload_n hx hb dX4_append_32 rfl (lv_at hl 1 rfl) ?_
  refine lv_dup hx hb dX4_append_33 rfl ?_
  refine va_get (D := (dC, dI)) (ci := 3) (v := .int 17) (C := RX4) (T := TX4) (N := 2) hx hb hts inlX4 hown hK hP 0 rfl rfl 1 (by decide) (hts (.fieldLink RX4 15 "ClosedUntil$Tape" "length" "I") qw_289) (fun _ h9 => h9) rfl dX4_append_34 ?_
  refine lv_iconst (v := 1) hx hb dX4_append_37 (by decide) ?_
  refine lv_iadd hx hb dX4_append_38 ?_
  refine cst (v := 18) (by decide) ?_
  refine va_put (D := (dC, dI)) (ci := 3) (v := .int 18) (ty := .int) (C := RX4) (T := TX4) (N := 2) hx hb hts inlX4 tyX4 tyX4_ok nmX4 hown hK hP hD hS 0 rfl rfl 1 (by decide) (hts (.fieldLink RX4 15 "ClosedUntil$Tape" "length" "I") qw_289) (fun _ h9 => h9) rfl (by decide +kernel) rfl rfl (Nat.le_of_ble_eq_true rfl) dX4_append_39 (fun H locs hP hD hS => ?_)
  have hP : va_P (dC, dI) vwCl [(h0, .inr (3, [.ref (f4 0), .int 18])), ((f4 0), .inl (c4, 1000, .inl (upd (upd bf (16 : Int32).toNatClampNeg (vp_nar .byte x4)) (17 : Int32).toNatClampNeg (vp_nar .byte x8))))] H := hP
  have hD : va_D A [(h0, .inr (3, [.ref (f4 0), .int 18])), ((f4 0), .inl (c4, 1000, .inl (upd (upd bf (16 : Int32).toNatClampNeg (vp_nar .byte x4)) (17 : Int32).toNatClampNeg (vp_nar .byte x8))))] := hD
  refine lv_iinc (v := 8) (lv' := [(2, .int 8), (0, .ref h0), (1, .int vv)]) hx hb dX4_append_42 hl (k := 0) rfl (by decide) (by decide) rfl (fun ls hl => ?_)
  refine lv_goto (tgt := 3) hx hb dX4_append_45 (by decide) ?_
  refine lv_iload_n hx hb dX4_append_3 rfl (lv_at hl 0 rfl) ?_
  refine lv_if_lt (tgt := 48) hx hb dX4_append_4 (by decide) (fun c4_9 => by exfalso; exact absurd c4_9 (by decide)) (fun c4_9 => ?_)
  refine lv_aload_n hx hb dX4_append_7 rfl (lv_at hl 1 rfl) ?_
  refine va_get (D := (dC, dI)) (ci := 3) (v := .int 18) (C := RX4) (T := TX4) (N := 2) hx hb hts inlX4 hown hK hP 0 rfl rfl 1 (by decide) (hts (.fieldLink RX4 15 "ClosedUntil$Tape" "length" "I") qw_289) (fun _ h9 => h9) rfl dX4_append_8 ?_
  refine lv_aload_n hx hb dX4_append_11 rfl (lv_at hl 1 rfl) ?_
  refine va_get (D := (dC, dI)) (ci := 3) (v := .ref (f4 0)) (C := RX4) (T := TX4) (N := 2) hx hb hts inlX4 hown hK hP 0 rfl rfl 0 (by decide) (hts (.fieldLink RX4 9 "ClosedUntil$Tape" "bytes" "[B") qw_104) (fun _ h9 => h9) rfl dX4_append_12 ?_
  refine va_alen hx hb hK hP 1 0 rfl rfl (v := 1000) (show Int32.ofNat 1000 = 1000 from by decide) dX4_append_15 ?_
  refine lv_icmp_ge (tgt := 48) hx hb dX4_append_16 (by decide) (fun c16_10 => by exfalso; exact absurd c16_10 (by decide)) (fun c16_10 => ?_)
  refine lv_aload_n hx hb dX4_append_19 rfl (lv_at hl 1 rfl) ?_
  refine va_get (D := (dC, dI)) (ci := 3) (v := .ref (f4 0)) (C := RX4) (T := TX4) (N := 2) hx hb hts inlX4 hown hK hP 0 rfl rfl 0 (by decide) (hts (.fieldLink RX4 9 "ClosedUntil$Tape" "bytes" "[B") qw_104) (fun _ h9 => h9) rfl dX4_append_20 ?_
  refine lv_aload_n hx hb dX4_append_23 rfl (lv_at hl 1 rfl) ?_
  refine va_get (D := (dC, dI)) (ci := 3) (v := .int 18) (C := RX4) (T := TX4) (N := 2) hx hb hts inlX4 hown hK hP 0 rfl rfl 1 (by decide) (hts (.fieldLink RX4 15 "ClosedUntil$Tape" "length" "I") qw_289) (fun _ h9 => h9) rfl dX4_append_24 ?_
  refine lv_iload_n hx hb dX4_append_27 rfl (lv_at hl 2 rfl) ?_
  refine lv_iload_n hx hb dX4_append_28 rfl (lv_at hl 0 rfl) ?_
  refine lv_iushr hx hb dX4_append_29 rfl ?_
  refine lv_topi (fun x11 e_x11 => ?_)
  refine lv_i2b hx hb dX4_append_30 rfl ?_
  refine lv_topi (fun x12 e_x12 => ?_)
  refine va_bast hx hb hK hP hD hS 1 0 rfl rfl (vin0 (by decide)) dX4_append_31 (fun H locs hP hD hS => ?_)
  have hP : va_P (dC, dI) vwCl [(h0, .inr (3, [.ref (f4 0), .int 18])), ((f4 0), .inl (c4, 1000, .inl (upd (upd (upd bf (16 : Int32).toNatClampNeg (vp_nar .byte x4)) (17 : Int32).toNatClampNeg (vp_nar .byte x8)) (18 : Int32).toNatClampNeg (vp_nar .byte x12))))] H := hP
  have hD : va_D A [(h0, .inr (3, [.ref (f4 0), .int 18])), ((f4 0), .inl (c4, 1000, .inl (upd (upd (upd bf (16 : Int32).toNatClampNeg (vp_nar .byte x4)) (17 : Int32).toNatClampNeg (vp_nar .byte x8)) (18 : Int32).toNatClampNeg (vp_nar .byte x12))))] := hD
  refine lv_aload_n hx hb dX4_append_32 rfl (lv_at hl 1 rfl) ?_
  refine lv_dup hx hb dX4_append_33 rfl ?_
  refine va_get (D := (dC, dI)) (ci := 3) (v := .int 18) (C := RX4) (T := TX4) (N := 2) hx hb hts inlX4 hown hK hP 0 rfl rfl 1 (by decide) (hts (.fieldLink RX4 15 "ClosedUntil$Tape" "length" "I") qw_289) (fun _ h9 => h9) rfl dX4_append_34 ?_
  refine lv_iconst (v := 1) hx hb dX4_append_37 (by decide) ?_
  refine lv_iadd hx hb dX4_append_38 ?_
  refine cst (v := 19) (by decide) ?_
  refine va_put (D := (dC, dI)) (ci := 3) (v := .int 19) (ty := .int) (C := RX4) (T := TX4) (N := 2) hx hb hts inlX4 tyX4 tyX4_ok nmX4 hown hK hP hD hS 0 rfl rfl 1 (by decide) (hts (.fieldLink RX4 15 "ClosedUntil$Tape" "length" "I") qw_289) (fun _ h9 => h9) rfl (by decide +kernel) rfl rfl (Nat.le_of_ble_eq_true rfl) dX4_append_39 (fun H locs hP hD hS => ?_)
  have hP : va_P (dC, dI) vwCl [(h0, .inr (3, [.ref (f4 0), .int 19])), ((f4 0), .inl (c4, 1000, .inl (upd (upd (upd bf (16 : Int32).toNatClampNeg (vp_nar .byte x4)) (17 : Int32).toNatClampNeg (vp_nar .byte x8)) (18 : Int32).toNatClampNeg (vp_nar .byte x12))))] H := hP
  have hD : va_D A [(h0, .inr (3, [.ref (f4 0), .int 19])), ((f4 0), .inl (c4, 1000, .inl (upd (upd (upd bf (16 : Int32).toNatClampNeg (vp_nar .byte x4)) (17 : Int32).toNatClampNeg (vp_nar .byte x8)) (18 : Int32).toNatClampNeg (vp_nar .byte x12))))] := hD
  refine lv_iinc (v := 0) (lv' := [(2, .int 0), (0, .ref h0), (1, .int vv)]) hx hb dX4_append_42 hl (k := 0) rfl (by decide) (by decide) rfl (fun ls hl => ?_)
  refine lv_goto (tgt := 3) hx hb dX4_append_45 (by decide) ?_
  refine lv_iload_n hx hb dX4_append_3 rfl (lv_at hl 0 rfl) ?_
  refine lv_if_lt (tgt := 48) hx hb dX4_append_4 (by decide) (fun c4_13 => by exfalso; exact absurd c4_13 (by decide)) (fun c4_13 => ?_)
  refine lv_aload_n hx hb dX4_append_7 rfl (lv_at hl 1 rfl) ?_
  refine va_get (D := (dC, dI)) (ci := 3) (v := .int 19) (C := RX4) (T := TX4) (N := 2) hx hb hts inlX4 hown hK hP 0 rfl rfl 1 (by decide) (hts (.fieldLink RX4 15 "ClosedUntil$Tape" "length" "I") qw_289) (fun _ h9 => h9) rfl dX4_append_8 ?_
  refine lv_aload_n hx hb dX4_append_11 rfl (lv_at hl 1 rfl) ?_
  refine va_get (D := (dC, dI)) (ci := 3) (v := .ref (f4 0)) (C := RX4) (T := TX4) (N := 2) hx hb hts inlX4 hown hK hP 0 rfl rfl 0 (by decide) (hts (.fieldLink RX4 9 "ClosedUntil$Tape" "bytes" "[B") qw_104) (fun _ h9 => h9) rfl dX4_append_12 ?_
  refine va_alen hx hb hK hP 1 0 rfl rfl (v := 1000) (show Int32.ofNat 1000 = 1000 from by decide) dX4_append_15 ?_
  refine lv_icmp_ge (tgt := 48) hx hb dX4_append_16 (by decide) (fun c16_14 => by exfalso; exact absurd c16_14 (by decide)) (fun c16_14 => ?_)
  refine lv_aload_n hx hb dX4_append_19 rfl (lv_at hl 1 rfl) ?_
  refine va_get (D := (dC, dI)) (ci := 3) (v := .ref (f4 0)) (C := RX4) (T := TX4) (N := 2) hx hb hts inlX4 hown hK hP 0 rfl rfl 0 (by decide) (hts (.fieldLink RX4 9 "ClosedUntil$Tape" "bytes" "[B") qw_104) (fun _ h9 => h9) rfl dX4_append_20 ?_
  refine lv_aload_n hx hb dX4_append_23 rfl (lv_at hl 1 rfl) ?_
  refine va_get (D := (dC, dI)) (ci := 3) (v := .int 19) (C := RX4) (T := TX4) (N := 2) hx hb hts inlX4 hown hK hP 0 rfl rfl 1 (by decide) (hts (.fieldLink RX4 15 "ClosedUntil$Tape" "length" "I") qw_289) (fun _ h9 => h9) rfl dX4_append_24 ?_
  refine lv_iload_n hx hb dX4_append_27 rfl (lv_at hl 2 rfl) ?_
  refine lv_iload_n hx hb dX4_append_28 rfl (lv_at hl 0 rfl) ?_
  refine lv_iushr hx hb dX4_append_29 rfl ?_
  refine lv_topi (fun x15 e_x15 => ?_)
  refine lv_i2b hx hb dX4_append_30 rfl ?_
  refine lv_topi (fun x16 e_x16 => ?_)
  refine va_bast hx hb hK hP hD hS 1 0 rfl rfl (vin0 (by decide)) dX4_append_31 (fun H locs hP hD hS => ?_)
  have hP : va_P (dC, dI) vwCl [(h0, .inr (3, [.ref (f4 0), .int 19])), ((f4 0), .inl (c4, 1000, .inl (upd (upd (upd (upd bf (16 : Int32).toNatClampNeg (vp_nar .byte x4)) (17 : Int32).toNatClampNeg (vp_nar .byte x8)) (18 : Int32).toNatClampNeg (vp_nar .byte x12)) (19 : Int32).toNatClampNeg (vp_nar .byte x16))))] H := hP
  have hD : va_D A [(h0, .inr (3, [.ref (f4 0), .int 19])), ((f4 0), .inl (c4, 1000, .inl (upd (upd (upd (upd bf (16 : Int32).toNatClampNeg (vp_nar .byte x4)) (17 : Int32).toNatClampNeg (vp_nar .byte x8)) (18 : Int32).toNatClampNeg (vp_nar .byte x12)) (19 : Int32).toNatClampNeg (vp_nar .byte x16))))] := hD
  refine lv_aload_n hx hb dX4_append_32 rfl (lv_at hl 1 rfl) ?_
  refine lv_dup hx hb dX4_append_33 rfl ?_
  refine va_get (D := (dC, dI)) (ci := 3) (v := .int 19) (C := RX4) (T := TX4) (N := 2) hx hb hts inlX4 hown hK hP 0 rfl rfl 1 (by decide) (hts (.fieldLink RX4 15 "ClosedUntil$Tape" "length" "I") qw_289) (fun _ h9 => h9) rfl dX4_append_34 ?_
  refine lv_iconst (v := 1) hx hb dX4_append_37 (by decide) ?_
  refine lv_iadd hx hb dX4_append_38 ?_
  refine cst (v := 20) (by decide) ?_
  refine va_put (D := (dC, dI)) (ci := 3) (v := .int 20) (ty := .int) (C := RX4) (T := TX4) (N := 2) hx hb hts inlX4 tyX4 tyX4_ok nmX4 hown hK hP hD hS 0 rfl rfl 1 (by decide) (hts (.fieldLink RX4 15 "ClosedUntil$Tape" "length" "I") qw_289) (fun _ h9 => h9) rfl (by decide +kernel) rfl rfl (Nat.le_of_ble_eq_true rfl) dX4_append_39 (fun H locs hP hD hS => ?_)
  have hP : va_P (dC, dI) vwCl [(h0, .inr (3, [.ref (f4 0), .int 20])), ((f4 0), .inl (c4, 1000, .inl (upd (upd (upd (upd bf (16 : Int32).toNatClampNeg (vp_nar .byte x4)) (17 : Int32).toNatClampNeg (vp_nar .byte x8)) (18 : Int32).toNatClampNeg (vp_nar .byte x12)) (19 : Int32).toNatClampNeg (vp_nar .byte x16))))] H := hP
  have hD : va_D A [(h0, .inr (3, [.ref (f4 0), .int 20])), ((f4 0), .inl (c4, 1000, .inl (upd (upd (upd (upd bf (16 : Int32).toNatClampNeg (vp_nar .byte x4)) (17 : Int32).toNatClampNeg (vp_nar .byte x8)) (18 : Int32).toNatClampNeg (vp_nar .byte x12)) (19 : Int32).toNatClampNeg (vp_nar .byte x16))))] := hD
  refine lv_iinc (v := (-8)) (lv' := [(2, .int (-8)), (0, .ref h0), (1, .int vv)]) hx hb dX4_append_42 hl (k := 0) rfl (by decide) (by decide) rfl (fun ls hl => ?_)
  refine lv_goto (tgt := 3) hx hb dX4_append_45 (by decide) ?_
  refine lv_iload_n hx hb dX4_append_3 rfl (lv_at hl 0 rfl) ?_
  refine lv_if_lt (tgt := 48) hx hb dX4_append_4 (by decide) (fun c4_17 => ?_) (fun c4_17 => by exfalso; exact absurd c4_17 (by decide))
  refine W.widen (k := 0) (n := 0) (Nat.le_of_ble_eq_true rfl) (Nat.le_of_ble_eq_true rfl) ?_
  have hP9 := hP.sub (ws' := [(h0, .inr (3, [.ref (f4 0), .int 20])), ((f4 0), .inl (c4, 1000, .inl (upd (upd (upd (upd bf (16 : Int32).toNatClampNeg (vp_nar .byte x4)) (17 : Int32).toNatClampNeg (vp_nar .byte x8)) (18 : Int32).toNatClampNeg (vp_nar .byte x12)) (19 : Int32).toNatClampNeg (vp_nar .byte x16))))]) [0, 1] rfl
  have hD9 := hD.sub (ws' := [(h0, .inr (3, [.ref (f4 0), .int 20])), ((f4 0), .inl (c4, 1000, .inl (upd (upd (upd (upd bf (16 : Int32).toNatClampNeg (vp_nar .byte x4)) (17 : Int32).toNatClampNeg (vp_nar .byte x8)) (18 : Int32).toNatClampNeg (vp_nar .byte x12)) (19 : Int32).toNatClampNeg (vp_nar .byte x16))))]) [0, 1] (by decide) rfl
  have hK9 := hK.sub (tys' := []) [] rfl
  exact W.vret hx hb hr (fun t ht hW => ⟨⟨((upd (upd (upd (upd bf (16 : Int32).toNatClampNeg (vp_nar .byte x4)) (17 : Int32).toNatClampNeg (vp_nar .byte x8)) (18 : Int32).toNatClampNeg (vp_nar .byte x12)) (19 : Int32).toNatClampNeg (vp_nar .byte x16))), rfl, (trivial), by rw [ht]; exact hP9, va_K.moved hW.alike hK9, hD9⟩, hS.F ht⟩) hS.2.2 dX4_append_48
set_option maxHeartbeats 4000000 in
set_option maxRecDepth 100000 in
theorem c_8feed (l : Launch) (dC : Nat → ClassId) (dI : Nat → Nat → Nat) (g : Gv) (sz : Nat) (x0 : Nat) (b : Nat → Nat) (f4 : Nat → Nat) (c4 : ClassId) (f5 : Nat → Nat) (f7 : Nat → Nat) (f6 : Nat → Nat) (f2 : Nat → Nat) (cK : ClassId) (kf : Nat → Option Nat) (cZ : ClassId) (fT : Nat → Nat) (fU : Nat → Nat) (sa : Nat → Nat) (sf : Nat → Nat → Nat) (sc : Nat → Nat → ClassId) (spf : Nat → Nat → Int32) (sdf : Nat → Nat → Int32) (slf : Nat → Nat → Int32) (srf : Nat → Nat → Int32) (sga : Nat → Nat → Option Nat) (sgb : Nat → Nat → Option Nat) (rows : va_W) (v1 : Int32) (v2 : Int32) (v3 : Int32) (v4 : Int32) (v5 : Int32)  : Met l yX8_feed (.code yX8_feed cX8_feed 6 (some .int) :: TBL) ({ frames := 3, cells := 0, slots := 0, locals := 180 }) (va_Pc [.ref x0, .int v1, .int v2, .int v3, .int v4, .int v5] (fun U => U.heap.size = sz ∧ va_P (dC, dI) vwCl [(x0, .inr (7, [.ref (b 0), .ref (b 1), .ref (b 2), .ref (b 3), .ref (b 4), .ref (b 5), .ref (b 6), .ref (b 7), .ref (b 8), .ref (b 9), .int 1])), ((b 0), .inr (3, [.ref (f4 0), .int 0])), ((f4 0), .inl (c4, 1000, .inl (fun _ => 0)))] U.heap ∧ va_K (dC, dI) vwCl [(c4, .byte)] U ∧ va_D (fun _ => True) [(x0, .inr (7, [.ref (b 0), .ref (b 1), .ref (b 2), .ref (b 3), .ref (b 4), .ref (b 5), .ref (b 6), .ref (b 7), .ref (b 8), .ref (b 9), .int 1])), ((b 0), .inr (3, [.ref (f4 0), .int 0])), ((f4 0), .inl (c4, 1000, .inl (fun _ => 0)))] ∧ Ev g (va_A [(x0, .inr (7, [.ref (b 0), .ref (b 1), .ref (b 2), .ref (b 3), .ref (b 4), .ref (b 5), .ref (b 6), .ref (b 7), .ref (b 8), .ref (b 9), .int 1])), ((b 0), .inr (3, [.ref (f4 0), .int 0])), ((f4 0), .inl (c4, 1000, .inl (fun _ => 0)))] sz) U)) (va_Qi (fun (r : Int32) (u : Unit) => r = 20) (fun (_ : Unit) (_ : State) => True) (va_A [(x0, .inr (7, [.ref (b 0), .ref (b 1), .ref (b 2), .ref (b 3), .ref (b 4), .ref (b 5), .ref (b 6), .ref (b 7), .ref (b 8), .ref (b 9), .int 1])), ((b 0), .inr (3, [.ref (f4 0), .int 0])), ((f4 0), .inl (c4, 1000, .inl (fun _ => 0)))] sz)) 0 0 (va_A [(x0, .inr (7, [.ref (b 0), .ref (b 1), .ref (b 2), .ref (b 3), .ref (b 4), .ref (b 5), .ref (b 6), .ref (b 7), .ref (b 8), .ref (b 9), .int 1])), ((b 0), .inr (3, [.ref (f4 0), .int 0])), ((f4 0), .inl (c4, 1000, .inl (fun _ => 0)))] sz) := by
  refine Met.ofW (cc := cX8_feed) (maxL := 6) (ret := (some .int)) (by decide) rfl ?_
  intro p e s m args below meth c s₁ B hml hv
  obtain ⟨rfl, hsz, hP, hK, hD0, hE⟩ := hv
  have hx := B.exec
  have hb := B.bytes
  have hr := B.returns
  have hts0 := atoms_spec (ws := (.code yX8_feed cX8_feed 6 (some .int) :: TBL)) B.pre
  have hts := fun (w : Cond) (h : w ∈ TBL) => hts0 w (List.mem_cons_of_mem _ h)
  have hown : s.vm.findClass RX8 = some m.cls := findClass_of_methodNamed B.named
  have hlocks := B.notSynchronized
  have hN := hE.1
  subst hsz
  have hD := hD0.self (sz := s.heap.size)
  generalize hAe : va_A [(x0, .inr (7, [.ref (b 0), .ref (b 1), .ref (b 2), .ref (b 3), .ref (b 4), .ref (b 5), .ref (b 6), .ref (b 7), .ref (b 8), .ref (b 9), .int 1])), ((b 0), .inr (3, [.ref (f4 0), .int 0])), ((f4 0), .inl (c4, 1000, .inl (fun _ => 0)))] s.heap.size = A at hD hE ⊢
  have hA : ∀ q : Nat, s.heap.size ≤ q → A q := fun q h => by rw [← hAe]; exact Or.inr h
  have hS : va_S A s.heap s.heap [] := va_S.rf
  have hP : va_P (dC, dI) vwCl [(x0, .inr (7, [.ref (b 0), .ref (b 1), .ref (b 2), .ref (b 3), .ref (b 4), .ref (b 5), .ref (b 6), .ref (b 7), .ref (b 8), .ref (b 9), .int 1])), ((b 0), .inr (3, [.ref (f4 0), .int 0])), ((f4 0), .inl (c4, 1000, .inl (fun _ => 0)))] s.heap := hP
  have hl := lv_entry ([.ref x0, .int v1, .int v2, .int v3, .int v4, .int v5]) (n := 6) (Nat.le_of_ble_eq_true rfl)
  rw [lg_entry_eq]
  generalize (lg_sl ([.ref x0, .int v1, .int v2, .int v3, .int v4, .int v5]) ++ List.replicate (6 - (lg_sl ([.ref x0, .int v1, .int v2, .int v3, .int v4, .int v5])).length) Slot.unset).toArray = ls at hl ⊢
  have hl : lv_has ls 6 [(0, .ref x0), (1, .int v1), (2, .int v2), (3, .int v3), (4, .int v4), (5, .int v5)] := hl
  refine lv_aload_n hx hb dX8_feed_0 rfl (lv_at hl 0 rfl) ?_
  refine va_get (D := (dC, dI)) (ci := 7) (v := .ref (b 0)) (C := RX8) (T := TX8) (N := 11) hx hb hts inlX8 hown hK hP 0 rfl rfl 0 (by decide) (hts (.fieldLink RX8 10 "ClosedUntil" "tape" "LClosedUntil$Tape;") qw_175) (fun _ h9 => h9) rfl dX8_feed_1 ?_
  have hPc := hP.sub (ws' := [((b 0), .inr (3, [.ref (f4 0), .int 0])), ((f4 0), .inl (c4, 1000, .inl (fun _ => 0)))]) [1, 2] rfl
  have hKc := hK.sub (tys' := [(c4, .byte)]) [0] rfl
  refine vp_callSi ((va_runVN (As := []) (rest := []) ⟨hx, hb, hml, hown, hts⟩ (c_hr l dC dI g ((b 0)) (f4) (c4) ) ⟨va_cnB 0 hts (gwC qw_290) rfl rfl rfl (nm_7 hN) (hts (.initialized RX4) qw_172) (by decide +kernel) ⟨Nat.le_of_ble_eq_true rfl, Nat.le_of_ble_eq_true rfl⟩, (hts (.instanceMethod yX4_hasRoom) qw_291), (hts (.selects RX4 yX4_hasRoom yX4_hasRoom) qw_292)⟩ ⟨fun a U g9 mk q => ⟨q.1, q.2.1, va_K.moved (u := U) (U := U.calling g9 mk a) (Vm.Alike.refl U.vm) q.2.2.1, Ev.bl q.2.2.2⟩, va_recv hK hP (ci := 3) (q0 := 1) rfl rfl, fun U hU hW => ⟨rfl, by rw [hU]; exact hPc, va_K.moved hW.alike hKc, hE.go hS (fun _ h => h.elim) hU hW⟩⟩ rfl rfl hl.1 rfl (lv_room (Nat.le_of_ble_eq_true rfl)) dX8_feed_4 ⟨Nat.le_of_ble_eq_true rfl, Nat.le_of_ble_eq_true rfl⟩)).run (fun r1 h_r1 => ?_)
  have h_r1 : r1 = 1 := h_r1
  subst h_r1
  refine lv_if_ne (tgt := 12) hx hb dX8_feed_7 (by decide) (fun c7_2 => ?_) (fun c7_2 => by exfalso; exact absurd c7_2 (by decide))
  refine lv_aload_n hx hb dX8_feed_12 rfl (lv_at hl 0 rfl) ?_
  refine va_get (D := (dC, dI)) (ci := 7) (v := .ref (b 0)) (C := RX8) (T := TX8) (N := 11) hx hb hts inlX8 hown hK hP 0 rfl rfl 0 (by decide) (hts (.fieldLink RX8 10 "ClosedUntil" "tape" "LClosedUntil$Tape;") qw_175) (fun _ h9 => h9) rfl dX8_feed_13 ?_
  refine lv_iload_n hx hb dX8_feed_16 rfl (lv_at hl 1 rfl) ?_
  have hPc := hP.sub (ws' := [((b 0), .inr (3, [.ref (f4 0), .int 0])), ((f4 0), .inl (c4, 1000, .inl (fun _ => 0)))]) [1, 2] rfl
  have hKc := hK.sub (tys' := [(c4, .byte)]) [0] rfl
  have hDc := hD.sub (ws' := [((b 0), .inr (3, [.ref (f4 0), .int 0])), ((f4 0), .inl (c4, 1000, .inl (fun _ => 0)))]) [1, 2] (by decide) rfl
  have hFc := va_free (wc := [((b 0), .inr (3, [.ref (f4 0), .int 0])), ((f4 0), .inl (c4, 1000, .inl (fun _ => 0)))]) hD hS hA [1, 2] rfl
  refine va_callv (va_runVN (As := [.int v1]) (rest := []) ⟨hx, hb, hml, hown, hts⟩ (c_ap0 l dC dI g s.heap.size ((b 0)) (f4) (c4) ((fun _ => 0)) (v1) ) ⟨va_cnB 1 hts (gwC qw_293) rfl rfl rfl (nm_8 hN) (hts (.initialized RX4) qw_172) (by decide +kernel) ⟨Nat.le_of_ble_eq_true rfl, Nat.le_of_ble_eq_true rfl⟩, (hts (.instanceMethod yX4_append) qw_294), (hts (.selects RX4 yX4_append yX4_append) qw_295)⟩ ⟨fun a U g9 mk q => ⟨q.1, q.2.1, q.2.2.1, va_K.moved (u := U) (U := U.calling g9 mk a) (Vm.Alike.refl U.vm) q.2.2.2.1, q.2.2.2.2.1, Ev.bl q.2.2.2.2.2⟩, va_recv hK hP (ci := 3) (q0 := 1) rfl rfl, fun U hU hW => ⟨rfl, by rw [hU], by rw [hU]; exact hPc, va_K.moved hW.alike hKc, hDc.weaken (fun _ _ _ _ => trivial), hE.go hS hFc hU hW⟩⟩ rfl rfl hl.1 rfl (lv_room (Nat.le_of_ble_eq_true rfl)) dX8_feed_17 ⟨Nat.le_of_ble_eq_true rfl, Nat.le_of_ble_eq_true rfl⟩) hS (fun q _ h => hFc q h) hFc (fun u3 t H1 locs ht hvm h_u3 hB hz1 hk1 hS => ?_)
  obtain ⟨bf1_5, rfl⟩ : ∃ z, z = u3 := ⟨_, rfl⟩
  obtain ⟨hP1, hK1, hD1⟩ := hB
  rw [ht] at hP1
  have hK1 := va_K.moved hvm.symm hK1
  obtain ⟨hP, hD⟩ := va_join (wr := [(x0, .inr (7, [.ref (b 0), .ref (b 1), .ref (b 2), .ref (b 3), .ref (b 4), .ref (b 5), .ref (b 6), .ref (b 7), .ref (b 8), .ref (b 9), .int 1]))]) (w1 := [((b 0), .inr (3, [.ref (f4 0), .int 4])), ((f4 0), .inl (c4, 1000, .inl bf1_5))]) hP hD [1, 2] [0] rfl rfl (by decide) (by decide) hk1 hFc hP1 hD1
  have hK := hK.app hK1
  have hK : va_K (dC, dI) vwCl [(c4, .byte)] s := hK
  generalize H1 = H at hP hS ⊢
  have hP : va_P (dC, dI) vwCl [(x0, .inr (7, [.ref (b 0), .ref (b 1), .ref (b 2), .ref (b 3), .ref (b 4), .ref (b 5), .ref (b 6), .ref (b 7), .ref (b 8), .ref (b 9), .int 1])), ((b 0), .inr (3, [.ref (f4 0), .int 4])), ((f4 0), .inl (c4, 1000, .inl bf1_5))] H := hP
  have hD : va_D A [(x0, .inr (7, [.ref (b 0), .ref (b 1), .ref (b 2), .ref (b 3), .ref (b 4), .ref (b 5), .ref (b 6), .ref (b 7), .ref (b 8), .ref (b 9), .int 1])), ((b 0), .inr (3, [.ref (f4 0), .int 4])), ((f4 0), .inl (c4, 1000, .inl bf1_5))] := hD
  refine W.widen (k := 0) (n := 0) (Nat.le_of_ble_eq_true rfl) (Nat.le_of_ble_eq_true rfl) ?_
  refine lv_aload_n hx hb dX8_feed_20 rfl (lv_at hl 0 rfl) ?_
  refine va_get (D := (dC, dI)) (ci := 7) (v := .ref (b 0)) (C := RX8) (T := TX8) (N := 11) hx hb hts inlX8 hown hK hP 0 rfl rfl 0 (by decide) (hts (.fieldLink RX8 10 "ClosedUntil" "tape" "LClosedUntil$Tape;") qw_175) (fun _ h9 => h9) rfl dX8_feed_21 ?_
  refine lv_iload_n hx hb dX8_feed_24 rfl (lv_at hl 2 rfl) ?_
  have hPc := hP.sub (ws' := [((b 0), .inr (3, [.ref (f4 0), .int 4])), ((f4 0), .inl (c4, 1000, .inl bf1_5))]) [1, 2] rfl
  have hKc := hK.sub (tys' := [(c4, .byte)]) [0] rfl
  have hDc := hD.sub (ws' := [((b 0), .inr (3, [.ref (f4 0), .int 4])), ((f4 0), .inl (c4, 1000, .inl bf1_5))]) [1, 2] (by decide) rfl
  have hFc := va_free (wc := [((b 0), .inr (3, [.ref (f4 0), .int 4])), ((f4 0), .inl (c4, 1000, .inl bf1_5))]) hD hS hA [1, 2] rfl
  refine va_callv (va_runVN (As := [.int v2]) (rest := []) ⟨hx, hb, hml, hown, hts⟩ (c_ap4 l dC dI g H.size ((b 0)) (f4) (c4) (bf1_5) (v2) ) ⟨va_cnB 1 hts (gwC qw_293) rfl rfl rfl (nm_8 hN) (hts (.initialized RX4) qw_172) (by decide +kernel) ⟨Nat.le_of_ble_eq_true rfl, Nat.le_of_ble_eq_true rfl⟩, (hts (.instanceMethod yX4_append) qw_294), (hts (.selects RX4 yX4_append yX4_append) qw_295)⟩ ⟨fun a U g9 mk q => ⟨q.1, q.2.1, q.2.2.1, va_K.moved (u := U) (U := U.calling g9 mk a) (Vm.Alike.refl U.vm) q.2.2.2.1, q.2.2.2.2.1, Ev.bl q.2.2.2.2.2⟩, va_recv hK hP (ci := 3) (q0 := 1) rfl rfl, fun U hU hW => ⟨rfl, by rw [hU], by rw [hU]; exact hPc, va_K.moved hW.alike hKc, hDc.weaken (fun _ _ _ _ => trivial), hE.go hS hFc hU hW⟩⟩ rfl rfl hl.1 rfl (lv_room (Nat.le_of_ble_eq_true rfl)) dX8_feed_25 ⟨Nat.le_of_ble_eq_true rfl, Nat.le_of_ble_eq_true rfl⟩) hS (fun q _ h => hFc q h) hFc (fun u6 t H1 locs ht hvm h_u6 hB hz1 hk1 hS => ?_)
  obtain ⟨bf1_8, rfl⟩ : ∃ z, z = u6 := ⟨_, rfl⟩
  obtain ⟨hP1, hK1, hD1⟩ := hB
  rw [ht] at hP1
  have hK1 := va_K.moved hvm.symm hK1
  obtain ⟨hP, hD⟩ := va_join (wr := [(x0, .inr (7, [.ref (b 0), .ref (b 1), .ref (b 2), .ref (b 3), .ref (b 4), .ref (b 5), .ref (b 6), .ref (b 7), .ref (b 8), .ref (b 9), .int 1]))]) (w1 := [((b 0), .inr (3, [.ref (f4 0), .int 8])), ((f4 0), .inl (c4, 1000, .inl bf1_8))]) hP hD [1, 2] [0] rfl rfl (by decide) (by decide) hk1 hFc hP1 hD1
  have hK := hK.app hK1
  have hK : va_K (dC, dI) vwCl [(c4, .byte)] s := hK
  generalize H1 = H at hP hS ⊢
  have hP : va_P (dC, dI) vwCl [(x0, .inr (7, [.ref (b 0), .ref (b 1), .ref (b 2), .ref (b 3), .ref (b 4), .ref (b 5), .ref (b 6), .ref (b 7), .ref (b 8), .ref (b 9), .int 1])), ((b 0), .inr (3, [.ref (f4 0), .int 8])), ((f4 0), .inl (c4, 1000, .inl bf1_8))] H := hP
  have hD : va_D A [(x0, .inr (7, [.ref (b 0), .ref (b 1), .ref (b 2), .ref (b 3), .ref (b 4), .ref (b 5), .ref (b 6), .ref (b 7), .ref (b 8), .ref (b 9), .int 1])), ((b 0), .inr (3, [.ref (f4 0), .int 8])), ((f4 0), .inl (c4, 1000, .inl bf1_8))] := hD
  refine W.widen (k := 0) (n := 0) (Nat.le_of_ble_eq_true rfl) (Nat.le_of_ble_eq_true rfl) ?_
  refine lv_aload_n hx hb dX8_feed_28 rfl (lv_at hl 0 rfl) ?_
  refine va_get (D := (dC, dI)) (ci := 7) (v := .ref (b 0)) (C := RX8) (T := TX8) (N := 11) hx hb hts inlX8 hown hK hP 0 rfl rfl 0 (by decide) (hts (.fieldLink RX8 10 "ClosedUntil" "tape" "LClosedUntil$Tape;") qw_175) (fun _ h9 => h9) rfl dX8_feed_29 ?_
  refine lv_iload_n hx hb dX8_feed_32 rfl (lv_at hl 3 rfl) ?_
  have hPc := hP.sub (ws' := [((b 0), .inr (3, [.ref (f4 0), .int 8])), ((f4 0), .inl (c4, 1000, .inl bf1_8))]) [1, 2] rfl
  have hKc := hK.sub (tys' := [(c4, .byte)]) [0] rfl
  have hDc := hD.sub (ws' := [((b 0), .inr (3, [.ref (f4 0), .int 8])), ((f4 0), .inl (c4, 1000, .inl bf1_8))]) [1, 2] (by decide) rfl
  have hFc := va_free (wc := [((b 0), .inr (3, [.ref (f4 0), .int 8])), ((f4 0), .inl (c4, 1000, .inl bf1_8))]) hD hS hA [1, 2] rfl
  refine va_callv (va_runVN (As := [.int v3]) (rest := []) ⟨hx, hb, hml, hown, hts⟩ (c_ap8 l dC dI g H.size ((b 0)) (f4) (c4) (bf1_8) (v3) ) ⟨va_cnB 1 hts (gwC qw_293) rfl rfl rfl (nm_8 hN) (hts (.initialized RX4) qw_172) (by decide +kernel) ⟨Nat.le_of_ble_eq_true rfl, Nat.le_of_ble_eq_true rfl⟩, (hts (.instanceMethod yX4_append) qw_294), (hts (.selects RX4 yX4_append yX4_append) qw_295)⟩ ⟨fun a U g9 mk q => ⟨q.1, q.2.1, q.2.2.1, va_K.moved (u := U) (U := U.calling g9 mk a) (Vm.Alike.refl U.vm) q.2.2.2.1, q.2.2.2.2.1, Ev.bl q.2.2.2.2.2⟩, va_recv hK hP (ci := 3) (q0 := 1) rfl rfl, fun U hU hW => ⟨rfl, by rw [hU], by rw [hU]; exact hPc, va_K.moved hW.alike hKc, hDc.weaken (fun _ _ _ _ => trivial), hE.go hS hFc hU hW⟩⟩ rfl rfl hl.1 rfl (lv_room (Nat.le_of_ble_eq_true rfl)) dX8_feed_33 ⟨Nat.le_of_ble_eq_true rfl, Nat.le_of_ble_eq_true rfl⟩) hS (fun q _ h => hFc q h) hFc (fun u9 t H1 locs ht hvm h_u9 hB hz1 hk1 hS => ?_)
  obtain ⟨bf1_11, rfl⟩ : ∃ z, z = u9 := ⟨_, rfl⟩
  obtain ⟨hP1, hK1, hD1⟩ := hB
  rw [ht] at hP1
  have hK1 := va_K.moved hvm.symm hK1
  obtain ⟨hP, hD⟩ := va_join (wr := [(x0, .inr (7, [.ref (b 0), .ref (b 1), .ref (b 2), .ref (b 3), .ref (b 4), .ref (b 5), .ref (b 6), .ref (b 7), .ref (b 8), .ref (b 9), .int 1]))]) (w1 := [((b 0), .inr (3, [.ref (f4 0), .int 12])), ((f4 0), .inl (c4, 1000, .inl bf1_11))]) hP hD [1, 2] [0] rfl rfl (by decide) (by decide) hk1 hFc hP1 hD1
  have hK := hK.app hK1
  have hK : va_K (dC, dI) vwCl [(c4, .byte)] s := hK
  generalize H1 = H at hP hS ⊢
  have hP : va_P (dC, dI) vwCl [(x0, .inr (7, [.ref (b 0), .ref (b 1), .ref (b 2), .ref (b 3), .ref (b 4), .ref (b 5), .ref (b 6), .ref (b 7), .ref (b 8), .ref (b 9), .int 1])), ((b 0), .inr (3, [.ref (f4 0), .int 12])), ((f4 0), .inl (c4, 1000, .inl bf1_11))] H := hP
  have hD : va_D A [(x0, .inr (7, [.ref (b 0), .ref (b 1), .ref (b 2), .ref (b 3), .ref (b 4), .ref (b 5), .ref (b 6), .ref (b 7), .ref (b 8), .ref (b 9), .int 1])), ((b 0), .inr (3, [.ref (f4 0), .int 12])), ((f4 0), .inl (c4, 1000, .inl bf1_11))] := hD
  refine W.widen (k := 0) (n := 0) (Nat.le_of_ble_eq_true rfl) (Nat.le_of_ble_eq_true rfl) ?_
  refine lv_aload_n hx hb dX8_feed_36 rfl (lv_at hl 0 rfl) ?_
  refine va_get (D := (dC, dI)) (ci := 7) (v := .ref (b 0)) (C := RX8) (T := TX8) (N := 11) hx hb hts inlX8 hown hK hP 0 rfl rfl 0 (by decide) (hts (.fieldLink RX8 10 "ClosedUntil" "tape" "LClosedUntil$Tape;") qw_175) (fun _ h9 => h9) rfl dX8_feed_37 ?_
  refine lv_iload hx hb dX8_feed_40 (lv_at hl 4 rfl) ?_
  have hPc := hP.sub (ws' := [((b 0), .inr (3, [.ref (f4 0), .int 12])), ((f4 0), .inl (c4, 1000, .inl bf1_11))]) [1, 2] rfl
  have hKc := hK.sub (tys' := [(c4, .byte)]) [0] rfl
  have hDc := hD.sub (ws' := [((b 0), .inr (3, [.ref (f4 0), .int 12])), ((f4 0), .inl (c4, 1000, .inl bf1_11))]) [1, 2] (by decide) rfl
  have hFc := va_free (wc := [((b 0), .inr (3, [.ref (f4 0), .int 12])), ((f4 0), .inl (c4, 1000, .inl bf1_11))]) hD hS hA [1, 2] rfl
  refine va_callv (va_runVN (As := [.int v4]) (rest := []) ⟨hx, hb, hml, hown, hts⟩ (c_ap12 l dC dI g H.size ((b 0)) (f4) (c4) (bf1_11) (v4) ) ⟨va_cnB 1 hts (gwC qw_293) rfl rfl rfl (nm_8 hN) (hts (.initialized RX4) qw_172) (by decide +kernel) ⟨Nat.le_of_ble_eq_true rfl, Nat.le_of_ble_eq_true rfl⟩, (hts (.instanceMethod yX4_append) qw_294), (hts (.selects RX4 yX4_append yX4_append) qw_295)⟩ ⟨fun a U g9 mk q => ⟨q.1, q.2.1, q.2.2.1, va_K.moved (u := U) (U := U.calling g9 mk a) (Vm.Alike.refl U.vm) q.2.2.2.1, q.2.2.2.2.1, Ev.bl q.2.2.2.2.2⟩, va_recv hK hP (ci := 3) (q0 := 1) rfl rfl, fun U hU hW => ⟨rfl, by rw [hU], by rw [hU]; exact hPc, va_K.moved hW.alike hKc, hDc.weaken (fun _ _ _ _ => trivial), hE.go hS hFc hU hW⟩⟩ rfl rfl hl.1 rfl (lv_room (Nat.le_of_ble_eq_true rfl)) dX8_feed_42 ⟨Nat.le_of_ble_eq_true rfl, Nat.le_of_ble_eq_true rfl⟩) hS (fun q _ h => hFc q h) hFc (fun u12 t H1 locs ht hvm h_u12 hB hz1 hk1 hS => ?_)
  obtain ⟨bf1_14, rfl⟩ : ∃ z, z = u12 := ⟨_, rfl⟩
  obtain ⟨hP1, hK1, hD1⟩ := hB
  rw [ht] at hP1
  have hK1 := va_K.moved hvm.symm hK1
  obtain ⟨hP, hD⟩ := va_join (wr := [(x0, .inr (7, [.ref (b 0), .ref (b 1), .ref (b 2), .ref (b 3), .ref (b 4), .ref (b 5), .ref (b 6), .ref (b 7), .ref (b 8), .ref (b 9), .int 1]))]) (w1 := [((b 0), .inr (3, [.ref (f4 0), .int 16])), ((f4 0), .inl (c4, 1000, .inl bf1_14))]) hP hD [1, 2] [0] rfl rfl (by decide) (by decide) hk1 hFc hP1 hD1
  have hK := hK.app hK1
  have hK : va_K (dC, dI) vwCl [(c4, .byte)] s := hK
  generalize H1 = H at hP hS ⊢
  have hP : va_P (dC, dI) vwCl [(x0, .inr (7, [.ref (b 0), .ref (b 1), .ref (b 2), .ref (b 3), .ref (b 4), .ref (b 5), .ref (b 6), .ref (b 7), .ref (b 8), .ref (b 9), .int 1])), ((b 0), .inr (3, [.ref (f4 0), .int 16])), ((f4 0), .inl (c4, 1000, .inl bf1_14))] H := hP
  have hD : va_D A [(x0, .inr (7, [.ref (b 0), .ref (b 1), .ref (b 2), .ref (b 3), .ref (b 4), .ref (b 5), .ref (b 6), .ref (b 7), .ref (b 8), .ref (b 9), .int 1])), ((b 0), .inr (3, [.ref (f4 0), .int 16])), ((f4 0), .inl (c4, 1000, .inl bf1_14))] := hD
  refine W.widen (k := 0) (n := 0) (Nat.le_of_ble_eq_true rfl) (Nat.le_of_ble_eq_true rfl) ?_
  refine lv_aload_n hx hb dX8_feed_45 rfl (lv_at hl 0 rfl) ?_
  refine va_get (D := (dC, dI)) (ci := 7) (v := .ref (b 0)) (C := RX8) (T := TX8) (N := 11) hx hb hts inlX8 hown hK hP 0 rfl rfl 0 (by decide) (hts (.fieldLink RX8 10 "ClosedUntil" "tape" "LClosedUntil$Tape;") qw_175) (fun _ h9 => h9) rfl dX8_feed_46 ?_
  refine lv_iload hx hb dX8_feed_49 (lv_at hl 5 rfl) ?_
  have hPc := hP.sub (ws' := [((b 0), .inr (3, [.ref (f4 0), .int 16])), ((f4 0), .inl (c4, 1000, .inl bf1_14))]) [1, 2] rfl
  have hKc := hK.sub (tys' := [(c4, .byte)]) [0] rfl
  have hDc := hD.sub (ws' := [((b 0), .inr (3, [.ref (f4 0), .int 16])), ((f4 0), .inl (c4, 1000, .inl bf1_14))]) [1, 2] (by decide) rfl
  have hFc := va_free (wc := [((b 0), .inr (3, [.ref (f4 0), .int 16])), ((f4 0), .inl (c4, 1000, .inl bf1_14))]) hD hS hA [1, 2] rfl
  refine va_callv (va_runVN (As := [.int v5]) (rest := []) ⟨hx, hb, hml, hown, hts⟩ (c_ap16 l dC dI g H.size ((b 0)) (f4) (c4) (bf1_14) (v5) ) ⟨va_cnB 1 hts (gwC qw_293) rfl rfl rfl (nm_8 hN) (hts (.initialized RX4) qw_172) (by decide +kernel) ⟨Nat.le_of_ble_eq_true rfl, Nat.le_of_ble_eq_true rfl⟩, (hts (.instanceMethod yX4_append) qw_294), (hts (.selects RX4 yX4_append yX4_append) qw_295)⟩ ⟨fun a U g9 mk q => ⟨q.1, q.2.1, q.2.2.1, va_K.moved (u := U) (U := U.calling g9 mk a) (Vm.Alike.refl U.vm) q.2.2.2.1, q.2.2.2.2.1, Ev.bl q.2.2.2.2.2⟩, va_recv hK hP (ci := 3) (q0 := 1) rfl rfl, fun U hU hW => ⟨rfl, by rw [hU], by rw [hU]; exact hPc, va_K.moved hW.alike hKc, hDc.weaken (fun _ _ _ _ => trivial), hE.go hS hFc hU hW⟩⟩ rfl rfl hl.1 rfl (lv_room (Nat.le_of_ble_eq_true rfl)) dX8_feed_51 ⟨Nat.le_of_ble_eq_true rfl, Nat.le_of_ble_eq_true rfl⟩) hS (fun q _ h => hFc q h) hFc (fun u15 t H1 locs ht hvm h_u15 hB hz1 hk1 hS => ?_)
  obtain ⟨bf1_17, rfl⟩ : ∃ z, z = u15 := ⟨_, rfl⟩
  obtain ⟨hP1, hK1, hD1⟩ := hB
  rw [ht] at hP1
  have hK1 := va_K.moved hvm.symm hK1
  obtain ⟨hP, hD⟩ := va_join (wr := [(x0, .inr (7, [.ref (b 0), .ref (b 1), .ref (b 2), .ref (b 3), .ref (b 4), .ref (b 5), .ref (b 6), .ref (b 7), .ref (b 8), .ref (b 9), .int 1]))]) (w1 := [((b 0), .inr (3, [.ref (f4 0), .int 20])), ((f4 0), .inl (c4, 1000, .inl bf1_17))]) hP hD [1, 2] [0] rfl rfl (by decide) (by decide) hk1 hFc hP1 hD1
  have hK := hK.app hK1
  have hK : va_K (dC, dI) vwCl [(c4, .byte)] s := hK
  generalize H1 = H at hP hS ⊢
  have hP : va_P (dC, dI) vwCl [(x0, .inr (7, [.ref (b 0), .ref (b 1), .ref (b 2), .ref (b 3), .ref (b 4), .ref (b 5), .ref (b 6), .ref (b 7), .ref (b 8), .ref (b 9), .int 1])), ((b 0), .inr (3, [.ref (f4 0), .int 20])), ((f4 0), .inl (c4, 1000, .inl bf1_17))] H := hP
  have hD : va_D A [(x0, .inr (7, [.ref (b 0), .ref (b 1), .ref (b 2), .ref (b 3), .ref (b 4), .ref (b 5), .ref (b 6), .ref (b 7), .ref (b 8), .ref (b 9), .int 1])), ((b 0), .inr (3, [.ref (f4 0), .int 20])), ((f4 0), .inl (c4, 1000, .inl bf1_17))] := hD
  refine W.widen (k := 0) (n := 0) (Nat.le_of_ble_eq_true rfl) (Nat.le_of_ble_eq_true rfl) ?_
  refine lv_aload_n hx hb dX8_feed_54 rfl (lv_at hl 0 rfl) ?_
  refine va_get (D := (dC, dI)) (ci := 7) (v := .ref (b 0)) (C := RX8) (T := TX8) (N := 11) hx hb hts inlX8 hown hK hP 0 rfl rfl 0 (by decide) (hts (.fieldLink RX8 10 "ClosedUntil" "tape" "LClosedUntil$Tape;") qw_175) (fun _ h9 => h9) rfl dX8_feed_55 ?_
  refine va_getN (D := (dC, dI)) (ci := 3) (v := .int 20) (C := RX4) (T := TX4) (N := 2) hx hb hts inlX4 hown hK hP 1 rfl rfl 1 (by decide) (va_Nw.use rfl (nf_1 hN)) (fun _ h9 => h9) rfl dX8_feed_58 ?_
  refine W.widen (k := 0) (n := 0) (Nat.le_of_ble_eq_true rfl) (Nat.le_of_ble_eq_true rfl) ?_
  exact W.iret (v := 20) hx hb hr (fun t ht hW => ⟨⟨20, (), rfl, (rfl), trivial⟩, hS.F ht⟩) hS.2.2 dX8_feed_61
