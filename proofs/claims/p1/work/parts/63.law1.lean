theorem dL_law_315 : decode cL_law 315 = .ok (.aload_n 1, 1) := by decide +kernel
theorem dL_law_316 : decode cL_law 316 = .ok (.aload_n 0, 1) := by decide +kernel
theorem dL_law_317 : decode cL_law 317 = .ok (.iload 4, 2) := by decide +kernel
theorem dL_law_319 : decode cL_law 319 = .ok (.iconst 1, 1) := by decide +kernel
theorem dL_law_320 : decode cL_law 320 = .ok (.iadd, 1) := by decide +kernel
theorem dL_law_321 : decode cL_law 321 = .ok (.iaload, 1) := by decide +kernel
theorem dL_law_322 : decode cL_law 322 = .ok (.aload_n 0, 1) := by decide +kernel
theorem dL_law_323 : decode cL_law 323 = .ok (.iload 4, 2) := by decide +kernel
theorem dL_law_325 : decode cL_law 325 = .ok (.iconst 2, 1) := by decide +kernel
theorem dL_law_326 : decode cL_law 326 = .ok (.iadd, 1) := by decide +kernel
theorem dL_law_327 : decode cL_law 327 = .ok (.iaload, 1) := by decide +kernel
theorem dL_law_328 : decode cL_law 328 = .ok (.invokevirtual 33, 3) := by decide +kernel
theorem dL_law_331 : decode cL_law 331 = .ok (.aload_n 2, 1) := by decide +kernel
theorem dL_law_332 : decode cL_law 332 = .ok (.aload_n 0, 1) := by decide +kernel
theorem dL_law_333 : decode cL_law 333 = .ok (.iload 4, 2) := by decide +kernel
theorem dL_law_335 : decode cL_law 335 = .ok (.iconst 1, 1) := by decide +kernel
theorem dL_law_336 : decode cL_law 336 = .ok (.iadd, 1) := by decide +kernel
theorem dL_law_337 : decode cL_law 337 = .ok (.iaload, 1) := by decide +kernel
theorem dL_law_338 : decode cL_law 338 = .ok (.aload_n 0, 1) := by decide +kernel
theorem dL_law_339 : decode cL_law 339 = .ok (.iload 4, 2) := by decide +kernel
theorem dL_law_341 : decode cL_law 341 = .ok (.iconst 2, 1) := by decide +kernel
theorem dL_law_342 : decode cL_law 342 = .ok (.iadd, 1) := by decide +kernel
theorem dL_law_343 : decode cL_law 343 = .ok (.iaload, 1) := by decide +kernel
theorem dL_law_344 : decode cL_law 344 = .ok (.invokevirtual 37, 3) := by decide +kernel
theorem dL_law_347 : decode cL_law 347 = .ok (.if_icmp .eq 964, 3) := by decide +kernel
theorem dL_law_352 : decode cL_law 352 = .ok (.aload_n 1, 1) := by decide +kernel
theorem dL_law_353 : decode cL_law 353 = .ok (.aload_n 0, 1) := by decide +kernel
theorem dL_law_354 : decode cL_law 354 = .ok (.iload 4, 2) := by decide +kernel
theorem dL_law_356 : decode cL_law 356 = .ok (.iconst 1, 1) := by decide +kernel
theorem dL_law_357 : decode cL_law 357 = .ok (.iadd, 1) := by decide +kernel
theorem dL_law_358 : decode cL_law 358 = .ok (.iaload, 1) := by decide +kernel
theorem dL_law_359 : decode cL_law 359 = .ok (.aload_n 0, 1) := by decide +kernel
theorem dL_law_360 : decode cL_law 360 = .ok (.iload 4, 2) := by decide +kernel
theorem dL_law_362 : decode cL_law 362 = .ok (.iconst 2, 1) := by decide +kernel
theorem dL_law_363 : decode cL_law 363 = .ok (.iadd, 1) := by decide +kernel
theorem dL_law_364 : decode cL_law 364 = .ok (.iaload, 1) := by decide +kernel
theorem dL_law_365 : decode cL_law 365 = .ok (.invokevirtual 38, 3) := by decide +kernel
theorem dL_law_368 : decode cL_law 368 = .ok (.aload_n 2, 1) := by decide +kernel
theorem dL_law_369 : decode cL_law 369 = .ok (.aload_n 0, 1) := by decide +kernel
theorem dL_law_370 : decode cL_law 370 = .ok (.iload 4, 2) := by decide +kernel
theorem dL_law_372 : decode cL_law 372 = .ok (.iconst 1, 1) := by decide +kernel
theorem dL_law_373 : decode cL_law 373 = .ok (.iadd, 1) := by decide +kernel
theorem dL_law_374 : decode cL_law 374 = .ok (.iaload, 1) := by decide +kernel
theorem dL_law_375 : decode cL_law 375 = .ok (.aload_n 0, 1) := by decide +kernel
theorem dL_law_376 : decode cL_law 376 = .ok (.iload 4, 2) := by decide +kernel
theorem dL_law_378 : decode cL_law 378 = .ok (.iconst 2, 1) := by decide +kernel
theorem dL_law_379 : decode cL_law 379 = .ok (.iadd, 1) := by decide +kernel
theorem dL_law_380 : decode cL_law 380 = .ok (.iaload, 1) := by decide +kernel
theorem dL_law_381 : decode cL_law 381 = .ok (.invokevirtual 41, 3) := by decide +kernel
theorem dL_law_384 : decode cL_law 384 = .ok (.if_icmp .eq 927, 3) := by decide +kernel
theorem qw_421 : (Cond.code yX8_date cX8_date 3 (some .int) : Cond) ∈ TBL := List.mem_of_getElem? (i := 493) (by decide +kernel)
theorem qw_422 : (Cond.methodLink RL 33 yX8_date : Cond) ∈ TBL := List.mem_of_getElem? (i := 490) (by decide +kernel)
theorem qw_423 : (Cond.instanceMethod yX8_date : Cond) ∈ TBL := List.mem_of_getElem? (i := 491) (by decide +kernel)
theorem qw_424 : (Cond.selects RX8 yX8_date yX8_date : Cond) ∈ TBL := List.mem_of_getElem? (i := 492) (by decide +kernel)
theorem qw_425 : (Cond.code yX9_date cX9_date 3 (some .int) : Cond) ∈ TBL := List.mem_of_getElem? (i := 512) (by decide +kernel)
theorem qw_426 : (Cond.methodLink RL 37 yX9_date : Cond) ∈ TBL := List.mem_of_getElem? (i := 509) (by decide +kernel)
theorem qw_427 : (Cond.instanceMethod yX9_date : Cond) ∈ TBL := List.mem_of_getElem? (i := 510) (by decide +kernel)
theorem qw_428 : (Cond.selects RX9 yX9_date yX9_date : Cond) ∈ TBL := List.mem_of_getElem? (i := 511) (by decide +kernel)
theorem qw_429 : (Cond.code yX8_plus cX8_plus 3 (some .int) : Cond) ∈ TBL := List.mem_of_getElem? (i := 525) (by decide +kernel)
theorem qw_430 : (Cond.methodLink RL 38 yX8_plus : Cond) ∈ TBL := List.mem_of_getElem? (i := 522) (by decide +kernel)
theorem qw_431 : (Cond.instanceMethod yX8_plus : Cond) ∈ TBL := List.mem_of_getElem? (i := 523) (by decide +kernel)
theorem qw_432 : (Cond.selects RX8 yX8_plus yX8_plus : Cond) ∈ TBL := List.mem_of_getElem? (i := 524) (by decide +kernel)
theorem qw_433 : (Cond.code yX9_plus cX9_plus 3 (some .int) : Cond) ∈ TBL := List.mem_of_getElem? (i := 537) (by decide +kernel)
theorem qw_434 : (Cond.methodLink RL 41 yX9_plus : Cond) ∈ TBL := List.mem_of_getElem? (i := 534) (by decide +kernel)
theorem qw_435 : (Cond.instanceMethod yX9_plus : Cond) ∈ TBL := List.mem_of_getElem? (i := 535) (by decide +kernel)
theorem qw_436 : (Cond.selects RX9 yX9_plus yX9_plus : Cond) ∈ TBL := List.mem_of_getElem? (i := 536) (by decide +kernel)
set_option maxHeartbeats 4000000 in
set_option maxRecDepth 100000 in
theorem law_3B {p : Program} {e : Env} {s : State} {m : MethodId} {below : List Frame} {meth : Method} {c : Code} (l : Launch) {b0 : Nat} {xs : Nat → Int32} (C0 : lw_At p s m meth c b0 6 xs) (dC : Nat → ClassId) (dI : Nat → Nat → Nat) (g : Gv) (x0 : Nat) (b : Nat → Nat) (f4 : Nat → Nat) (c4 : ClassId) (f5 : Nat → Nat) (f7 : Nat → Nat) (f6 : Nat → Nat) (f2 : Nat → Nat) (cK : ClassId) (kf : Nat → Option Nat) (cZ : ClassId) (fT : Nat → Nat) (fU : Nat → Nat) (sa : Nat → Nat) (sf : Nat → Nat → Nat) (sc : Nat → Nat → ClassId) (spf : Nat → Nat → Int32) (sdf : Nat → Nat → Int32) (slf : Nat → Nat → Int32) (srf : Nat → Nat → Int32) (sga : Nat → Nat → Option Nat) (sgb : Nat → Nat → Option Nat) (rows : va_W) (m0 : Nat) (a : Nat → Nat) (ca : Nat → ClassId) (o0 : Nat)  (hd : ¬ (0 ≤ (xs 1).toInt ∧ (xs 1).toInt < 219145)) {H : Heap} {locs : List Loc} {ls : Array Slot} (hK : va_K (dC, dI) vwCl [] s) (hP : va_P (dC, dI) vwCl [(x0, .inr (7, [.ref (b 0), .ref (b 1), .ref (b 2), .ref (b 3), .ref (b 4), .ref (b 5), .ref (b 6), .ref (b 7), .ref (b 8), .ref (b 9), .int 1])), (m0, .inr (8, [.int 0, .int 0, .int 0, .int 0, .ref (a 4), .int 0, .int 0, .int 0, .int 0, .int 0, .int 0, .long 0, .int 0, .int 0, .int 0, .int 0, .int 0, .int 0, .ref (a 18), .ref (a 19), .ref (a 20), .ref (a 21), .ref (a 22), .ref (a 23), .ref (a 24), .ref (a 25), .ref (a 26), .ref (a 27), .ref (a 28), .ref (a 29), .ref (a 30), .ref (a 31), .ref (a 32), .ref (a 33), .ref (a 34), .ref (a 35), .long 0, .int 0, .ref (a 38), .ref (a 39), .int 0, .ref (a 41), .ref (a 42), .ref (a 43)]))] H) (hD : va_D (fun q : Nat => s.heap.size ≤ q) [(x0, .inr (7, [.ref (b 0), .ref (b 1), .ref (b 2), .ref (b 3), .ref (b 4), .ref (b 5), .ref (b 6), .ref (b 7), .ref (b 8), .ref (b 9), .int 1])), (m0, .inr (8, [.int 0, .int 0, .int 0, .int 0, .ref (a 4), .int 0, .int 0, .int 0, .int 0, .int 0, .int 0, .long 0, .int 0, .int 0, .int 0, .int 0, .int 0, .int 0, .ref (a 18), .ref (a 19), .ref (a 20), .ref (a 21), .ref (a 22), .ref (a 23), .ref (a 24), .ref (a 25), .ref (a 26), .ref (a 27), .ref (a 28), .ref (a 29), .ref (a 30), .ref (a 31), .ref (a 32), .ref (a 33), .ref (a 34), .ref (a 35), .long 0, .int 0, .ref (a 38), .ref (a 39), .int 0, .ref (a 41), .ref (a 42), .ref (a 43)]))]) (hS : va_S (fun q : Nat => s.heap.size ≤ q) s.heap H locs) (hE : Ev g (fun q : Nat => s.heap.size ≤ q) s) (hl : lv_has ls 7 [(4, .int 0), (3, .ref o0), (2, .ref m0), (1, .ref x0), (0, .ref b0)]) : W p l e room_1 s m #[Value.ref b0] below meth c H locs 243 7586 (lw_Z below #[Value.ref b0] s) (F0 m 315 ls []) := by
  obtain ⟨hx, hb, hr, hml, hown, hts0, hX, hbl, hlocks, hgv⟩ := id C0
  have hts := fun (w : Cond) (h : w ∈ TBL) => hts0 w (TBin w h)
  have hown : s.vm.findClass RL = some m.cls := hown
  have hN := hE.1
  have hA : ∀ q : Nat, s.heap.size ≤ q → (fun q : Nat => s.heap.size ≤ q) q := fun _ h => h
  have hbA : ¬ (fun q : Nat => s.heap.size ≤ q) b0 := Nat.not_le.mpr hbl
  generalize hAe : (fun q : Nat => s.heap.size ≤ q) = A at hD hS hE hA hbA
  refine lv_aload_n hx hb dL_law_315 rfl (lv_at hl 3 rfl) ?_
  refine lv_aload_n hx hb dL_law_316 rfl (lv_at hl 4 rfl) ?_
  refine lv_iload hx hb dL_law_317 (lv_at hl 0 rfl) ?_
  refine lv_iconst (v := 1) hx hb dL_law_319 (by decide) ?_
  refine lv_iadd hx hb dL_law_320 ?_
  refine cst (v := 1) (by decide) ?_
  refine va_sld hx hb hX hbl hbA hS (vin0 (by decide)) dL_law_321 ?_
  refine cst (v := (xs 1)) (congrArg xs (show (1 : Int32).toNatClampNeg = 1 by decide)) ?_
  refine lv_aload_n hx hb dL_law_322 rfl (lv_at hl 4 rfl) ?_
  refine lv_iload hx hb dL_law_323 (lv_at hl 0 rfl) ?_
  refine lv_iconst (v := 2) hx hb dL_law_325 (by decide) ?_
  refine lv_iadd hx hb dL_law_326 ?_
  refine cst (v := 2) (by decide) ?_
  refine va_sld hx hb hX hbl hbA hS (vin0 (by decide)) dL_law_327 ?_
  refine cst (v := (xs 2)) (congrArg xs (show (2 : Int32).toNatClampNeg = 2 by decide)) ?_
  have hPc := hP.sub (ws' := []) [] rfl
  have hKc := hK.sub (tys' := []) [] rfl
  refine vp_callSi ((va_runV (As := [.int (xs 1), .int (xs 2)]) (rest := []) ⟨hx, hb, hml, hown, hts⟩ (c_8date_B l dC dI g (x0) ((xs 1)) ((xs 2)) hd) (cwV 2 hts (gwV qw_422 qw_423 qw_424 qw_69 qw_421) rfl rfl rfl (by decide +kernel) ⟨Nat.le_of_ble_eq_true rfl, Nat.le_of_ble_eq_true rfl⟩) ⟨fun a U g9 mk q => ⟨q.1, q.2.1, va_K.moved (u := U) (U := U.calling g9 mk a) (Vm.Alike.refl U.vm) q.2.2.1, Ev.bl q.2.2.2⟩, va_recv hK hP (ci := 7) (q0 := 0) rfl rfl, fun U hU hW => ⟨rfl, by rw [hU]; exact hPc, va_K.moved hW.alike hKc, hE.go hS (fun _ h => h.elim) hU hW⟩⟩ rfl rfl hl.1 rfl (lv_room (Nat.le_of_ble_eq_true rfl)) dL_law_328 ⟨Nat.le_of_ble_eq_true rfl, Nat.le_of_ble_eq_true rfl⟩)).run (fun r1 h_r1 => ?_)
  have h_r1 : r1 = (-1) := h_r1
  subst h_r1
  refine lv_aload_n hx hb dL_law_331 rfl (lv_at hl 2 rfl) ?_
  refine lv_aload_n hx hb dL_law_332 rfl (lv_at hl 4 rfl) ?_
  refine lv_iload hx hb dL_law_333 (lv_at hl 0 rfl) ?_
  refine lv_iconst (v := 1) hx hb dL_law_335 (by decide) ?_
  refine lv_iadd hx hb dL_law_336 ?_
  refine cst (v := 1) (by decide) ?_
  refine va_sld hx hb hX hbl hbA hS (vin0 (by decide)) dL_law_337 ?_
  refine cst (v := (xs 1)) (congrArg xs (show (1 : Int32).toNatClampNeg = 1 by decide)) ?_
  refine lv_aload_n hx hb dL_law_338 rfl (lv_at hl 4 rfl) ?_
  refine lv_iload hx hb dL_law_339 (lv_at hl 0 rfl) ?_
  refine lv_iconst (v := 2) hx hb dL_law_341 (by decide) ?_
  refine lv_iadd hx hb dL_law_342 ?_
  refine cst (v := 2) (by decide) ?_
  refine va_sld hx hb hX hbl hbA hS (vin0 (by decide)) dL_law_343 ?_
  refine cst (v := (xs 2)) (congrArg xs (show (2 : Int32).toNatClampNeg = 2 by decide)) ?_
  have hPc := hP.sub (ws' := [(m0, .inr (8, [.int 0, .int 0, .int 0, .int 0, .ref (a 4), .int 0, .int 0, .int 0, .int 0, .int 0, .int 0, .long 0, .int 0, .int 0, .int 0, .int 0, .int 0, .int 0, .ref (a 18), .ref (a 19), .ref (a 20), .ref (a 21), .ref (a 22), .ref (a 23), .ref (a 24), .ref (a 25), .ref (a 26), .ref (a 27), .ref (a 28), .ref (a 29), .ref (a 30), .ref (a 31), .ref (a 32), .ref (a 33), .ref (a 34), .ref (a 35), .long 0, .int 0, .ref (a 38), .ref (a 39), .int 0, .ref (a 41), .ref (a 42), .ref (a 43)]))]) [1] rfl
  have hKc := hK.sub (tys' := []) [] rfl
  have hDc := hD.sub (ws' := [(m0, .inr (8, [.int 0, .int 0, .int 0, .int 0, .ref (a 4), .int 0, .int 0, .int 0, .int 0, .int 0, .int 0, .long 0, .int 0, .int 0, .int 0, .int 0, .int 0, .int 0, .ref (a 18), .ref (a 19), .ref (a 20), .ref (a 21), .ref (a 22), .ref (a 23), .ref (a 24), .ref (a 25), .ref (a 26), .ref (a 27), .ref (a 28), .ref (a 29), .ref (a 30), .ref (a 31), .ref (a 32), .ref (a 33), .ref (a 34), .ref (a 35), .long 0, .int 0, .ref (a 38), .ref (a 39), .int 0, .ref (a 41), .ref (a 42), .ref (a 43)]))]) [1] (by decide) rfl
  have hFc := va_free (wc := [(m0, .inr (8, [.int 0, .int 0, .int 0, .int 0, .ref (a 4), .int 0, .int 0, .int 0, .int 0, .int 0, .int 0, .long 0, .int 0, .int 0, .int 0, .int 0, .int 0, .int 0, .ref (a 18), .ref (a 19), .ref (a 20), .ref (a 21), .ref (a 22), .ref (a 23), .ref (a 24), .ref (a 25), .ref (a 26), .ref (a 27), .ref (a 28), .ref (a 29), .ref (a 30), .ref (a 31), .ref (a 32), .ref (a 33), .ref (a 34), .ref (a 35), .long 0, .int 0, .ref (a 38), .ref (a 39), .int 0, .ref (a 41), .ref (a 42), .ref (a 43)]))]) hD hS hA [1] rfl
  refine va_calli (va_runV (As := [.int (xs 1), .int (xs 2)]) (rest := [.int (-1)]) ⟨hx, hb, hml, hown, hts⟩ (c_9date_B l dC dI g H.size (m0) (a) ((xs 1)) ((xs 2)) hd) (cwV 2 hts (gwV qw_426 qw_427 qw_428 qw_23 qw_425) rfl rfl rfl (by decide +kernel) ⟨Nat.le_of_ble_eq_true rfl, Nat.le_of_ble_eq_true rfl⟩) ⟨fun a U g9 mk q => ⟨q.1, q.2.1, q.2.2.1, va_K.moved (u := U) (U := U.calling g9 mk a) (Vm.Alike.refl U.vm) q.2.2.2.1, q.2.2.2.2.1, Ev.bl q.2.2.2.2.2⟩, va_recv hK hP (ci := 8) (q0 := 1) rfl rfl, fun U hU hW => ⟨rfl, by rw [hU], by rw [hU]; exact hPc, va_K.moved hW.alike hKc, hDc.weaken (fun _ _ _ _ => trivial), hE.go hS hFc hU hW⟩⟩ rfl rfl hl.1 rfl (lv_room (Nat.le_of_ble_eq_true rfl)) dL_law_344 ⟨Nat.le_of_ble_eq_true rfl, Nat.le_of_ble_eq_true rfl⟩) hS (fun q _ h => hFc q h) hFc (fun r3 u2 t H1 locs ht hvm h_u2 hB hz1 hk1 hS => ?_)
  obtain ⟨hP, hD⟩ := va_join (wr := [(x0, .inr (7, [.ref (b 0), .ref (b 1), .ref (b 2), .ref (b 3), .ref (b 4), .ref (b 5), .ref (b 6), .ref (b 7), .ref (b 8), .ref (b 9), .int 1]))]) (w1 := []) hP hD [1] [0] rfl rfl (by decide) (by decide) hk1 hFc va_P0 va_D0
  generalize H1 = H at hP hS ⊢
  have hP : va_P (dC, dI) vwCl [(x0, .inr (7, [.ref (b 0), .ref (b 1), .ref (b 2), .ref (b 3), .ref (b 4), .ref (b 5), .ref (b 6), .ref (b 7), .ref (b 8), .ref (b 9), .int 1]))] H := hP
  have hD : va_D A [(x0, .inr (7, [.ref (b 0), .ref (b 1), .ref (b 2), .ref (b 3), .ref (b 4), .ref (b 5), .ref (b 6), .ref (b 7), .ref (b 8), .ref (b 9), .int 1]))] := hD
  refine W.widen (k := 243) (n := 7586) (Nat.le_of_ble_eq_true rfl) (Nat.le_of_ble_eq_true rfl) ?_
  have h_u2 : r3 = (-1) := h_u2
  subst h_u2
  refine lv_icmp_eq (tgt := 1311) hx hb dL_law_347 (by decide) (fun c347_4 => ?_) (fun c347_4 => by exfalso; exact absurd c347_4 (by decide))
  refine lv_iinc (v := 6) (lv' := [(4, .int 6), (3, .ref o0), (2, .ref m0), (1, .ref x0), (0, .ref b0)]) hx hb dL_law_1311 hl (k := 0) rfl (by decide) (by decide) rfl (fun ls hl => ?_)
  refine lv_goto (tgt := 23) hx hb dL_law_1314 (by decide) ?_
  refine lv_iload hx hb dL_law_23 (lv_at hl 0 rfl) ?_
  refine lv_aload_n hx hb dL_law_25 rfl (lv_at hl 4 rfl) ?_
  refine va_slen hx hb hX hbl hbA hS dL_law_26 ?_
  refine cst (v := 6) (by decide) ?_
  refine lv_bipush (v := 6) hx hb dL_law_27 (by decide) ?_
  refine lv_isub hx hb dL_law_29 ?_
  refine cst (v := 0) (by decide) ?_
  refine lv_icmp_gt (tgt := 1317) hx hb dL_law_30 (by decide) (fun c30_5 => ?_) (fun c30_5 => by exfalso; exact absurd c30_5 (by decide))
  refine lv_iconst (v := 1) hx hb dL_law_1317 (by decide) ?_
  refine va_forget (fun q h => by have h8 := hS.2.2 q h; rw [← hAe] at h8; exact h8) ?_
  refine W.widen (k := 600002) (n := 7302232) (Nat.le_of_ble_eq_true rfl) (Nat.le_of_ble_eq_true rfl) ?_
  exact lw_ret hx hb hr hlocks dL_law_1318
set_option maxHeartbeats 4000000 in
set_option maxRecDepth 100000 in
theorem law_3W {p : Program} {e : Env} {s : State} {m : MethodId} {below : List Frame} {meth : Method} {c : Code} (l : Launch) {b0 : Nat} {xs : Nat → Int32} (C0 : lw_At p s m meth c b0 6 xs) (dC : Nat → ClassId) (dI : Nat → Nat → Nat) (g : Gv) (x0 : Nat) (b : Nat → Nat) (f4 : Nat → Nat) (c4 : ClassId) (f5 : Nat → Nat) (f7 : Nat → Nat) (f6 : Nat → Nat) (f2 : Nat → Nat) (cK : ClassId) (kf : Nat → Option Nat) (cZ : ClassId) (fT : Nat → Nat) (fU : Nat → Nat) (sa : Nat → Nat) (sf : Nat → Nat → Nat) (sc : Nat → Nat → ClassId) (spf : Nat → Nat → Int32) (sdf : Nat → Nat → Int32) (slf : Nat → Nat → Int32) (srf : Nat → Nat → Int32) (sga : Nat → Nat → Option Nat) (sgb : Nat → Nat → Option Nat) (rows : va_W) (m0 : Nat) (a : Nat → Nat) (ca : Nat → ClassId) (o0 : Nat) (d : Nat) (hq1 : xs 1 = (nI d)) (hd : d < 219145) (hw : ¬ (0 ≤ (xs 2).toInt ∧ (xs 2).toInt ≤ 3)) {H : Heap} {locs : List Loc} {ls : Array Slot} (hK : va_K (dC, dI) vwCl [] s) (hP : va_P (dC, dI) vwCl [(x0, .inr (7, [.ref (b 0), .ref (b 1), .ref (b 2), .ref (b 3), .ref (b 4), .ref (b 5), .ref (b 6), .ref (b 7), .ref (b 8), .ref (b 9), .int 1])), (m0, .inr (8, [.int 0, .int 0, .int 0, .int 0, .ref (a 4), .int 0, .int 0, .int 0, .int 0, .int 0, .int 0, .long 0, .int 0, .int 0, .int 0, .int 0, .int 0, .int 0, .ref (a 18), .ref (a 19), .ref (a 20), .ref (a 21), .ref (a 22), .ref (a 23), .ref (a 24), .ref (a 25), .ref (a 26), .ref (a 27), .ref (a 28), .ref (a 29), .ref (a 30), .ref (a 31), .ref (a 32), .ref (a 33), .ref (a 34), .ref (a 35), .long 0, .int 0, .ref (a 38), .ref (a 39), .int 0, .ref (a 41), .ref (a 42), .ref (a 43)]))] H) (hD : va_D (fun q : Nat => s.heap.size ≤ q) [(x0, .inr (7, [.ref (b 0), .ref (b 1), .ref (b 2), .ref (b 3), .ref (b 4), .ref (b 5), .ref (b 6), .ref (b 7), .ref (b 8), .ref (b 9), .int 1])), (m0, .inr (8, [.int 0, .int 0, .int 0, .int 0, .ref (a 4), .int 0, .int 0, .int 0, .int 0, .int 0, .int 0, .long 0, .int 0, .int 0, .int 0, .int 0, .int 0, .int 0, .ref (a 18), .ref (a 19), .ref (a 20), .ref (a 21), .ref (a 22), .ref (a 23), .ref (a 24), .ref (a 25), .ref (a 26), .ref (a 27), .ref (a 28), .ref (a 29), .ref (a 30), .ref (a 31), .ref (a 32), .ref (a 33), .ref (a 34), .ref (a 35), .long 0, .int 0, .ref (a 38), .ref (a 39), .int 0, .ref (a 41), .ref (a 42), .ref (a 43)]))]) (hS : va_S (fun q : Nat => s.heap.size ≤ q) s.heap H locs) (hE : Ev g (fun q : Nat => s.heap.size ≤ q) s) (hl : lv_has ls 7 [(4, .int 0), (3, .ref o0), (2, .ref m0), (1, .ref x0), (0, .ref b0)]) : W p l e room_1 s m #[Value.ref b0] below meth c H locs 243 7586 (lw_Z below #[Value.ref b0] s) (F0 m 315 ls []) := by
  obtain ⟨hx, hb, hr, hml, hown, hts0, hX, hbl, hlocks, hgv⟩ := id C0
  have hts := fun (w : Cond) (h : w ∈ TBL) => hts0 w (TBin w h)
  have hown : s.vm.findClass RL = some m.cls := hown
  have hN := hE.1
  have hA : ∀ q : Nat, s.heap.size ≤ q → (fun q : Nat => s.heap.size ≤ q) q := fun _ h => h
  have hbA : ¬ (fun q : Nat => s.heap.size ≤ q) b0 := Nat.not_le.mpr hbl
  generalize hAe : (fun q : Nat => s.heap.size ≤ q) = A at hD hS hE hA hbA
  refine lv_aload_n hx hb dL_law_315 rfl (lv_at hl 3 rfl) ?_
  refine lv_aload_n hx hb dL_law_316 rfl (lv_at hl 4 rfl) ?_
  refine lv_iload hx hb dL_law_317 (lv_at hl 0 rfl) ?_
  refine lv_iconst (v := 1) hx hb dL_law_319 (by decide) ?_
  refine lv_iadd hx hb dL_law_320 ?_
  refine cst (v := 1) (by decide) ?_
  refine va_sld hx hb hX hbl hbA hS (vin0 (by decide)) dL_law_321 ?_
  refine cst (v := (nI d)) ((congrArg xs (show (1 : Int32).toNatClampNeg = 1 by decide)).trans hq1) ?_
  refine lv_aload_n hx hb dL_law_322 rfl (lv_at hl 4 rfl) ?_
  refine lv_iload hx hb dL_law_323 (lv_at hl 0 rfl) ?_
  refine lv_iconst (v := 2) hx hb dL_law_325 (by decide) ?_
  refine lv_iadd hx hb dL_law_326 ?_
  refine cst (v := 2) (by decide) ?_
  refine va_sld hx hb hX hbl hbA hS (vin0 (by decide)) dL_law_327 ?_
  refine cst (v := (xs 2)) (congrArg xs (show (2 : Int32).toNatClampNeg = 2 by decide)) ?_
  have hPc := hP.sub (ws' := []) [] rfl
  have hKc := hK.sub (tys' := []) [] rfl
  refine vp_callSi ((va_runV (As := [.int (nI d), .int (xs 2)]) (rest := []) ⟨hx, hb, hml, hown, hts⟩ (c_8date_W l dC dI g (x0) (d) ((xs 2)) hd hw) (cwV 2 hts (gwV qw_422 qw_423 qw_424 qw_69 qw_421) rfl rfl rfl (by decide +kernel) ⟨Nat.le_of_ble_eq_true rfl, Nat.le_of_ble_eq_true rfl⟩) ⟨fun a U g9 mk q => ⟨q.1, q.2.1, va_K.moved (u := U) (U := U.calling g9 mk a) (Vm.Alike.refl U.vm) q.2.2.1, Ev.bl q.2.2.2⟩, va_recv hK hP (ci := 7) (q0 := 0) rfl rfl, fun U hU hW => ⟨rfl, by rw [hU]; exact hPc, va_K.moved hW.alike hKc, hE.go hS (fun _ h => h.elim) hU hW⟩⟩ rfl rfl hl.1 rfl (lv_room (Nat.le_of_ble_eq_true rfl)) dL_law_328 ⟨Nat.le_of_ble_eq_true rfl, Nat.le_of_ble_eq_true rfl⟩)).run (fun r1 h_r1 => ?_)
  have h_r1 : r1 = (-1) := h_r1
  subst h_r1
  refine lv_aload_n hx hb dL_law_331 rfl (lv_at hl 2 rfl) ?_
  refine lv_aload_n hx hb dL_law_332 rfl (lv_at hl 4 rfl) ?_
  refine lv_iload hx hb dL_law_333 (lv_at hl 0 rfl) ?_
  refine lv_iconst (v := 1) hx hb dL_law_335 (by decide) ?_
  refine lv_iadd hx hb dL_law_336 ?_
  refine cst (v := 1) (by decide) ?_
  refine va_sld hx hb hX hbl hbA hS (vin0 (by decide)) dL_law_337 ?_
  refine cst (v := (nI d)) ((congrArg xs (show (1 : Int32).toNatClampNeg = 1 by decide)).trans hq1) ?_
  refine lv_aload_n hx hb dL_law_338 rfl (lv_at hl 4 rfl) ?_
  refine lv_iload hx hb dL_law_339 (lv_at hl 0 rfl) ?_
  refine lv_iconst (v := 2) hx hb dL_law_341 (by decide) ?_
  refine lv_iadd hx hb dL_law_342 ?_
  refine cst (v := 2) (by decide) ?_
  refine va_sld hx hb hX hbl hbA hS (vin0 (by decide)) dL_law_343 ?_
  refine cst (v := (xs 2)) (congrArg xs (show (2 : Int32).toNatClampNeg = 2 by decide)) ?_
  have hPc := hP.sub (ws' := [(m0, .inr (8, [.int 0, .int 0, .int 0, .int 0, .ref (a 4), .int 0, .int 0, .int 0, .int 0, .int 0, .int 0, .long 0, .int 0, .int 0, .int 0, .int 0, .int 0, .int 0, .ref (a 18), .ref (a 19), .ref (a 20), .ref (a 21), .ref (a 22), .ref (a 23), .ref (a 24), .ref (a 25), .ref (a 26), .ref (a 27), .ref (a 28), .ref (a 29), .ref (a 30), .ref (a 31), .ref (a 32), .ref (a 33), .ref (a 34), .ref (a 35), .long 0, .int 0, .ref (a 38), .ref (a 39), .int 0, .ref (a 41), .ref (a 42), .ref (a 43)]))]) [1] rfl
  have hKc := hK.sub (tys' := []) [] rfl
  have hDc := hD.sub (ws' := [(m0, .inr (8, [.int 0, .int 0, .int 0, .int 0, .ref (a 4), .int 0, .int 0, .int 0, .int 0, .int 0, .int 0, .long 0, .int 0, .int 0, .int 0, .int 0, .int 0, .int 0, .ref (a 18), .ref (a 19), .ref (a 20), .ref (a 21), .ref (a 22), .ref (a 23), .ref (a 24), .ref (a 25), .ref (a 26), .ref (a 27), .ref (a 28), .ref (a 29), .ref (a 30), .ref (a 31), .ref (a 32), .ref (a 33), .ref (a 34), .ref (a 35), .long 0, .int 0, .ref (a 38), .ref (a 39), .int 0, .ref (a 41), .ref (a 42), .ref (a 43)]))]) [1] (by decide) rfl
  have hFc := va_free (wc := [(m0, .inr (8, [.int 0, .int 0, .int 0, .int 0, .ref (a 4), .int 0, .int 0, .int 0, .int 0, .int 0, .int 0, .long 0, .int 0, .int 0, .int 0, .int 0, .int 0, .int 0, .ref (a 18), .ref (a 19), .ref (a 20), .ref (a 21), .ref (a 22), .ref (a 23), .ref (a 24), .ref (a 25), .ref (a 26), .ref (a 27), .ref (a 28), .ref (a 29), .ref (a 30), .ref (a 31), .ref (a 32), .ref (a 33), .ref (a 34), .ref (a 35), .long 0, .int 0, .ref (a 38), .ref (a 39), .int 0, .ref (a 41), .ref (a 42), .ref (a 43)]))]) hD hS hA [1] rfl
  refine va_calli (va_runV (As := [.int (nI d), .int (xs 2)]) (rest := [.int (-1)]) ⟨hx, hb, hml, hown, hts⟩ (c_9date_W l dC dI g H.size (m0) (a) (d) ((xs 2)) hd hw) (cwV 2 hts (gwV qw_426 qw_427 qw_428 qw_23 qw_425) rfl rfl rfl (by decide +kernel) ⟨Nat.le_of_ble_eq_true rfl, Nat.le_of_ble_eq_true rfl⟩) ⟨fun a U g9 mk q => ⟨q.1, q.2.1, q.2.2.1, va_K.moved (u := U) (U := U.calling g9 mk a) (Vm.Alike.refl U.vm) q.2.2.2.1, q.2.2.2.2.1, Ev.bl q.2.2.2.2.2⟩, va_recv hK hP (ci := 8) (q0 := 1) rfl rfl, fun U hU hW => ⟨rfl, by rw [hU], by rw [hU]; exact hPc, va_K.moved hW.alike hKc, hDc.weaken (fun _ _ _ _ => trivial), hE.go hS hFc hU hW⟩⟩ rfl rfl hl.1 rfl (lv_room (Nat.le_of_ble_eq_true rfl)) dL_law_344 ⟨Nat.le_of_ble_eq_true rfl, Nat.le_of_ble_eq_true rfl⟩) hS (fun q _ h => hFc q h) hFc (fun r3 u2 t H1 locs ht hvm h_u2 hB hz1 hk1 hS => ?_)
  obtain ⟨hP, hD⟩ := va_join (wr := [(x0, .inr (7, [.ref (b 0), .ref (b 1), .ref (b 2), .ref (b 3), .ref (b 4), .ref (b 5), .ref (b 6), .ref (b 7), .ref (b 8), .ref (b 9), .int 1]))]) (w1 := []) hP hD [1] [0] rfl rfl (by decide) (by decide) hk1 hFc va_P0 va_D0
  generalize H1 = H at hP hS ⊢
  have hP : va_P (dC, dI) vwCl [(x0, .inr (7, [.ref (b 0), .ref (b 1), .ref (b 2), .ref (b 3), .ref (b 4), .ref (b 5), .ref (b 6), .ref (b 7), .ref (b 8), .ref (b 9), .int 1]))] H := hP
  have hD : va_D A [(x0, .inr (7, [.ref (b 0), .ref (b 1), .ref (b 2), .ref (b 3), .ref (b 4), .ref (b 5), .ref (b 6), .ref (b 7), .ref (b 8), .ref (b 9), .int 1]))] := hD
  refine W.widen (k := 243) (n := 7586) (Nat.le_of_ble_eq_true rfl) (Nat.le_of_ble_eq_true rfl) ?_
  have h_u2 : r3 = (-1) := h_u2
  subst h_u2
  refine lv_icmp_eq (tgt := 1311) hx hb dL_law_347 (by decide) (fun c347_4 => ?_) (fun c347_4 => by exfalso; exact absurd c347_4 (by decide))
  refine lv_iinc (v := 6) (lv' := [(4, .int 6), (3, .ref o0), (2, .ref m0), (1, .ref x0), (0, .ref b0)]) hx hb dL_law_1311 hl (k := 0) rfl (by decide) (by decide) rfl (fun ls hl => ?_)
  refine lv_goto (tgt := 23) hx hb dL_law_1314 (by decide) ?_
  refine lv_iload hx hb dL_law_23 (lv_at hl 0 rfl) ?_
  refine lv_aload_n hx hb dL_law_25 rfl (lv_at hl 4 rfl) ?_
  refine va_slen hx hb hX hbl hbA hS dL_law_26 ?_
  refine cst (v := 6) (by decide) ?_
  refine lv_bipush (v := 6) hx hb dL_law_27 (by decide) ?_
  refine lv_isub hx hb dL_law_29 ?_
  refine cst (v := 0) (by decide) ?_
  refine lv_icmp_gt (tgt := 1317) hx hb dL_law_30 (by decide) (fun c30_5 => ?_) (fun c30_5 => by exfalso; exact absurd c30_5 (by decide))
  refine lv_iconst (v := 1) hx hb dL_law_1317 (by decide) ?_
  refine va_forget (fun q h => by have h8 := hS.2.2 q h; rw [← hAe] at h8; exact h8) ?_
  refine W.widen (k := 600002) (n := 7302232) (Nat.le_of_ble_eq_true rfl) (Nat.le_of_ble_eq_true rfl) ?_
  exact lw_ret hx hb hr hlocks dL_law_1318
set_option maxHeartbeats 4000000 in
set_option maxRecDepth 100000 in
theorem law_30 {p : Program} {e : Env} {s : State} {m : MethodId} {below : List Frame} {meth : Method} {c : Code} (l : Launch) {b0 : Nat} {xs : Nat → Int32} (C0 : lw_At p s m meth c b0 6 xs) (dC : Nat → ClassId) (dI : Nat → Nat → Nat) (g : Gv) (x0 : Nat) (b : Nat → Nat) (f4 : Nat → Nat) (c4 : ClassId) (f5 : Nat → Nat) (f7 : Nat → Nat) (f6 : Nat → Nat) (f2 : Nat → Nat) (cK : ClassId) (kf : Nat → Option Nat) (cZ : ClassId) (fT : Nat → Nat) (fU : Nat → Nat) (sa : Nat → Nat) (sf : Nat → Nat → Nat) (sc : Nat → Nat → ClassId) (spf : Nat → Nat → Int32) (sdf : Nat → Nat → Int32) (slf : Nat → Nat → Int32) (srf : Nat → Nat → Int32) (sga : Nat → Nat → Option Nat) (sgb : Nat → Nat → Option Nat) (rows : va_W) (m0 : Nat) (a : Nat → Nat) (ca : Nat → ClassId) (o0 : Nat) (d : Nat) (k : Nat) (mo : Nat) (dd : Nat) (hq1 : xs 1 = (nI d)) (hq2 : xs 2 = 0) (hk : k < 600) (hm1 : 1 ≤ mo) (hm2 : mo ≤ 12) (hd1 : 1 ≤ dd) (hd2 : dd ≤ mlN (1700 + k) mo) (hd : d = Fk k + Mk (1700 + k) mo + (dd - 1)) {H : Heap} {locs : List Loc} {ls : Array Slot} (hK : va_K (dC, dI) vwCl [] s) (hP : va_P (dC, dI) vwCl [(x0, .inr (7, [.ref (b 0), .ref (b 1), .ref (b 2), .ref (b 3), .ref (b 4), .ref (b 5), .ref (b 6), .ref (b 7), .ref (b 8), .ref (b 9), .int 1])), (m0, .inr (8, [.int 0, .int 0, .int 0, .int 0, .ref (a 4), .int 0, .int 0, .int 0, .int 0, .int 0, .int 0, .long 0, .int 0, .int 0, .int 0, .int 0, .int 0, .int 0, .ref (a 18), .ref (a 19), .ref (a 20), .ref (a 21), .ref (a 22), .ref (a 23), .ref (a 24), .ref (a 25), .ref (a 26), .ref (a 27), .ref (a 28), .ref (a 29), .ref (a 30), .ref (a 31), .ref (a 32), .ref (a 33), .ref (a 34), .ref (a 35), .long 0, .int 0, .ref (a 38), .ref (a 39), .int 0, .ref (a 41), .ref (a 42), .ref (a 43)]))] H) (hD : va_D (fun q : Nat => s.heap.size ≤ q) [(x0, .inr (7, [.ref (b 0), .ref (b 1), .ref (b 2), .ref (b 3), .ref (b 4), .ref (b 5), .ref (b 6), .ref (b 7), .ref (b 8), .ref (b 9), .int 1])), (m0, .inr (8, [.int 0, .int 0, .int 0, .int 0, .ref (a 4), .int 0, .int 0, .int 0, .int 0, .int 0, .int 0, .long 0, .int 0, .int 0, .int 0, .int 0, .int 0, .int 0, .ref (a 18), .ref (a 19), .ref (a 20), .ref (a 21), .ref (a 22), .ref (a 23), .ref (a 24), .ref (a 25), .ref (a 26), .ref (a 27), .ref (a 28), .ref (a 29), .ref (a 30), .ref (a 31), .ref (a 32), .ref (a 33), .ref (a 34), .ref (a 35), .long 0, .int 0, .ref (a 38), .ref (a 39), .int 0, .ref (a 41), .ref (a 42), .ref (a 43)]))]) (hS : va_S (fun q : Nat => s.heap.size ≤ q) s.heap H locs) (hE : Ev g (fun q : Nat => s.heap.size ≤ q) s) (hl : lv_has ls 7 [(4, .int 0), (3, .ref o0), (2, .ref m0), (1, .ref x0), (0, .ref b0)]) : W p l e room_1 s m #[Value.ref b0] below meth c H locs 243 7586 (lw_Z below #[Value.ref b0] s) (F0 m 315 ls []) := by
  obtain ⟨hx, hb, hr, hml, hown, hts0, hX, hbl, hlocks, hgv⟩ := id C0
  have hts := fun (w : Cond) (h : w ∈ TBL) => hts0 w (TBin w h)
  have hown : s.vm.findClass RL = some m.cls := hown
  have hN := hE.1
  have hA : ∀ q : Nat, s.heap.size ≤ q → (fun q : Nat => s.heap.size ≤ q) q := fun _ h => h
  have hbA : ¬ (fun q : Nat => s.heap.size ≤ q) b0 := Nat.not_le.mpr hbl
  generalize hAe : (fun q : Nat => s.heap.size ≤ q) = A at hD hS hE hA hbA
  refine lv_aload_n hx hb dL_law_315 rfl (lv_at hl 3 rfl) ?_
  refine lv_aload_n hx hb dL_law_316 rfl (lv_at hl 4 rfl) ?_
  refine lv_iload hx hb dL_law_317 (lv_at hl 0 rfl) ?_
  refine lv_iconst (v := 1) hx hb dL_law_319 (by decide) ?_
  refine lv_iadd hx hb dL_law_320 ?_
  refine cst (v := 1) (by decide) ?_
  refine va_sld hx hb hX hbl hbA hS (vin0 (by decide)) dL_law_321 ?_
  refine cst (v := (nI d)) ((congrArg xs (show (1 : Int32).toNatClampNeg = 1 by decide)).trans hq1) ?_
  refine lv_aload_n hx hb dL_law_322 rfl (lv_at hl 4 rfl) ?_
  refine lv_iload hx hb dL_law_323 (lv_at hl 0 rfl) ?_
  refine lv_iconst (v := 2) hx hb dL_law_325 (by decide) ?_
  refine lv_iadd hx hb dL_law_326 ?_
  refine cst (v := 2) (by decide) ?_
  refine va_sld hx hb hX hbl hbA hS (vin0 (by decide)) dL_law_327 ?_
  refine cst (v := 0) ((congrArg xs (show (2 : Int32).toNatClampNeg = 2 by decide)).trans hq2) ?_
  have hPc := hP.sub (ws' := []) [] rfl
  have hKc := hK.sub (tys' := []) [] rfl
  refine vp_callSi ((va_runV (As := [.int (nI d), .int 0]) (rest := []) ⟨hx, hb, hml, hown, hts⟩ (c_8date_0 l dC dI g (x0) (d) (k) (mo) (dd) hk hm1 hm2 hd1 hd2 hd) (cwV 2 hts (gwV qw_422 qw_423 qw_424 qw_69 qw_421) rfl rfl rfl (by decide +kernel) ⟨Nat.le_of_ble_eq_true rfl, Nat.le_of_ble_eq_true rfl⟩) ⟨fun a U g9 mk q => ⟨q.1, q.2.1, va_K.moved (u := U) (U := U.calling g9 mk a) (Vm.Alike.refl U.vm) q.2.2.1, Ev.bl q.2.2.2⟩, va_recv hK hP (ci := 7) (q0 := 0) rfl rfl, fun U hU hW => ⟨rfl, by rw [hU]; exact hPc, va_K.moved hW.alike hKc, hE.go hS (fun _ h => h.elim) hU hW⟩⟩ rfl rfl hl.1 rfl (lv_room (Nat.le_of_ble_eq_true rfl)) dL_law_328 ⟨Nat.le_of_ble_eq_true rfl, Nat.le_of_ble_eq_true rfl⟩)).run (fun r1 h_r1 => ?_)
  have h_r1 : r1 = nI (1700 + k) := h_r1
  subst h_r1
  refine lv_aload_n hx hb dL_law_331 rfl (lv_at hl 2 rfl) ?_
  refine lv_aload_n hx hb dL_law_332 rfl (lv_at hl 4 rfl) ?_
  refine lv_iload hx hb dL_law_333 (lv_at hl 0 rfl) ?_
  refine lv_iconst (v := 1) hx hb dL_law_335 (by decide) ?_
  refine lv_iadd hx hb dL_law_336 ?_
  refine cst (v := 1) (by decide) ?_
  refine va_sld hx hb hX hbl hbA hS (vin0 (by decide)) dL_law_337 ?_
  refine cst (v := (nI d)) ((congrArg xs (show (1 : Int32).toNatClampNeg = 1 by decide)).trans hq1) ?_
  refine lv_aload_n hx hb dL_law_338 rfl (lv_at hl 4 rfl) ?_
  refine lv_iload hx hb dL_law_339 (lv_at hl 0 rfl) ?_
  refine lv_iconst (v := 2) hx hb dL_law_341 (by decide) ?_
  refine lv_iadd hx hb dL_law_342 ?_
  refine cst (v := 2) (by decide) ?_
  refine va_sld hx hb hX hbl hbA hS (vin0 (by decide)) dL_law_343 ?_
  refine cst (v := 0) ((congrArg xs (show (2 : Int32).toNatClampNeg = 2 by decide)).trans hq2) ?_
  have hPc := hP.sub (ws' := [(m0, .inr (8, [.int 0, .int 0, .int 0, .int 0, .ref (a 4), .int 0, .int 0, .int 0, .int 0, .int 0, .int 0, .long 0, .int 0, .int 0, .int 0, .int 0, .int 0, .int 0, .ref (a 18), .ref (a 19), .ref (a 20), .ref (a 21), .ref (a 22), .ref (a 23), .ref (a 24), .ref (a 25), .ref (a 26), .ref (a 27), .ref (a 28), .ref (a 29), .ref (a 30), .ref (a 31), .ref (a 32), .ref (a 33), .ref (a 34), .ref (a 35), .long 0, .int 0, .ref (a 38), .ref (a 39), .int 0, .ref (a 41), .ref (a 42), .ref (a 43)]))]) [1] rfl
  have hKc := hK.sub (tys' := []) [] rfl
  have hDc := hD.sub (ws' := [(m0, .inr (8, [.int 0, .int 0, .int 0, .int 0, .ref (a 4), .int 0, .int 0, .int 0, .int 0, .int 0, .int 0, .long 0, .int 0, .int 0, .int 0, .int 0, .int 0, .int 0, .ref (a 18), .ref (a 19), .ref (a 20), .ref (a 21), .ref (a 22), .ref (a 23), .ref (a 24), .ref (a 25), .ref (a 26), .ref (a 27), .ref (a 28), .ref (a 29), .ref (a 30), .ref (a 31), .ref (a 32), .ref (a 33), .ref (a 34), .ref (a 35), .long 0, .int 0, .ref (a 38), .ref (a 39), .int 0, .ref (a 41), .ref (a 42), .ref (a 43)]))]) [1] (by decide) rfl
  have hFc := va_free (wc := [(m0, .inr (8, [.int 0, .int 0, .int 0, .int 0, .ref (a 4), .int 0, .int 0, .int 0, .int 0, .int 0, .int 0, .long 0, .int 0, .int 0, .int 0, .int 0, .int 0, .int 0, .ref (a 18), .ref (a 19), .ref (a 20), .ref (a 21), .ref (a 22), .ref (a 23), .ref (a 24), .ref (a 25), .ref (a 26), .ref (a 27), .ref (a 28), .ref (a 29), .ref (a 30), .ref (a 31), .ref (a 32), .ref (a 33), .ref (a 34), .ref (a 35), .long 0, .int 0, .ref (a 38), .ref (a 39), .int 0, .ref (a 41), .ref (a 42), .ref (a 43)]))]) hD hS hA [1] rfl
  refine va_calli (va_runV (As := [.int (nI d), .int 0]) (rest := [.int (nI (1700 + k))]) ⟨hx, hb, hml, hown, hts⟩ (c_9date_0 l dC dI g H.size (m0) (a) (d) (k) (mo) (dd) hk hm1 hm2 hd1 hd2 hd) (cwV 2 hts (gwV qw_426 qw_427 qw_428 qw_23 qw_425) rfl rfl rfl (by decide +kernel) ⟨Nat.le_of_ble_eq_true rfl, Nat.le_of_ble_eq_true rfl⟩) ⟨fun a U g9 mk q => ⟨q.1, q.2.1, q.2.2.1, va_K.moved (u := U) (U := U.calling g9 mk a) (Vm.Alike.refl U.vm) q.2.2.2.1, q.2.2.2.2.1, Ev.bl q.2.2.2.2.2⟩, va_recv hK hP (ci := 8) (q0 := 1) rfl rfl, fun U hU hW => ⟨rfl, by rw [hU], by rw [hU]; exact hPc, va_K.moved hW.alike hKc, hDc.weaken (fun _ _ _ _ => trivial), hE.go hS hFc hU hW⟩⟩ rfl rfl hl.1 rfl (lv_room (Nat.le_of_ble_eq_true rfl)) dL_law_344 ⟨Nat.le_of_ble_eq_true rfl, Nat.le_of_ble_eq_true rfl⟩) hS (fun q _ h => hFc q h) hFc (fun r3 u2 t H1 locs ht hvm h_u2 hB hz1 hk1 hS => ?_)
  obtain ⟨hP, hD⟩ := va_join (wr := [(x0, .inr (7, [.ref (b 0), .ref (b 1), .ref (b 2), .ref (b 3), .ref (b 4), .ref (b 5), .ref (b 6), .ref (b 7), .ref (b 8), .ref (b 9), .int 1]))]) (w1 := []) hP hD [1] [0] rfl rfl (by decide) (by decide) hk1 hFc va_P0 va_D0
  generalize H1 = H at hP hS ⊢
  have hP : va_P (dC, dI) vwCl [(x0, .inr (7, [.ref (b 0), .ref (b 1), .ref (b 2), .ref (b 3), .ref (b 4), .ref (b 5), .ref (b 6), .ref (b 7), .ref (b 8), .ref (b 9), .int 1]))] H := hP
  have hD : va_D A [(x0, .inr (7, [.ref (b 0), .ref (b 1), .ref (b 2), .ref (b 3), .ref (b 4), .ref (b 5), .ref (b 6), .ref (b 7), .ref (b 8), .ref (b 9), .int 1]))] := hD
  refine W.widen (k := 243) (n := 7586) (Nat.le_of_ble_eq_true rfl) (Nat.le_of_ble_eq_true rfl) ?_
  have h_u2 : r3 = nI (1700 + k) := h_u2
  subst h_u2
  refine lv_icmp_eq (tgt := 1311) hx hb dL_law_347 (by decide) (fun _ => ?_) (fun h9 => absurd rfl h9)
  refine lv_iinc (v := 6) (lv' := [(4, .int 6), (3, .ref o0), (2, .ref m0), (1, .ref x0), (0, .ref b0)]) hx hb dL_law_1311 hl (k := 0) rfl (by decide) (by decide) rfl (fun ls hl => ?_)
  refine lv_goto (tgt := 23) hx hb dL_law_1314 (by decide) ?_
  refine lv_iload hx hb dL_law_23 (lv_at hl 0 rfl) ?_
  refine lv_aload_n hx hb dL_law_25 rfl (lv_at hl 4 rfl) ?_
  refine va_slen hx hb hX hbl hbA hS dL_law_26 ?_
  refine cst (v := 6) (by decide) ?_
  refine lv_bipush (v := 6) hx hb dL_law_27 (by decide) ?_
  refine lv_isub hx hb dL_law_29 ?_
  refine cst (v := 0) (by decide) ?_
  refine lv_icmp_gt (tgt := 1317) hx hb dL_law_30 (by decide) (fun c30_4 => ?_) (fun c30_4 => by exfalso; exact absurd c30_4 (by decide))
  refine lv_iconst (v := 1) hx hb dL_law_1317 (by decide) ?_
  refine va_forget (fun q h => by have h8 := hS.2.2 q h; rw [← hAe] at h8; exact h8) ?_
  refine W.widen (k := 600002) (n := 7302232) (Nat.le_of_ble_eq_true rfl) (Nat.le_of_ble_eq_true rfl) ?_
  exact lw_ret hx hb hr hlocks dL_law_1318
set_option maxHeartbeats 4000000 in
set_option maxRecDepth 100000 in
theorem law_31 {p : Program} {e : Env} {s : State} {m : MethodId} {below : List Frame} {meth : Method} {c : Code} (l : Launch) {b0 : Nat} {xs : Nat → Int32} (C0 : lw_At p s m meth c b0 6 xs) (dC : Nat → ClassId) (dI : Nat → Nat → Nat) (g : Gv) (x0 : Nat) (b : Nat → Nat) (f4 : Nat → Nat) (c4 : ClassId) (f5 : Nat → Nat) (f7 : Nat → Nat) (f6 : Nat → Nat) (f2 : Nat → Nat) (cK : ClassId) (kf : Nat → Option Nat) (cZ : ClassId) (fT : Nat → Nat) (fU : Nat → Nat) (sa : Nat → Nat) (sf : Nat → Nat → Nat) (sc : Nat → Nat → ClassId) (spf : Nat → Nat → Int32) (sdf : Nat → Nat → Int32) (slf : Nat → Nat → Int32) (srf : Nat → Nat → Int32) (sga : Nat → Nat → Option Nat) (sgb : Nat → Nat → Option Nat) (rows : va_W) (m0 : Nat) (a : Nat → Nat) (ca : Nat → ClassId) (o0 : Nat) (d : Nat) (k : Nat) (mo : Nat) (dd : Nat) (hq1 : xs 1 = (nI d)) (hq2 : xs 2 = 1) (hk : k < 600) (hm1 : 1 ≤ mo) (hm2 : mo ≤ 12) (hd1 : 1 ≤ dd) (hd2 : dd ≤ mlN (1700 + k) mo) (hd : d = Fk k + Mk (1700 + k) mo + (dd - 1)) {H : Heap} {locs : List Loc} {ls : Array Slot} (hK : va_K (dC, dI) vwCl [] s) (hP : va_P (dC, dI) vwCl [(x0, .inr (7, [.ref (b 0), .ref (b 1), .ref (b 2), .ref (b 3), .ref (b 4), .ref (b 5), .ref (b 6), .ref (b 7), .ref (b 8), .ref (b 9), .int 1])), (m0, .inr (8, [.int 0, .int 0, .int 0, .int 0, .ref (a 4), .int 0, .int 0, .int 0, .int 0, .int 0, .int 0, .long 0, .int 0, .int 0, .int 0, .int 0, .int 0, .int 0, .ref (a 18), .ref (a 19), .ref (a 20), .ref (a 21), .ref (a 22), .ref (a 23), .ref (a 24), .ref (a 25), .ref (a 26), .ref (a 27), .ref (a 28), .ref (a 29), .ref (a 30), .ref (a 31), .ref (a 32), .ref (a 33), .ref (a 34), .ref (a 35), .long 0, .int 0, .ref (a 38), .ref (a 39), .int 0, .ref (a 41), .ref (a 42), .ref (a 43)]))] H) (hD : va_D (fun q : Nat => s.heap.size ≤ q) [(x0, .inr (7, [.ref (b 0), .ref (b 1), .ref (b 2), .ref (b 3), .ref (b 4), .ref (b 5), .ref (b 6), .ref (b 7), .ref (b 8), .ref (b 9), .int 1])), (m0, .inr (8, [.int 0, .int 0, .int 0, .int 0, .ref (a 4), .int 0, .int 0, .int 0, .int 0, .int 0, .int 0, .long 0, .int 0, .int 0, .int 0, .int 0, .int 0, .int 0, .ref (a 18), .ref (a 19), .ref (a 20), .ref (a 21), .ref (a 22), .ref (a 23), .ref (a 24), .ref (a 25), .ref (a 26), .ref (a 27), .ref (a 28), .ref (a 29), .ref (a 30), .ref (a 31), .ref (a 32), .ref (a 33), .ref (a 34), .ref (a 35), .long 0, .int 0, .ref (a 38), .ref (a 39), .int 0, .ref (a 41), .ref (a 42), .ref (a 43)]))]) (hS : va_S (fun q : Nat => s.heap.size ≤ q) s.heap H locs) (hE : Ev g (fun q : Nat => s.heap.size ≤ q) s) (hl : lv_has ls 7 [(4, .int 0), (3, .ref o0), (2, .ref m0), (1, .ref x0), (0, .ref b0)]) : W p l e room_1 s m #[Value.ref b0] below meth c H locs 243 7586 (lw_Z below #[Value.ref b0] s) (F0 m 315 ls []) := by
  obtain ⟨hx, hb, hr, hml, hown, hts0, hX, hbl, hlocks, hgv⟩ := id C0
  have hts := fun (w : Cond) (h : w ∈ TBL) => hts0 w (TBin w h)
  have hown : s.vm.findClass RL = some m.cls := hown
  have hN := hE.1
  have hA : ∀ q : Nat, s.heap.size ≤ q → (fun q : Nat => s.heap.size ≤ q) q := fun _ h => h
  have hbA : ¬ (fun q : Nat => s.heap.size ≤ q) b0 := Nat.not_le.mpr hbl
  generalize hAe : (fun q : Nat => s.heap.size ≤ q) = A at hD hS hE hA hbA
  refine lv_aload_n hx hb dL_law_315 rfl (lv_at hl 3 rfl) ?_
  refine lv_aload_n hx hb dL_law_316 rfl (lv_at hl 4 rfl) ?_
  refine lv_iload hx hb dL_law_317 (lv_at hl 0 rfl) ?_
  refine lv_iconst (v := 1) hx hb dL_law_319 (by decide) ?_
  refine lv_iadd hx hb dL_law_320 ?_
  refine cst (v := 1) (by decide) ?_
  refine va_sld hx hb hX hbl hbA hS (vin0 (by decide)) dL_law_321 ?_
  refine cst (v := (nI d)) ((congrArg xs (show (1 : Int32).toNatClampNeg = 1 by decide)).trans hq1) ?_
  refine lv_aload_n hx hb dL_law_322 rfl (lv_at hl 4 rfl) ?_
  refine lv_iload hx hb dL_law_323 (lv_at hl 0 rfl) ?_
  refine lv_iconst (v := 2) hx hb dL_law_325 (by decide) ?_
  refine lv_iadd hx hb dL_law_326 ?_
  refine cst (v := 2) (by decide) ?_
  refine va_sld hx hb hX hbl hbA hS (vin0 (by decide)) dL_law_327 ?_
  refine cst (v := 1) ((congrArg xs (show (2 : Int32).toNatClampNeg = 2 by decide)).trans hq2) ?_
  have hPc := hP.sub (ws' := []) [] rfl
  have hKc := hK.sub (tys' := []) [] rfl
  refine vp_callSi ((va_runV (As := [.int (nI d), .int 1]) (rest := []) ⟨hx, hb, hml, hown, hts⟩ (c_8date_1 l dC dI g (x0) (d) (k) (mo) (dd) hk hm1 hm2 hd1 hd2 hd) (cwV 2 hts (gwV qw_422 qw_423 qw_424 qw_69 qw_421) rfl rfl rfl (by decide +kernel) ⟨Nat.le_of_ble_eq_true rfl, Nat.le_of_ble_eq_true rfl⟩) ⟨fun a U g9 mk q => ⟨q.1, q.2.1, va_K.moved (u := U) (U := U.calling g9 mk a) (Vm.Alike.refl U.vm) q.2.2.1, Ev.bl q.2.2.2⟩, va_recv hK hP (ci := 7) (q0 := 0) rfl rfl, fun U hU hW => ⟨rfl, by rw [hU]; exact hPc, va_K.moved hW.alike hKc, hE.go hS (fun _ h => h.elim) hU hW⟩⟩ rfl rfl hl.1 rfl (lv_room (Nat.le_of_ble_eq_true rfl)) dL_law_328 ⟨Nat.le_of_ble_eq_true rfl, Nat.le_of_ble_eq_true rfl⟩)).run (fun r1 h_r1 => ?_)
  have h_r1 : r1 = nI (mo) := h_r1
  subst h_r1
  refine lv_aload_n hx hb dL_law_331 rfl (lv_at hl 2 rfl) ?_
  refine lv_aload_n hx hb dL_law_332 rfl (lv_at hl 4 rfl) ?_
  refine lv_iload hx hb dL_law_333 (lv_at hl 0 rfl) ?_
  refine lv_iconst (v := 1) hx hb dL_law_335 (by decide) ?_
  refine lv_iadd hx hb dL_law_336 ?_
  refine cst (v := 1) (by decide) ?_
  refine va_sld hx hb hX hbl hbA hS (vin0 (by decide)) dL_law_337 ?_
  refine cst (v := (nI d)) ((congrArg xs (show (1 : Int32).toNatClampNeg = 1 by decide)).trans hq1) ?_
  refine lv_aload_n hx hb dL_law_338 rfl (lv_at hl 4 rfl) ?_
  refine lv_iload hx hb dL_law_339 (lv_at hl 0 rfl) ?_
  refine lv_iconst (v := 2) hx hb dL_law_341 (by decide) ?_
  refine lv_iadd hx hb dL_law_342 ?_
  refine cst (v := 2) (by decide) ?_
  refine va_sld hx hb hX hbl hbA hS (vin0 (by decide)) dL_law_343 ?_
  refine cst (v := 1) ((congrArg xs (show (2 : Int32).toNatClampNeg = 2 by decide)).trans hq2) ?_
  have hPc := hP.sub (ws' := [(m0, .inr (8, [.int 0, .int 0, .int 0, .int 0, .ref (a 4), .int 0, .int 0, .int 0, .int 0, .int 0, .int 0, .long 0, .int 0, .int 0, .int 0, .int 0, .int 0, .int 0, .ref (a 18), .ref (a 19), .ref (a 20), .ref (a 21), .ref (a 22), .ref (a 23), .ref (a 24), .ref (a 25), .ref (a 26), .ref (a 27), .ref (a 28), .ref (a 29), .ref (a 30), .ref (a 31), .ref (a 32), .ref (a 33), .ref (a 34), .ref (a 35), .long 0, .int 0, .ref (a 38), .ref (a 39), .int 0, .ref (a 41), .ref (a 42), .ref (a 43)]))]) [1] rfl
  have hKc := hK.sub (tys' := []) [] rfl
  have hDc := hD.sub (ws' := [(m0, .inr (8, [.int 0, .int 0, .int 0, .int 0, .ref (a 4), .int 0, .int 0, .int 0, .int 0, .int 0, .int 0, .long 0, .int 0, .int 0, .int 0, .int 0, .int 0, .int 0, .ref (a 18), .ref (a 19), .ref (a 20), .ref (a 21), .ref (a 22), .ref (a 23), .ref (a 24), .ref (a 25), .ref (a 26), .ref (a 27), .ref (a 28), .ref (a 29), .ref (a 30), .ref (a 31), .ref (a 32), .ref (a 33), .ref (a 34), .ref (a 35), .long 0, .int 0, .ref (a 38), .ref (a 39), .int 0, .ref (a 41), .ref (a 42), .ref (a 43)]))]) [1] (by decide) rfl
  have hFc := va_free (wc := [(m0, .inr (8, [.int 0, .int 0, .int 0, .int 0, .ref (a 4), .int 0, .int 0, .int 0, .int 0, .int 0, .int 0, .long 0, .int 0, .int 0, .int 0, .int 0, .int 0, .int 0, .ref (a 18), .ref (a 19), .ref (a 20), .ref (a 21), .ref (a 22), .ref (a 23), .ref (a 24), .ref (a 25), .ref (a 26), .ref (a 27), .ref (a 28), .ref (a 29), .ref (a 30), .ref (a 31), .ref (a 32), .ref (a 33), .ref (a 34), .ref (a 35), .long 0, .int 0, .ref (a 38), .ref (a 39), .int 0, .ref (a 41), .ref (a 42), .ref (a 43)]))]) hD hS hA [1] rfl
  refine va_calli (va_runV (As := [.int (nI d), .int 1]) (rest := [.int (nI mo)]) ⟨hx, hb, hml, hown, hts⟩ (c_9date_1 l dC dI g H.size (m0) (a) (d) (k) (mo) (dd) hk hm1 hm2 hd1 hd2 hd) (cwV 2 hts (gwV qw_426 qw_427 qw_428 qw_23 qw_425) rfl rfl rfl (by decide +kernel) ⟨Nat.le_of_ble_eq_true rfl, Nat.le_of_ble_eq_true rfl⟩) ⟨fun a U g9 mk q => ⟨q.1, q.2.1, q.2.2.1, va_K.moved (u := U) (U := U.calling g9 mk a) (Vm.Alike.refl U.vm) q.2.2.2.1, q.2.2.2.2.1, Ev.bl q.2.2.2.2.2⟩, va_recv hK hP (ci := 8) (q0 := 1) rfl rfl, fun U hU hW => ⟨rfl, by rw [hU], by rw [hU]; exact hPc, va_K.moved hW.alike hKc, hDc.weaken (fun _ _ _ _ => trivial), hE.go hS hFc hU hW⟩⟩ rfl rfl hl.1 rfl (lv_room (Nat.le_of_ble_eq_true rfl)) dL_law_344 ⟨Nat.le_of_ble_eq_true rfl, Nat.le_of_ble_eq_true rfl⟩) hS (fun q _ h => hFc q h) hFc (fun r3 u2 t H1 locs ht hvm h_u2 hB hz1 hk1 hS => ?_)
  obtain ⟨hP, hD⟩ := va_join (wr := [(x0, .inr (7, [.ref (b 0), .ref (b 1), .ref (b 2), .ref (b 3), .ref (b 4), .ref (b 5), .ref (b 6), .ref (b 7), .ref (b 8), .ref (b 9), .int 1]))]) (w1 := []) hP hD [1] [0] rfl rfl (by decide) (by decide) hk1 hFc va_P0 va_D0
  generalize H1 = H at hP hS ⊢
  have hP : va_P (dC, dI) vwCl [(x0, .inr (7, [.ref (b 0), .ref (b 1), .ref (b 2), .ref (b 3), .ref (b 4), .ref (b 5), .ref (b 6), .ref (b 7), .ref (b 8), .ref (b 9), .int 1]))] H := hP
  have hD : va_D A [(x0, .inr (7, [.ref (b 0), .ref (b 1), .ref (b 2), .ref (b 3), .ref (b 4), .ref (b 5), .ref (b 6), .ref (b 7), .ref (b 8), .ref (b 9), .int 1]))] := hD
  refine W.widen (k := 243) (n := 7586) (Nat.le_of_ble_eq_true rfl) (Nat.le_of_ble_eq_true rfl) ?_
  have h_u2 : r3 = nI (mo) := h_u2
  subst h_u2
  refine lv_icmp_eq (tgt := 1311) hx hb dL_law_347 (by decide) (fun _ => ?_) (fun h9 => absurd rfl h9)
  refine lv_iinc (v := 6) (lv' := [(4, .int 6), (3, .ref o0), (2, .ref m0), (1, .ref x0), (0, .ref b0)]) hx hb dL_law_1311 hl (k := 0) rfl (by decide) (by decide) rfl (fun ls hl => ?_)
  refine lv_goto (tgt := 23) hx hb dL_law_1314 (by decide) ?_
  refine lv_iload hx hb dL_law_23 (lv_at hl 0 rfl) ?_
  refine lv_aload_n hx hb dL_law_25 rfl (lv_at hl 4 rfl) ?_
  refine va_slen hx hb hX hbl hbA hS dL_law_26 ?_
  refine cst (v := 6) (by decide) ?_
  refine lv_bipush (v := 6) hx hb dL_law_27 (by decide) ?_
  refine lv_isub hx hb dL_law_29 ?_
  refine cst (v := 0) (by decide) ?_
  refine lv_icmp_gt (tgt := 1317) hx hb dL_law_30 (by decide) (fun c30_4 => ?_) (fun c30_4 => by exfalso; exact absurd c30_4 (by decide))
  refine lv_iconst (v := 1) hx hb dL_law_1317 (by decide) ?_
  refine va_forget (fun q h => by have h8 := hS.2.2 q h; rw [← hAe] at h8; exact h8) ?_
  refine W.widen (k := 600002) (n := 7302232) (Nat.le_of_ble_eq_true rfl) (Nat.le_of_ble_eq_true rfl) ?_
  exact lw_ret hx hb hr hlocks dL_law_1318
set_option maxHeartbeats 4000000 in
set_option maxRecDepth 100000 in
theorem law_32 {p : Program} {e : Env} {s : State} {m : MethodId} {below : List Frame} {meth : Method} {c : Code} (l : Launch) {b0 : Nat} {xs : Nat → Int32} (C0 : lw_At p s m meth c b0 6 xs) (dC : Nat → ClassId) (dI : Nat → Nat → Nat) (g : Gv) (x0 : Nat) (b : Nat → Nat) (f4 : Nat → Nat) (c4 : ClassId) (f5 : Nat → Nat) (f7 : Nat → Nat) (f6 : Nat → Nat) (f2 : Nat → Nat) (cK : ClassId) (kf : Nat → Option Nat) (cZ : ClassId) (fT : Nat → Nat) (fU : Nat → Nat) (sa : Nat → Nat) (sf : Nat → Nat → Nat) (sc : Nat → Nat → ClassId) (spf : Nat → Nat → Int32) (sdf : Nat → Nat → Int32) (slf : Nat → Nat → Int32) (srf : Nat → Nat → Int32) (sga : Nat → Nat → Option Nat) (sgb : Nat → Nat → Option Nat) (rows : va_W) (m0 : Nat) (a : Nat → Nat) (ca : Nat → ClassId) (o0 : Nat) (d : Nat) (k : Nat) (mo : Nat) (dd : Nat) (hq1 : xs 1 = (nI d)) (hq2 : xs 2 = 2) (hk : k < 600) (hm1 : 1 ≤ mo) (hm2 : mo ≤ 12) (hd1 : 1 ≤ dd) (hd2 : dd ≤ mlN (1700 + k) mo) (hd : d = Fk k + Mk (1700 + k) mo + (dd - 1)) {H : Heap} {locs : List Loc} {ls : Array Slot} (hK : va_K (dC, dI) vwCl [] s) (hP : va_P (dC, dI) vwCl [(x0, .inr (7, [.ref (b 0), .ref (b 1), .ref (b 2), .ref (b 3), .ref (b 4), .ref (b 5), .ref (b 6), .ref (b 7), .ref (b 8), .ref (b 9), .int 1])), (m0, .inr (8, [.int 0, .int 0, .int 0, .int 0, .ref (a 4), .int 0, .int 0, .int 0, .int 0, .int 0, .int 0, .long 0, .int 0, .int 0, .int 0, .int 0, .int 0, .int 0, .ref (a 18), .ref (a 19), .ref (a 20), .ref (a 21), .ref (a 22), .ref (a 23), .ref (a 24), .ref (a 25), .ref (a 26), .ref (a 27), .ref (a 28), .ref (a 29), .ref (a 30), .ref (a 31), .ref (a 32), .ref (a 33), .ref (a 34), .ref (a 35), .long 0, .int 0, .ref (a 38), .ref (a 39), .int 0, .ref (a 41), .ref (a 42), .ref (a 43)]))] H) (hD : va_D (fun q : Nat => s.heap.size ≤ q) [(x0, .inr (7, [.ref (b 0), .ref (b 1), .ref (b 2), .ref (b 3), .ref (b 4), .ref (b 5), .ref (b 6), .ref (b 7), .ref (b 8), .ref (b 9), .int 1])), (m0, .inr (8, [.int 0, .int 0, .int 0, .int 0, .ref (a 4), .int 0, .int 0, .int 0, .int 0, .int 0, .int 0, .long 0, .int 0, .int 0, .int 0, .int 0, .int 0, .int 0, .ref (a 18), .ref (a 19), .ref (a 20), .ref (a 21), .ref (a 22), .ref (a 23), .ref (a 24), .ref (a 25), .ref (a 26), .ref (a 27), .ref (a 28), .ref (a 29), .ref (a 30), .ref (a 31), .ref (a 32), .ref (a 33), .ref (a 34), .ref (a 35), .long 0, .int 0, .ref (a 38), .ref (a 39), .int 0, .ref (a 41), .ref (a 42), .ref (a 43)]))]) (hS : va_S (fun q : Nat => s.heap.size ≤ q) s.heap H locs) (hE : Ev g (fun q : Nat => s.heap.size ≤ q) s) (hl : lv_has ls 7 [(4, .int 0), (3, .ref o0), (2, .ref m0), (1, .ref x0), (0, .ref b0)]) : W p l e room_1 s m #[Value.ref b0] below meth c H locs 243 7586 (lw_Z below #[Value.ref b0] s) (F0 m 315 ls []) := by
  obtain ⟨hx, hb, hr, hml, hown, hts0, hX, hbl, hlocks, hgv⟩ := id C0
  have hts := fun (w : Cond) (h : w ∈ TBL) => hts0 w (TBin w h)
  have hown : s.vm.findClass RL = some m.cls := hown
  have hN := hE.1
  have hA : ∀ q : Nat, s.heap.size ≤ q → (fun q : Nat => s.heap.size ≤ q) q := fun _ h => h
  have hbA : ¬ (fun q : Nat => s.heap.size ≤ q) b0 := Nat.not_le.mpr hbl
  generalize hAe : (fun q : Nat => s.heap.size ≤ q) = A at hD hS hE hA hbA
  refine lv_aload_n hx hb dL_law_315 rfl (lv_at hl 3 rfl) ?_
  refine lv_aload_n hx hb dL_law_316 rfl (lv_at hl 4 rfl) ?_
  refine lv_iload hx hb dL_law_317 (lv_at hl 0 rfl) ?_
  refine lv_iconst (v := 1) hx hb dL_law_319 (by decide) ?_
  refine lv_iadd hx hb dL_law_320 ?_
  refine cst (v := 1) (by decide) ?_
  refine va_sld hx hb hX hbl hbA hS (vin0 (by decide)) dL_law_321 ?_
  refine cst (v := (nI d)) ((congrArg xs (show (1 : Int32).toNatClampNeg = 1 by decide)).trans hq1) ?_
  refine lv_aload_n hx hb dL_law_322 rfl (lv_at hl 4 rfl) ?_
  refine lv_iload hx hb dL_law_323 (lv_at hl 0 rfl) ?_
  refine lv_iconst (v := 2) hx hb dL_law_325 (by decide) ?_
  refine lv_iadd hx hb dL_law_326 ?_
  refine cst (v := 2) (by decide) ?_
  refine va_sld hx hb hX hbl hbA hS (vin0 (by decide)) dL_law_327 ?_
  refine cst (v := 2) ((congrArg xs (show (2 : Int32).toNatClampNeg = 2 by decide)).trans hq2) ?_
  have hPc := hP.sub (ws' := []) [] rfl
  have hKc := hK.sub (tys' := []) [] rfl
  refine vp_callSi ((va_runV (As := [.int (nI d), .int 2]) (rest := []) ⟨hx, hb, hml, hown, hts⟩ (c_8date_2 l dC dI g (x0) (d) (k) (mo) (dd) hk hm1 hm2 hd1 hd2 hd) (cwV 2 hts (gwV qw_422 qw_423 qw_424 qw_69 qw_421) rfl rfl rfl (by decide +kernel) ⟨Nat.le_of_ble_eq_true rfl, Nat.le_of_ble_eq_true rfl⟩) ⟨fun a U g9 mk q => ⟨q.1, q.2.1, va_K.moved (u := U) (U := U.calling g9 mk a) (Vm.Alike.refl U.vm) q.2.2.1, Ev.bl q.2.2.2⟩, va_recv hK hP (ci := 7) (q0 := 0) rfl rfl, fun U hU hW => ⟨rfl, by rw [hU]; exact hPc, va_K.moved hW.alike hKc, hE.go hS (fun _ h => h.elim) hU hW⟩⟩ rfl rfl hl.1 rfl (lv_room (Nat.le_of_ble_eq_true rfl)) dL_law_328 ⟨Nat.le_of_ble_eq_true rfl, Nat.le_of_ble_eq_true rfl⟩)).run (fun r1 h_r1 => ?_)
  have h_r1 : r1 = nI (dd) := h_r1
  subst h_r1
  refine lv_aload_n hx hb dL_law_331 rfl (lv_at hl 2 rfl) ?_
  refine lv_aload_n hx hb dL_law_332 rfl (lv_at hl 4 rfl) ?_
  refine lv_iload hx hb dL_law_333 (lv_at hl 0 rfl) ?_
  refine lv_iconst (v := 1) hx hb dL_law_335 (by decide) ?_
  refine lv_iadd hx hb dL_law_336 ?_
  refine cst (v := 1) (by decide) ?_
  refine va_sld hx hb hX hbl hbA hS (vin0 (by decide)) dL_law_337 ?_
  refine cst (v := (nI d)) ((congrArg xs (show (1 : Int32).toNatClampNeg = 1 by decide)).trans hq1) ?_
  refine lv_aload_n hx hb dL_law_338 rfl (lv_at hl 4 rfl) ?_
  refine lv_iload hx hb dL_law_339 (lv_at hl 0 rfl) ?_
  refine lv_iconst (v := 2) hx hb dL_law_341 (by decide) ?_
  refine lv_iadd hx hb dL_law_342 ?_
  refine cst (v := 2) (by decide) ?_
  refine va_sld hx hb hX hbl hbA hS (vin0 (by decide)) dL_law_343 ?_
  refine cst (v := 2) ((congrArg xs (show (2 : Int32).toNatClampNeg = 2 by decide)).trans hq2) ?_
  have hPc := hP.sub (ws' := [(m0, .inr (8, [.int 0, .int 0, .int 0, .int 0, .ref (a 4), .int 0, .int 0, .int 0, .int 0, .int 0, .int 0, .long 0, .int 0, .int 0, .int 0, .int 0, .int 0, .int 0, .ref (a 18), .ref (a 19), .ref (a 20), .ref (a 21), .ref (a 22), .ref (a 23), .ref (a 24), .ref (a 25), .ref (a 26), .ref (a 27), .ref (a 28), .ref (a 29), .ref (a 30), .ref (a 31), .ref (a 32), .ref (a 33), .ref (a 34), .ref (a 35), .long 0, .int 0, .ref (a 38), .ref (a 39), .int 0, .ref (a 41), .ref (a 42), .ref (a 43)]))]) [1] rfl
  have hKc := hK.sub (tys' := []) [] rfl
  have hDc := hD.sub (ws' := [(m0, .inr (8, [.int 0, .int 0, .int 0, .int 0, .ref (a 4), .int 0, .int 0, .int 0, .int 0, .int 0, .int 0, .long 0, .int 0, .int 0, .int 0, .int 0, .int 0, .int 0, .ref (a 18), .ref (a 19), .ref (a 20), .ref (a 21), .ref (a 22), .ref (a 23), .ref (a 24), .ref (a 25), .ref (a 26), .ref (a 27), .ref (a 28), .ref (a 29), .ref (a 30), .ref (a 31), .ref (a 32), .ref (a 33), .ref (a 34), .ref (a 35), .long 0, .int 0, .ref (a 38), .ref (a 39), .int 0, .ref (a 41), .ref (a 42), .ref (a 43)]))]) [1] (by decide) rfl
  have hFc := va_free (wc := [(m0, .inr (8, [.int 0, .int 0, .int 0, .int 0, .ref (a 4), .int 0, .int 0, .int 0, .int 0, .int 0, .int 0, .long 0, .int 0, .int 0, .int 0, .int 0, .int 0, .int 0, .ref (a 18), .ref (a 19), .ref (a 20), .ref (a 21), .ref (a 22), .ref (a 23), .ref (a 24), .ref (a 25), .ref (a 26), .ref (a 27), .ref (a 28), .ref (a 29), .ref (a 30), .ref (a 31), .ref (a 32), .ref (a 33), .ref (a 34), .ref (a 35), .long 0, .int 0, .ref (a 38), .ref (a 39), .int 0, .ref (a 41), .ref (a 42), .ref (a 43)]))]) hD hS hA [1] rfl
  refine va_calli (va_runV (As := [.int (nI d), .int 2]) (rest := [.int (nI dd)]) ⟨hx, hb, hml, hown, hts⟩ (c_9date_2 l dC dI g H.size (m0) (a) (d) (k) (mo) (dd) hk hm1 hm2 hd1 hd2 hd) (cwV 2 hts (gwV qw_426 qw_427 qw_428 qw_23 qw_425) rfl rfl rfl (by decide +kernel) ⟨Nat.le_of_ble_eq_true rfl, Nat.le_of_ble_eq_true rfl⟩) ⟨fun a U g9 mk q => ⟨q.1, q.2.1, q.2.2.1, va_K.moved (u := U) (U := U.calling g9 mk a) (Vm.Alike.refl U.vm) q.2.2.2.1, q.2.2.2.2.1, Ev.bl q.2.2.2.2.2⟩, va_recv hK hP (ci := 8) (q0 := 1) rfl rfl, fun U hU hW => ⟨rfl, by rw [hU], by rw [hU]; exact hPc, va_K.moved hW.alike hKc, hDc.weaken (fun _ _ _ _ => trivial), hE.go hS hFc hU hW⟩⟩ rfl rfl hl.1 rfl (lv_room (Nat.le_of_ble_eq_true rfl)) dL_law_344 ⟨Nat.le_of_ble_eq_true rfl, Nat.le_of_ble_eq_true rfl⟩) hS (fun q _ h => hFc q h) hFc (fun r3 u2 t H1 locs ht hvm h_u2 hB hz1 hk1 hS => ?_)
  obtain ⟨hP, hD⟩ := va_join (wr := [(x0, .inr (7, [.ref (b 0), .ref (b 1), .ref (b 2), .ref (b 3), .ref (b 4), .ref (b 5), .ref (b 6), .ref (b 7), .ref (b 8), .ref (b 9), .int 1]))]) (w1 := []) hP hD [1] [0] rfl rfl (by decide) (by decide) hk1 hFc va_P0 va_D0
  generalize H1 = H at hP hS ⊢
  have hP : va_P (dC, dI) vwCl [(x0, .inr (7, [.ref (b 0), .ref (b 1), .ref (b 2), .ref (b 3), .ref (b 4), .ref (b 5), .ref (b 6), .ref (b 7), .ref (b 8), .ref (b 9), .int 1]))] H := hP
  have hD : va_D A [(x0, .inr (7, [.ref (b 0), .ref (b 1), .ref (b 2), .ref (b 3), .ref (b 4), .ref (b 5), .ref (b 6), .ref (b 7), .ref (b 8), .ref (b 9), .int 1]))] := hD
  refine W.widen (k := 243) (n := 7586) (Nat.le_of_ble_eq_true rfl) (Nat.le_of_ble_eq_true rfl) ?_
  have h_u2 : r3 = nI (dd) := h_u2
  subst h_u2
  refine lv_icmp_eq (tgt := 1311) hx hb dL_law_347 (by decide) (fun _ => ?_) (fun h9 => absurd rfl h9)
  refine lv_iinc (v := 6) (lv' := [(4, .int 6), (3, .ref o0), (2, .ref m0), (1, .ref x0), (0, .ref b0)]) hx hb dL_law_1311 hl (k := 0) rfl (by decide) (by decide) rfl (fun ls hl => ?_)
  refine lv_goto (tgt := 23) hx hb dL_law_1314 (by decide) ?_
  refine lv_iload hx hb dL_law_23 (lv_at hl 0 rfl) ?_
  refine lv_aload_n hx hb dL_law_25 rfl (lv_at hl 4 rfl) ?_
  refine va_slen hx hb hX hbl hbA hS dL_law_26 ?_
  refine cst (v := 6) (by decide) ?_
  refine lv_bipush (v := 6) hx hb dL_law_27 (by decide) ?_
  refine lv_isub hx hb dL_law_29 ?_
  refine cst (v := 0) (by decide) ?_
  refine lv_icmp_gt (tgt := 1317) hx hb dL_law_30 (by decide) (fun c30_4 => ?_) (fun c30_4 => by exfalso; exact absurd c30_4 (by decide))
  refine lv_iconst (v := 1) hx hb dL_law_1317 (by decide) ?_
  refine va_forget (fun q h => by have h8 := hS.2.2 q h; rw [← hAe] at h8; exact h8) ?_
  refine W.widen (k := 600002) (n := 7302232) (Nat.le_of_ble_eq_true rfl) (Nat.le_of_ble_eq_true rfl) ?_
  exact lw_ret hx hb hr hlocks dL_law_1318
set_option maxHeartbeats 4000000 in
set_option maxRecDepth 100000 in
theorem law_33 {p : Program} {e : Env} {s : State} {m : MethodId} {below : List Frame} {meth : Method} {c : Code} (l : Launch) {b0 : Nat} {xs : Nat → Int32} (C0 : lw_At p s m meth c b0 6 xs) (dC : Nat → ClassId) (dI : Nat → Nat → Nat) (g : Gv) (x0 : Nat) (b : Nat → Nat) (f4 : Nat → Nat) (c4 : ClassId) (f5 : Nat → Nat) (f7 : Nat → Nat) (f6 : Nat → Nat) (f2 : Nat → Nat) (cK : ClassId) (kf : Nat → Option Nat) (cZ : ClassId) (fT : Nat → Nat) (fU : Nat → Nat) (sa : Nat → Nat) (sf : Nat → Nat → Nat) (sc : Nat → Nat → ClassId) (spf : Nat → Nat → Int32) (sdf : Nat → Nat → Int32) (slf : Nat → Nat → Int32) (srf : Nat → Nat → Int32) (sga : Nat → Nat → Option Nat) (sgb : Nat → Nat → Option Nat) (rows : va_W) (m0 : Nat) (a : Nat → Nat) (ca : Nat → ClassId) (o0 : Nat) (d : Nat) (k : Nat) (mo : Nat) (dd : Nat) (hq1 : xs 1 = (nI d)) (hq2 : xs 2 = 3) (hk : k < 600) (hm1 : 1 ≤ mo) (hm2 : mo ≤ 12) (hd1 : 1 ≤ dd) (hd2 : dd ≤ mlN (1700 + k) mo) (hd : d = Fk k + Mk (1700 + k) mo + (dd - 1)) {H : Heap} {locs : List Loc} {ls : Array Slot} (hK : va_K (dC, dI) vwCl [] s) (hP : va_P (dC, dI) vwCl [(x0, .inr (7, [.ref (b 0), .ref (b 1), .ref (b 2), .ref (b 3), .ref (b 4), .ref (b 5), .ref (b 6), .ref (b 7), .ref (b 8), .ref (b 9), .int 1])), (m0, .inr (8, [.int 0, .int 0, .int 0, .int 0, .ref (a 4), .int 0, .int 0, .int 0, .int 0, .int 0, .int 0, .long 0, .int 0, .int 0, .int 0, .int 0, .int 0, .int 0, .ref (a 18), .ref (a 19), .ref (a 20), .ref (a 21), .ref (a 22), .ref (a 23), .ref (a 24), .ref (a 25), .ref (a 26), .ref (a 27), .ref (a 28), .ref (a 29), .ref (a 30), .ref (a 31), .ref (a 32), .ref (a 33), .ref (a 34), .ref (a 35), .long 0, .int 0, .ref (a 38), .ref (a 39), .int 0, .ref (a 41), .ref (a 42), .ref (a 43)]))] H) (hD : va_D (fun q : Nat => s.heap.size ≤ q) [(x0, .inr (7, [.ref (b 0), .ref (b 1), .ref (b 2), .ref (b 3), .ref (b 4), .ref (b 5), .ref (b 6), .ref (b 7), .ref (b 8), .ref (b 9), .int 1])), (m0, .inr (8, [.int 0, .int 0, .int 0, .int 0, .ref (a 4), .int 0, .int 0, .int 0, .int 0, .int 0, .int 0, .long 0, .int 0, .int 0, .int 0, .int 0, .int 0, .int 0, .ref (a 18), .ref (a 19), .ref (a 20), .ref (a 21), .ref (a 22), .ref (a 23), .ref (a 24), .ref (a 25), .ref (a 26), .ref (a 27), .ref (a 28), .ref (a 29), .ref (a 30), .ref (a 31), .ref (a 32), .ref (a 33), .ref (a 34), .ref (a 35), .long 0, .int 0, .ref (a 38), .ref (a 39), .int 0, .ref (a 41), .ref (a 42), .ref (a 43)]))]) (hS : va_S (fun q : Nat => s.heap.size ≤ q) s.heap H locs) (hE : Ev g (fun q : Nat => s.heap.size ≤ q) s) (hl : lv_has ls 7 [(4, .int 0), (3, .ref o0), (2, .ref m0), (1, .ref x0), (0, .ref b0)]) : W p l e room_1 s m #[Value.ref b0] below meth c H locs 243 7586 (lw_Z below #[Value.ref b0] s) (F0 m 315 ls []) := by
  obtain ⟨hx, hb, hr, hml, hown, hts0, hX, hbl, hlocks, hgv⟩ := id C0
  have hts := fun (w : Cond) (h : w ∈ TBL) => hts0 w (TBin w h)
  have hown : s.vm.findClass RL = some m.cls := hown
  have hN := hE.1
  have hA : ∀ q : Nat, s.heap.size ≤ q → (fun q : Nat => s.heap.size ≤ q) q := fun _ h => h
  have hbA : ¬ (fun q : Nat => s.heap.size ≤ q) b0 := Nat.not_le.mpr hbl
  generalize hAe : (fun q : Nat => s.heap.size ≤ q) = A at hD hS hE hA hbA
  refine lv_aload_n hx hb dL_law_315 rfl (lv_at hl 3 rfl) ?_
  refine lv_aload_n hx hb dL_law_316 rfl (lv_at hl 4 rfl) ?_
  refine lv_iload hx hb dL_law_317 (lv_at hl 0 rfl) ?_
  refine lv_iconst (v := 1) hx hb dL_law_319 (by decide) ?_
  refine lv_iadd hx hb dL_law_320 ?_
  refine cst (v := 1) (by decide) ?_
  refine va_sld hx hb hX hbl hbA hS (vin0 (by decide)) dL_law_321 ?_
  refine cst (v := (nI d)) ((congrArg xs (show (1 : Int32).toNatClampNeg = 1 by decide)).trans hq1) ?_
  refine lv_aload_n hx hb dL_law_322 rfl (lv_at hl 4 rfl) ?_
  refine lv_iload hx hb dL_law_323 (lv_at hl 0 rfl) ?_
  refine lv_iconst (v := 2) hx hb dL_law_325 (by decide) ?_
  refine lv_iadd hx hb dL_law_326 ?_
  refine cst (v := 2) (by decide) ?_
  refine va_sld hx hb hX hbl hbA hS (vin0 (by decide)) dL_law_327 ?_
  refine cst (v := 3) ((congrArg xs (show (2 : Int32).toNatClampNeg = 2 by decide)).trans hq2) ?_
  have hPc := hP.sub (ws' := []) [] rfl
  have hKc := hK.sub (tys' := []) [] rfl
  refine vp_callSi ((va_runV (As := [.int (nI d), .int 3]) (rest := []) ⟨hx, hb, hml, hown, hts⟩ (c_8date_3 l dC dI g (x0) (d) (k) (mo) (dd) hk hm1 hm2 hd1 hd2 hd) (cwV 2 hts (gwV qw_422 qw_423 qw_424 qw_69 qw_421) rfl rfl rfl (by decide +kernel) ⟨Nat.le_of_ble_eq_true rfl, Nat.le_of_ble_eq_true rfl⟩) ⟨fun a U g9 mk q => ⟨q.1, q.2.1, va_K.moved (u := U) (U := U.calling g9 mk a) (Vm.Alike.refl U.vm) q.2.2.1, Ev.bl q.2.2.2⟩, va_recv hK hP (ci := 7) (q0 := 0) rfl rfl, fun U hU hW => ⟨rfl, by rw [hU]; exact hPc, va_K.moved hW.alike hKc, hE.go hS (fun _ h => h.elim) hU hW⟩⟩ rfl rfl hl.1 rfl (lv_room (Nat.le_of_ble_eq_true rfl)) dL_law_328 ⟨Nat.le_of_ble_eq_true rfl, Nat.le_of_ble_eq_true rfl⟩)).run (fun r1 h_r1 => ?_)
  have h_r1 : r1 = nI ((d + 4) % 7) := h_r1
  subst h_r1
  refine lv_aload_n hx hb dL_law_331 rfl (lv_at hl 2 rfl) ?_
  refine lv_aload_n hx hb dL_law_332 rfl (lv_at hl 4 rfl) ?_
  refine lv_iload hx hb dL_law_333 (lv_at hl 0 rfl) ?_
  refine lv_iconst (v := 1) hx hb dL_law_335 (by decide) ?_
  refine lv_iadd hx hb dL_law_336 ?_
  refine cst (v := 1) (by decide) ?_
  refine va_sld hx hb hX hbl hbA hS (vin0 (by decide)) dL_law_337 ?_
  refine cst (v := (nI d)) ((congrArg xs (show (1 : Int32).toNatClampNeg = 1 by decide)).trans hq1) ?_
  refine lv_aload_n hx hb dL_law_338 rfl (lv_at hl 4 rfl) ?_
  refine lv_iload hx hb dL_law_339 (lv_at hl 0 rfl) ?_
  refine lv_iconst (v := 2) hx hb dL_law_341 (by decide) ?_
  refine lv_iadd hx hb dL_law_342 ?_
  refine cst (v := 2) (by decide) ?_
  refine va_sld hx hb hX hbl hbA hS (vin0 (by decide)) dL_law_343 ?_
  refine cst (v := 3) ((congrArg xs (show (2 : Int32).toNatClampNeg = 2 by decide)).trans hq2) ?_
  have hPc := hP.sub (ws' := [(m0, .inr (8, [.int 0, .int 0, .int 0, .int 0, .ref (a 4), .int 0, .int 0, .int 0, .int 0, .int 0, .int 0, .long 0, .int 0, .int 0, .int 0, .int 0, .int 0, .int 0, .ref (a 18), .ref (a 19), .ref (a 20), .ref (a 21), .ref (a 22), .ref (a 23), .ref (a 24), .ref (a 25), .ref (a 26), .ref (a 27), .ref (a 28), .ref (a 29), .ref (a 30), .ref (a 31), .ref (a 32), .ref (a 33), .ref (a 34), .ref (a 35), .long 0, .int 0, .ref (a 38), .ref (a 39), .int 0, .ref (a 41), .ref (a 42), .ref (a 43)]))]) [1] rfl
  have hKc := hK.sub (tys' := []) [] rfl
  have hDc := hD.sub (ws' := [(m0, .inr (8, [.int 0, .int 0, .int 0, .int 0, .ref (a 4), .int 0, .int 0, .int 0, .int 0, .int 0, .int 0, .long 0, .int 0, .int 0, .int 0, .int 0, .int 0, .int 0, .ref (a 18), .ref (a 19), .ref (a 20), .ref (a 21), .ref (a 22), .ref (a 23), .ref (a 24), .ref (a 25), .ref (a 26), .ref (a 27), .ref (a 28), .ref (a 29), .ref (a 30), .ref (a 31), .ref (a 32), .ref (a 33), .ref (a 34), .ref (a 35), .long 0, .int 0, .ref (a 38), .ref (a 39), .int 0, .ref (a 41), .ref (a 42), .ref (a 43)]))]) [1] (by decide) rfl
  have hFc := va_free (wc := [(m0, .inr (8, [.int 0, .int 0, .int 0, .int 0, .ref (a 4), .int 0, .int 0, .int 0, .int 0, .int 0, .int 0, .long 0, .int 0, .int 0, .int 0, .int 0, .int 0, .int 0, .ref (a 18), .ref (a 19), .ref (a 20), .ref (a 21), .ref (a 22), .ref (a 23), .ref (a 24), .ref (a 25), .ref (a 26), .ref (a 27), .ref (a 28), .ref (a 29), .ref (a 30), .ref (a 31), .ref (a 32), .ref (a 33), .ref (a 34), .ref (a 35), .long 0, .int 0, .ref (a 38), .ref (a 39), .int 0, .ref (a 41), .ref (a 42), .ref (a 43)]))]) hD hS hA [1] rfl
  refine va_calli (va_runV (As := [.int (nI d), .int 3]) (rest := [.int (nI ((d + 4) % 7))]) ⟨hx, hb, hml, hown, hts⟩ (c_9date_3 l dC dI g H.size (m0) (a) (d) (k) (mo) (dd) hk hm1 hm2 hd1 hd2 hd) (cwV 2 hts (gwV qw_426 qw_427 qw_428 qw_23 qw_425) rfl rfl rfl (by decide +kernel) ⟨Nat.le_of_ble_eq_true rfl, Nat.le_of_ble_eq_true rfl⟩) ⟨fun a U g9 mk q => ⟨q.1, q.2.1, q.2.2.1, va_K.moved (u := U) (U := U.calling g9 mk a) (Vm.Alike.refl U.vm) q.2.2.2.1, q.2.2.2.2.1, Ev.bl q.2.2.2.2.2⟩, va_recv hK hP (ci := 8) (q0 := 1) rfl rfl, fun U hU hW => ⟨rfl, by rw [hU], by rw [hU]; exact hPc, va_K.moved hW.alike hKc, hDc.weaken (fun _ _ _ _ => trivial), hE.go hS hFc hU hW⟩⟩ rfl rfl hl.1 rfl (lv_room (Nat.le_of_ble_eq_true rfl)) dL_law_344 ⟨Nat.le_of_ble_eq_true rfl, Nat.le_of_ble_eq_true rfl⟩) hS (fun q _ h => hFc q h) hFc (fun r3 u2 t H1 locs ht hvm h_u2 hB hz1 hk1 hS => ?_)
  obtain ⟨hP, hD⟩ := va_join (wr := [(x0, .inr (7, [.ref (b 0), .ref (b 1), .ref (b 2), .ref (b 3), .ref (b 4), .ref (b 5), .ref (b 6), .ref (b 7), .ref (b 8), .ref (b 9), .int 1]))]) (w1 := []) hP hD [1] [0] rfl rfl (by decide) (by decide) hk1 hFc va_P0 va_D0
  generalize H1 = H at hP hS ⊢
  have hP : va_P (dC, dI) vwCl [(x0, .inr (7, [.ref (b 0), .ref (b 1), .ref (b 2), .ref (b 3), .ref (b 4), .ref (b 5), .ref (b 6), .ref (b 7), .ref (b 8), .ref (b 9), .int 1]))] H := hP
  have hD : va_D A [(x0, .inr (7, [.ref (b 0), .ref (b 1), .ref (b 2), .ref (b 3), .ref (b 4), .ref (b 5), .ref (b 6), .ref (b 7), .ref (b 8), .ref (b 9), .int 1]))] := hD
  refine W.widen (k := 243) (n := 7586) (Nat.le_of_ble_eq_true rfl) (Nat.le_of_ble_eq_true rfl) ?_
  have h_u2 : r3 = nI ((d + 4) % 7) := h_u2
  subst h_u2
  refine lv_icmp_eq (tgt := 1311) hx hb dL_law_347 (by decide) (fun _ => ?_) (fun h9 => absurd rfl h9)
  refine lv_iinc (v := 6) (lv' := [(4, .int 6), (3, .ref o0), (2, .ref m0), (1, .ref x0), (0, .ref b0)]) hx hb dL_law_1311 hl (k := 0) rfl (by decide) (by decide) rfl (fun ls hl => ?_)
  refine lv_goto (tgt := 23) hx hb dL_law_1314 (by decide) ?_
  refine lv_iload hx hb dL_law_23 (lv_at hl 0 rfl) ?_
  refine lv_aload_n hx hb dL_law_25 rfl (lv_at hl 4 rfl) ?_
  refine va_slen hx hb hX hbl hbA hS dL_law_26 ?_
  refine cst (v := 6) (by decide) ?_
  refine lv_bipush (v := 6) hx hb dL_law_27 (by decide) ?_
  refine lv_isub hx hb dL_law_29 ?_
  refine cst (v := 0) (by decide) ?_
  refine lv_icmp_gt (tgt := 1317) hx hb dL_law_30 (by decide) (fun c30_4 => ?_) (fun c30_4 => by exfalso; exact absurd c30_4 (by decide))
  refine lv_iconst (v := 1) hx hb dL_law_1317 (by decide) ?_
  refine va_forget (fun q h => by have h8 := hS.2.2 q h; rw [← hAe] at h8; exact h8) ?_
  refine W.widen (k := 600002) (n := 7302232) (Nat.le_of_ble_eq_true rfl) (Nat.le_of_ble_eq_true rfl) ?_
  exact lw_ret hx hb hr hlocks dL_law_1318
set_option maxHeartbeats 4000000 in
set_option maxRecDepth 100000 in
theorem law_4O {p : Program} {e : Env} {s : State} {m : MethodId} {below : List Frame} {meth : Method} {c : Code} (l : Launch) {b0 : Nat} {xs : Nat → Int32} (C0 : lw_At p s m meth c b0 6 xs) (dC : Nat → ClassId) (dI : Nat → Nat → Nat) (g : Gv) (x0 : Nat) (b : Nat → Nat) (f4 : Nat → Nat) (c4 : ClassId) (f5 : Nat → Nat) (f7 : Nat → Nat) (f6 : Nat → Nat) (f2 : Nat → Nat) (cK : ClassId) (kf : Nat → Option Nat) (cZ : ClassId) (fT : Nat → Nat) (fU : Nat → Nat) (sa : Nat → Nat) (sf : Nat → Nat → Nat) (sc : Nat → Nat → ClassId) (spf : Nat → Nat → Int32) (sdf : Nat → Nat → Int32) (slf : Nat → Nat → Int32) (srf : Nat → Nat → Int32) (sga : Nat → Nat → Option Nat) (sgb : Nat → Nat → Option Nat) (rows : va_W) (m0 : Nat) (a : Nat → Nat) (ca : Nat → ClassId) (o0 : Nat)  (hd : ¬ (0 ≤ (xs 1).toInt ∧ (xs 1).toInt ≤ 219145)) {H : Heap} {locs : List Loc} {ls : Array Slot} (hK : va_K (dC, dI) vwCl [] s) (hP : va_P (dC, dI) vwCl [(x0, .inr (7, [.ref (b 0), .ref (b 1), .ref (b 2), .ref (b 3), .ref (b 4), .ref (b 5), .ref (b 6), .ref (b 7), .ref (b 8), .ref (b 9), .int 1])), (m0, .inr (8, [.int 0, .int 0, .int 0, .int 0, .ref (a 4), .int 0, .int 0, .int 0, .int 0, .int 0, .int 0, .long 0, .int 0, .int 0, .int 0, .int 0, .int 0, .int 0, .ref (a 18), .ref (a 19), .ref (a 20), .ref (a 21), .ref (a 22), .ref (a 23), .ref (a 24), .ref (a 25), .ref (a 26), .ref (a 27), .ref (a 28), .ref (a 29), .ref (a 30), .ref (a 31), .ref (a 32), .ref (a 33), .ref (a 34), .ref (a 35), .long 0, .int 0, .ref (a 38), .ref (a 39), .int 0, .ref (a 41), .ref (a 42), .ref (a 43)]))] H) (hD : va_D (fun q : Nat => s.heap.size ≤ q) [(x0, .inr (7, [.ref (b 0), .ref (b 1), .ref (b 2), .ref (b 3), .ref (b 4), .ref (b 5), .ref (b 6), .ref (b 7), .ref (b 8), .ref (b 9), .int 1])), (m0, .inr (8, [.int 0, .int 0, .int 0, .int 0, .ref (a 4), .int 0, .int 0, .int 0, .int 0, .int 0, .int 0, .long 0, .int 0, .int 0, .int 0, .int 0, .int 0, .int 0, .ref (a 18), .ref (a 19), .ref (a 20), .ref (a 21), .ref (a 22), .ref (a 23), .ref (a 24), .ref (a 25), .ref (a 26), .ref (a 27), .ref (a 28), .ref (a 29), .ref (a 30), .ref (a 31), .ref (a 32), .ref (a 33), .ref (a 34), .ref (a 35), .long 0, .int 0, .ref (a 38), .ref (a 39), .int 0, .ref (a 41), .ref (a 42), .ref (a 43)]))]) (hS : va_S (fun q : Nat => s.heap.size ≤ q) s.heap H locs) (hE : Ev g (fun q : Nat => s.heap.size ≤ q) s) (hl : lv_has ls 7 [(4, .int 0), (3, .ref o0), (2, .ref m0), (1, .ref x0), (0, .ref b0)]) : W p l e room_1 s m #[Value.ref b0] below meth c H locs 243 7586 (lw_Z below #[Value.ref b0] s) (F0 m 352 ls []) := by
  obtain ⟨hx, hb, hr, hml, hown, hts0, hX, hbl, hlocks, hgv⟩ := id C0
  have hts := fun (w : Cond) (h : w ∈ TBL) => hts0 w (TBin w h)
  have hown : s.vm.findClass RL = some m.cls := hown
  have hN := hE.1
  have hA : ∀ q : Nat, s.heap.size ≤ q → (fun q : Nat => s.heap.size ≤ q) q := fun _ h => h
  have hbA : ¬ (fun q : Nat => s.heap.size ≤ q) b0 := Nat.not_le.mpr hbl
  generalize hAe : (fun q : Nat => s.heap.size ≤ q) = A at hD hS hE hA hbA
  refine lv_aload_n hx hb dL_law_352 rfl (lv_at hl 3 rfl) ?_
  refine lv_aload_n hx hb dL_law_353 rfl (lv_at hl 4 rfl) ?_
  refine lv_iload hx hb dL_law_354 (lv_at hl 0 rfl) ?_
  refine lv_iconst (v := 1) hx hb dL_law_356 (by decide) ?_
  refine lv_iadd hx hb dL_law_357 ?_
  refine cst (v := 1) (by decide) ?_
  refine va_sld hx hb hX hbl hbA hS (vin0 (by decide)) dL_law_358 ?_
  refine cst (v := (xs 1)) (congrArg xs (show (1 : Int32).toNatClampNeg = 1 by decide)) ?_
  refine lv_aload_n hx hb dL_law_359 rfl (lv_at hl 4 rfl) ?_
  refine lv_iload hx hb dL_law_360 (lv_at hl 0 rfl) ?_
  refine lv_iconst (v := 2) hx hb dL_law_362 (by decide) ?_
  refine lv_iadd hx hb dL_law_363 ?_
  refine cst (v := 2) (by decide) ?_
  refine va_sld hx hb hX hbl hbA hS (vin0 (by decide)) dL_law_364 ?_
  refine cst (v := (xs 2)) (congrArg xs (show (2 : Int32).toNatClampNeg = 2 by decide)) ?_
  have hPc := hP.sub (ws' := []) [] rfl
  have hKc := hK.sub (tys' := []) [] rfl
  refine vp_callSi ((va_runV (As := [.int (xs 1), .int (xs 2)]) (rest := []) ⟨hx, hb, hml, hown, hts⟩ (c_8plus_O l dC dI g (x0) ((xs 1)) ((xs 2)) hd) (cwV 2 hts (gwV qw_430 qw_431 qw_432 qw_69 qw_429) rfl rfl rfl (by decide +kernel) ⟨Nat.le_of_ble_eq_true rfl, Nat.le_of_ble_eq_true rfl⟩) ⟨fun a U g9 mk q => ⟨q.1, q.2.1, va_K.moved (u := U) (U := U.calling g9 mk a) (Vm.Alike.refl U.vm) q.2.2.1, Ev.bl q.2.2.2⟩, va_recv hK hP (ci := 7) (q0 := 0) rfl rfl, fun U hU hW => ⟨rfl, by rw [hU]; exact hPc, va_K.moved hW.alike hKc, hE.go hS (fun _ h => h.elim) hU hW⟩⟩ rfl rfl hl.1 rfl (lv_room (Nat.le_of_ble_eq_true rfl)) dL_law_365 ⟨Nat.le_of_ble_eq_true rfl, Nat.le_of_ble_eq_true rfl⟩)).run (fun r1 h_r1 => ?_)
  have h_r1 : r1 = (-1) := h_r1
  subst h_r1
  refine lv_aload_n hx hb dL_law_368 rfl (lv_at hl 2 rfl) ?_
  refine lv_aload_n hx hb dL_law_369 rfl (lv_at hl 4 rfl) ?_
  refine lv_iload hx hb dL_law_370 (lv_at hl 0 rfl) ?_
  refine lv_iconst (v := 1) hx hb dL_law_372 (by decide) ?_
  refine lv_iadd hx hb dL_law_373 ?_
  refine cst (v := 1) (by decide) ?_
  refine va_sld hx hb hX hbl hbA hS (vin0 (by decide)) dL_law_374 ?_
  refine cst (v := (xs 1)) (congrArg xs (show (1 : Int32).toNatClampNeg = 1 by decide)) ?_
  refine lv_aload_n hx hb dL_law_375 rfl (lv_at hl 4 rfl) ?_
  refine lv_iload hx hb dL_law_376 (lv_at hl 0 rfl) ?_
  refine lv_iconst (v := 2) hx hb dL_law_378 (by decide) ?_
  refine lv_iadd hx hb dL_law_379 ?_
  refine cst (v := 2) (by decide) ?_
  refine va_sld hx hb hX hbl hbA hS (vin0 (by decide)) dL_law_380 ?_
  refine cst (v := (xs 2)) (congrArg xs (show (2 : Int32).toNatClampNeg = 2 by decide)) ?_
  have hPc := hP.sub (ws' := [(m0, .inr (8, [.int 0, .int 0, .int 0, .int 0, .ref (a 4), .int 0, .int 0, .int 0, .int 0, .int 0, .int 0, .long 0, .int 0, .int 0, .int 0, .int 0, .int 0, .int 0, .ref (a 18), .ref (a 19), .ref (a 20), .ref (a 21), .ref (a 22), .ref (a 23), .ref (a 24), .ref (a 25), .ref (a 26), .ref (a 27), .ref (a 28), .ref (a 29), .ref (a 30), .ref (a 31), .ref (a 32), .ref (a 33), .ref (a 34), .ref (a 35), .long 0, .int 0, .ref (a 38), .ref (a 39), .int 0, .ref (a 41), .ref (a 42), .ref (a 43)]))]) [1] rfl
  have hKc := hK.sub (tys' := []) [] rfl
  have hDc := hD.sub (ws' := [(m0, .inr (8, [.int 0, .int 0, .int 0, .int 0, .ref (a 4), .int 0, .int 0, .int 0, .int 0, .int 0, .int 0, .long 0, .int 0, .int 0, .int 0, .int 0, .int 0, .int 0, .ref (a 18), .ref (a 19), .ref (a 20), .ref (a 21), .ref (a 22), .ref (a 23), .ref (a 24), .ref (a 25), .ref (a 26), .ref (a 27), .ref (a 28), .ref (a 29), .ref (a 30), .ref (a 31), .ref (a 32), .ref (a 33), .ref (a 34), .ref (a 35), .long 0, .int 0, .ref (a 38), .ref (a 39), .int 0, .ref (a 41), .ref (a 42), .ref (a 43)]))]) [1] (by decide) rfl
  have hFc := va_free (wc := [(m0, .inr (8, [.int 0, .int 0, .int 0, .int 0, .ref (a 4), .int 0, .int 0, .int 0, .int 0, .int 0, .int 0, .long 0, .int 0, .int 0, .int 0, .int 0, .int 0, .int 0, .ref (a 18), .ref (a 19), .ref (a 20), .ref (a 21), .ref (a 22), .ref (a 23), .ref (a 24), .ref (a 25), .ref (a 26), .ref (a 27), .ref (a 28), .ref (a 29), .ref (a 30), .ref (a 31), .ref (a 32), .ref (a 33), .ref (a 34), .ref (a 35), .long 0, .int 0, .ref (a 38), .ref (a 39), .int 0, .ref (a 41), .ref (a 42), .ref (a 43)]))]) hD hS hA [1] rfl
  refine va_calli (va_runV (As := [.int (xs 1), .int (xs 2)]) (rest := [.int (-1)]) ⟨hx, hb, hml, hown, hts⟩ (c_9plus_O l dC dI g H.size (m0) (a) ((xs 1)) ((xs 2)) hd) (cwV 2 hts (gwV qw_434 qw_435 qw_436 qw_23 qw_433) rfl rfl rfl (by decide +kernel) ⟨Nat.le_of_ble_eq_true rfl, Nat.le_of_ble_eq_true rfl⟩) ⟨fun a U g9 mk q => ⟨q.1, q.2.1, q.2.2.1, va_K.moved (u := U) (U := U.calling g9 mk a) (Vm.Alike.refl U.vm) q.2.2.2.1, q.2.2.2.2.1, Ev.bl q.2.2.2.2.2⟩, va_recv hK hP (ci := 8) (q0 := 1) rfl rfl, fun U hU hW => ⟨rfl, by rw [hU], by rw [hU]; exact hPc, va_K.moved hW.alike hKc, hDc.weaken (fun _ _ _ _ => trivial), hE.go hS hFc hU hW⟩⟩ rfl rfl hl.1 rfl (lv_room (Nat.le_of_ble_eq_true rfl)) dL_law_381 ⟨Nat.le_of_ble_eq_true rfl, Nat.le_of_ble_eq_true rfl⟩) hS (fun q _ h => hFc q h) hFc (fun r3 u2 t H1 locs ht hvm h_u2 hB hz1 hk1 hS => ?_)
  obtain ⟨hP, hD⟩ := va_join (wr := [(x0, .inr (7, [.ref (b 0), .ref (b 1), .ref (b 2), .ref (b 3), .ref (b 4), .ref (b 5), .ref (b 6), .ref (b 7), .ref (b 8), .ref (b 9), .int 1]))]) (w1 := []) hP hD [1] [0] rfl rfl (by decide) (by decide) hk1 hFc va_P0 va_D0
  generalize H1 = H at hP hS ⊢
  have hP : va_P (dC, dI) vwCl [(x0, .inr (7, [.ref (b 0), .ref (b 1), .ref (b 2), .ref (b 3), .ref (b 4), .ref (b 5), .ref (b 6), .ref (b 7), .ref (b 8), .ref (b 9), .int 1]))] H := hP
  have hD : va_D A [(x0, .inr (7, [.ref (b 0), .ref (b 1), .ref (b 2), .ref (b 3), .ref (b 4), .ref (b 5), .ref (b 6), .ref (b 7), .ref (b 8), .ref (b 9), .int 1]))] := hD
  refine W.widen (k := 243) (n := 7586) (Nat.le_of_ble_eq_true rfl) (Nat.le_of_ble_eq_true rfl) ?_
  have h_u2 : r3 = (-1) := h_u2
  subst h_u2
  refine lv_icmp_eq (tgt := 1311) hx hb dL_law_384 (by decide) (fun c384_4 => ?_) (fun c384_4 => by exfalso; exact absurd c384_4 (by decide))
  refine lv_iinc (v := 6) (lv' := [(4, .int 6), (3, .ref o0), (2, .ref m0), (1, .ref x0), (0, .ref b0)]) hx hb dL_law_1311 hl (k := 0) rfl (by decide) (by decide) rfl (fun ls hl => ?_)
  refine lv_goto (tgt := 23) hx hb dL_law_1314 (by decide) ?_
  refine lv_iload hx hb dL_law_23 (lv_at hl 0 rfl) ?_
  refine lv_aload_n hx hb dL_law_25 rfl (lv_at hl 4 rfl) ?_
  refine va_slen hx hb hX hbl hbA hS dL_law_26 ?_
  refine cst (v := 6) (by decide) ?_
  refine lv_bipush (v := 6) hx hb dL_law_27 (by decide) ?_
  refine lv_isub hx hb dL_law_29 ?_
  refine cst (v := 0) (by decide) ?_
  refine lv_icmp_gt (tgt := 1317) hx hb dL_law_30 (by decide) (fun c30_5 => ?_) (fun c30_5 => by exfalso; exact absurd c30_5 (by decide))
  refine lv_iconst (v := 1) hx hb dL_law_1317 (by decide) ?_
  refine va_forget (fun q h => by have h8 := hS.2.2 q h; rw [← hAe] at h8; exact h8) ?_
  refine W.widen (k := 600002) (n := 7302232) (Nat.le_of_ble_eq_true rfl) (Nat.le_of_ble_eq_true rfl) ?_
  exact lw_ret hx hb hr hlocks dL_law_1318
set_option maxHeartbeats 4000000 in
set_option maxRecDepth 100000 in
theorem law_4W {p : Program} {e : Env} {s : State} {m : MethodId} {below : List Frame} {meth : Method} {c : Code} (l : Launch) {b0 : Nat} {xs : Nat → Int32} (C0 : lw_At p s m meth c b0 6 xs) (dC : Nat → ClassId) (dI : Nat → Nat → Nat) (g : Gv) (x0 : Nat) (b : Nat → Nat) (f4 : Nat → Nat) (c4 : ClassId) (f5 : Nat → Nat) (f7 : Nat → Nat) (f6 : Nat → Nat) (f2 : Nat → Nat) (cK : ClassId) (kf : Nat → Option Nat) (cZ : ClassId) (fT : Nat → Nat) (fU : Nat → Nat) (sa : Nat → Nat) (sf : Nat → Nat → Nat) (sc : Nat → Nat → ClassId) (spf : Nat → Nat → Int32) (sdf : Nat → Nat → Int32) (slf : Nat → Nat → Int32) (srf : Nat → Nat → Int32) (sga : Nat → Nat → Option Nat) (sgb : Nat → Nat → Option Nat) (rows : va_W) (m0 : Nat) (a : Nat → Nat) (ca : Nat → ClassId) (o0 : Nat) (d : Nat) (hq1 : xs 1 = (nI d)) (hd : d ≤ 219145) (hw : ¬ (-600 ≤ (xs 2).toInt ∧ (xs 2).toInt ≤ 600)) {H : Heap} {locs : List Loc} {ls : Array Slot} (hK : va_K (dC, dI) vwCl [] s) (hP : va_P (dC, dI) vwCl [(x0, .inr (7, [.ref (b 0), .ref (b 1), .ref (b 2), .ref (b 3), .ref (b 4), .ref (b 5), .ref (b 6), .ref (b 7), .ref (b 8), .ref (b 9), .int 1])), (m0, .inr (8, [.int 0, .int 0, .int 0, .int 0, .ref (a 4), .int 0, .int 0, .int 0, .int 0, .int 0, .int 0, .long 0, .int 0, .int 0, .int 0, .int 0, .int 0, .int 0, .ref (a 18), .ref (a 19), .ref (a 20), .ref (a 21), .ref (a 22), .ref (a 23), .ref (a 24), .ref (a 25), .ref (a 26), .ref (a 27), .ref (a 28), .ref (a 29), .ref (a 30), .ref (a 31), .ref (a 32), .ref (a 33), .ref (a 34), .ref (a 35), .long 0, .int 0, .ref (a 38), .ref (a 39), .int 0, .ref (a 41), .ref (a 42), .ref (a 43)]))] H) (hD : va_D (fun q : Nat => s.heap.size ≤ q) [(x0, .inr (7, [.ref (b 0), .ref (b 1), .ref (b 2), .ref (b 3), .ref (b 4), .ref (b 5), .ref (b 6), .ref (b 7), .ref (b 8), .ref (b 9), .int 1])), (m0, .inr (8, [.int 0, .int 0, .int 0, .int 0, .ref (a 4), .int 0, .int 0, .int 0, .int 0, .int 0, .int 0, .long 0, .int 0, .int 0, .int 0, .int 0, .int 0, .int 0, .ref (a 18), .ref (a 19), .ref (a 20), .ref (a 21), .ref (a 22), .ref (a 23), .ref (a 24), .ref (a 25), .ref (a 26), .ref (a 27), .ref (a 28), .ref (a 29), .ref (a 30), .ref (a 31), .ref (a 32), .ref (a 33), .ref (a 34), .ref (a 35), .long 0, .int 0, .ref (a 38), .ref (a 39), .int 0, .ref (a 41), .ref (a 42), .ref (a 43)]))]) (hS : va_S (fun q : Nat => s.heap.size ≤ q) s.heap H locs) (hE : Ev g (fun q : Nat => s.heap.size ≤ q) s) (hl : lv_has ls 7 [(4, .int 0), (3, .ref o0), (2, .ref m0), (1, .ref x0), (0, .ref b0)]) : W p l e room_1 s m #[Value.ref b0] below meth c H locs 243 7586 (lw_Z below #[Value.ref b0] s) (F0 m 352 ls []) := by
  obtain ⟨hx, hb, hr, hml, hown, hts0, hX, hbl, hlocks, hgv⟩ := id C0
  have hts := fun (w : Cond) (h : w ∈ TBL) => hts0 w (TBin w h)
  have hown : s.vm.findClass RL = some m.cls := hown
  have hN := hE.1
  have hA : ∀ q : Nat, s.heap.size ≤ q → (fun q : Nat => s.heap.size ≤ q) q := fun _ h => h
  have hbA : ¬ (fun q : Nat => s.heap.size ≤ q) b0 := Nat.not_le.mpr hbl
  generalize hAe : (fun q : Nat => s.heap.size ≤ q) = A at hD hS hE hA hbA
  refine lv_aload_n hx hb dL_law_352 rfl (lv_at hl 3 rfl) ?_
  refine lv_aload_n hx hb dL_law_353 rfl (lv_at hl 4 rfl) ?_
  refine lv_iload hx hb dL_law_354 (lv_at hl 0 rfl) ?_
  refine lv_iconst (v := 1) hx hb dL_law_356 (by decide) ?_
  refine lv_iadd hx hb dL_law_357 ?_
  refine cst (v := 1) (by decide) ?_
  refine va_sld hx hb hX hbl hbA hS (vin0 (by decide)) dL_law_358 ?_
  refine cst (v := (nI d)) ((congrArg xs (show (1 : Int32).toNatClampNeg = 1 by decide)).trans hq1) ?_
  refine lv_aload_n hx hb dL_law_359 rfl (lv_at hl 4 rfl) ?_
  refine lv_iload hx hb dL_law_360 (lv_at hl 0 rfl) ?_
  refine lv_iconst (v := 2) hx hb dL_law_362 (by decide) ?_
  refine lv_iadd hx hb dL_law_363 ?_
  refine cst (v := 2) (by decide) ?_
  refine va_sld hx hb hX hbl hbA hS (vin0 (by decide)) dL_law_364 ?_
  refine cst (v := (xs 2)) (congrArg xs (show (2 : Int32).toNatClampNeg = 2 by decide)) ?_
  have hPc := hP.sub (ws' := []) [] rfl
  have hKc := hK.sub (tys' := []) [] rfl
  refine vp_callSi ((va_runV (As := [.int (nI d), .int (xs 2)]) (rest := []) ⟨hx, hb, hml, hown, hts⟩ (c_8plus_W l dC dI g (x0) (d) ((xs 2)) hd hw) (cwV 2 hts (gwV qw_430 qw_431 qw_432 qw_69 qw_429) rfl rfl rfl (by decide +kernel) ⟨Nat.le_of_ble_eq_true rfl, Nat.le_of_ble_eq_true rfl⟩) ⟨fun a U g9 mk q => ⟨q.1, q.2.1, va_K.moved (u := U) (U := U.calling g9 mk a) (Vm.Alike.refl U.vm) q.2.2.1, Ev.bl q.2.2.2⟩, va_recv hK hP (ci := 7) (q0 := 0) rfl rfl, fun U hU hW => ⟨rfl, by rw [hU]; exact hPc, va_K.moved hW.alike hKc, hE.go hS (fun _ h => h.elim) hU hW⟩⟩ rfl rfl hl.1 rfl (lv_room (Nat.le_of_ble_eq_true rfl)) dL_law_365 ⟨Nat.le_of_ble_eq_true rfl, Nat.le_of_ble_eq_true rfl⟩)).run (fun r1 h_r1 => ?_)
  have h_r1 : r1 = (-1) := h_r1
  subst h_r1
  refine lv_aload_n hx hb dL_law_368 rfl (lv_at hl 2 rfl) ?_
  refine lv_aload_n hx hb dL_law_369 rfl (lv_at hl 4 rfl) ?_
  refine lv_iload hx hb dL_law_370 (lv_at hl 0 rfl) ?_
  refine lv_iconst (v := 1) hx hb dL_law_372 (by decide) ?_
  refine lv_iadd hx hb dL_law_373 ?_
  refine cst (v := 1) (by decide) ?_
  refine va_sld hx hb hX hbl hbA hS (vin0 (by decide)) dL_law_374 ?_
  refine cst (v := (nI d)) ((congrArg xs (show (1 : Int32).toNatClampNeg = 1 by decide)).trans hq1) ?_
  refine lv_aload_n hx hb dL_law_375 rfl (lv_at hl 4 rfl) ?_
  refine lv_iload hx hb dL_law_376 (lv_at hl 0 rfl) ?_
  refine lv_iconst (v := 2) hx hb dL_law_378 (by decide) ?_
  refine lv_iadd hx hb dL_law_379 ?_
  refine cst (v := 2) (by decide) ?_
  refine va_sld hx hb hX hbl hbA hS (vin0 (by decide)) dL_law_380 ?_
  refine cst (v := (xs 2)) (congrArg xs (show (2 : Int32).toNatClampNeg = 2 by decide)) ?_
  have hPc := hP.sub (ws' := [(m0, .inr (8, [.int 0, .int 0, .int 0, .int 0, .ref (a 4), .int 0, .int 0, .int 0, .int 0, .int 0, .int 0, .long 0, .int 0, .int 0, .int 0, .int 0, .int 0, .int 0, .ref (a 18), .ref (a 19), .ref (a 20), .ref (a 21), .ref (a 22), .ref (a 23), .ref (a 24), .ref (a 25), .ref (a 26), .ref (a 27), .ref (a 28), .ref (a 29), .ref (a 30), .ref (a 31), .ref (a 32), .ref (a 33), .ref (a 34), .ref (a 35), .long 0, .int 0, .ref (a 38), .ref (a 39), .int 0, .ref (a 41), .ref (a 42), .ref (a 43)]))]) [1] rfl
  have hKc := hK.sub (tys' := []) [] rfl
  have hDc := hD.sub (ws' := [(m0, .inr (8, [.int 0, .int 0, .int 0, .int 0, .ref (a 4), .int 0, .int 0, .int 0, .int 0, .int 0, .int 0, .long 0, .int 0, .int 0, .int 0, .int 0, .int 0, .int 0, .ref (a 18), .ref (a 19), .ref (a 20), .ref (a 21), .ref (a 22), .ref (a 23), .ref (a 24), .ref (a 25), .ref (a 26), .ref (a 27), .ref (a 28), .ref (a 29), .ref (a 30), .ref (a 31), .ref (a 32), .ref (a 33), .ref (a 34), .ref (a 35), .long 0, .int 0, .ref (a 38), .ref (a 39), .int 0, .ref (a 41), .ref (a 42), .ref (a 43)]))]) [1] (by decide) rfl
  have hFc := va_free (wc := [(m0, .inr (8, [.int 0, .int 0, .int 0, .int 0, .ref (a 4), .int 0, .int 0, .int 0, .int 0, .int 0, .int 0, .long 0, .int 0, .int 0, .int 0, .int 0, .int 0, .int 0, .ref (a 18), .ref (a 19), .ref (a 20), .ref (a 21), .ref (a 22), .ref (a 23), .ref (a 24), .ref (a 25), .ref (a 26), .ref (a 27), .ref (a 28), .ref (a 29), .ref (a 30), .ref (a 31), .ref (a 32), .ref (a 33), .ref (a 34), .ref (a 35), .long 0, .int 0, .ref (a 38), .ref (a 39), .int 0, .ref (a 41), .ref (a 42), .ref (a 43)]))]) hD hS hA [1] rfl
  refine va_calli (va_runV (As := [.int (nI d), .int (xs 2)]) (rest := [.int (-1)]) ⟨hx, hb, hml, hown, hts⟩ (c_9plus_W l dC dI g H.size (m0) (a) (d) ((xs 2)) hd hw) (cwV 2 hts (gwV qw_434 qw_435 qw_436 qw_23 qw_433) rfl rfl rfl (by decide +kernel) ⟨Nat.le_of_ble_eq_true rfl, Nat.le_of_ble_eq_true rfl⟩) ⟨fun a U g9 mk q => ⟨q.1, q.2.1, q.2.2.1, va_K.moved (u := U) (U := U.calling g9 mk a) (Vm.Alike.refl U.vm) q.2.2.2.1, q.2.2.2.2.1, Ev.bl q.2.2.2.2.2⟩, va_recv hK hP (ci := 8) (q0 := 1) rfl rfl, fun U hU hW => ⟨rfl, by rw [hU], by rw [hU]; exact hPc, va_K.moved hW.alike hKc, hDc.weaken (fun _ _ _ _ => trivial), hE.go hS hFc hU hW⟩⟩ rfl rfl hl.1 rfl (lv_room (Nat.le_of_ble_eq_true rfl)) dL_law_381 ⟨Nat.le_of_ble_eq_true rfl, Nat.le_of_ble_eq_true rfl⟩) hS (fun q _ h => hFc q h) hFc (fun r3 u2 t H1 locs ht hvm h_u2 hB hz1 hk1 hS => ?_)
  obtain ⟨hP, hD⟩ := va_join (wr := [(x0, .inr (7, [.ref (b 0), .ref (b 1), .ref (b 2), .ref (b 3), .ref (b 4), .ref (b 5), .ref (b 6), .ref (b 7), .ref (b 8), .ref (b 9), .int 1]))]) (w1 := []) hP hD [1] [0] rfl rfl (by decide) (by decide) hk1 hFc va_P0 va_D0
  generalize H1 = H at hP hS ⊢
  have hP : va_P (dC, dI) vwCl [(x0, .inr (7, [.ref (b 0), .ref (b 1), .ref (b 2), .ref (b 3), .ref (b 4), .ref (b 5), .ref (b 6), .ref (b 7), .ref (b 8), .ref (b 9), .int 1]))] H := hP
  have hD : va_D A [(x0, .inr (7, [.ref (b 0), .ref (b 1), .ref (b 2), .ref (b 3), .ref (b 4), .ref (b 5), .ref (b 6), .ref (b 7), .ref (b 8), .ref (b 9), .int 1]))] := hD
  refine W.widen (k := 243) (n := 7586) (Nat.le_of_ble_eq_true rfl) (Nat.le_of_ble_eq_true rfl) ?_
  have h_u2 : r3 = (-1) := h_u2
  subst h_u2
  refine lv_icmp_eq (tgt := 1311) hx hb dL_law_384 (by decide) (fun c384_4 => ?_) (fun c384_4 => by exfalso; exact absurd c384_4 (by decide))
  refine lv_iinc (v := 6) (lv' := [(4, .int 6), (3, .ref o0), (2, .ref m0), (1, .ref x0), (0, .ref b0)]) hx hb dL_law_1311 hl (k := 0) rfl (by decide) (by decide) rfl (fun ls hl => ?_)
  refine lv_goto (tgt := 23) hx hb dL_law_1314 (by decide) ?_
  refine lv_iload hx hb dL_law_23 (lv_at hl 0 rfl) ?_
  refine lv_aload_n hx hb dL_law_25 rfl (lv_at hl 4 rfl) ?_
  refine va_slen hx hb hX hbl hbA hS dL_law_26 ?_
  refine cst (v := 6) (by decide) ?_
  refine lv_bipush (v := 6) hx hb dL_law_27 (by decide) ?_
  refine lv_isub hx hb dL_law_29 ?_
  refine cst (v := 0) (by decide) ?_
  refine lv_icmp_gt (tgt := 1317) hx hb dL_law_30 (by decide) (fun c30_5 => ?_) (fun c30_5 => by exfalso; exact absurd c30_5 (by decide))
  refine lv_iconst (v := 1) hx hb dL_law_1317 (by decide) ?_
  refine va_forget (fun q h => by have h8 := hS.2.2 q h; rw [← hAe] at h8; exact h8) ?_
  refine W.widen (k := 600002) (n := 7302232) (Nat.le_of_ble_eq_true rfl) (Nat.le_of_ble_eq_true rfl) ?_
  exact lw_ret hx hb hr hlocks dL_law_1318
set_option maxHeartbeats 4000000 in
set_option maxRecDepth 100000 in
theorem law_4L {p : Program} {e : Env} {s : State} {m : MethodId} {below : List Frame} {meth : Method} {c : Code} (l : Launch) {b0 : Nat} {xs : Nat → Int32} (C0 : lw_At p s m meth c b0 6 xs) (dC : Nat → ClassId) (dI : Nat → Nat → Nat) (g : Gv) (x0 : Nat) (b : Nat → Nat) (f4 : Nat → Nat) (c4 : ClassId) (f5 : Nat → Nat) (f7 : Nat → Nat) (f6 : Nat → Nat) (f2 : Nat → Nat) (cK : ClassId) (kf : Nat → Option Nat) (cZ : ClassId) (fT : Nat → Nat) (fU : Nat → Nat) (sa : Nat → Nat) (sf : Nat → Nat → Nat) (sc : Nat → Nat → ClassId) (spf : Nat → Nat → Int32) (sdf : Nat → Nat → Int32) (slf : Nat → Nat → Int32) (srf : Nat → Nat → Int32) (sga : Nat → Nat → Option Nat) (sgb : Nat → Nat → Option Nat) (rows : va_W) (m0 : Nat) (a : Nat → Nat) (ca : Nat → ClassId) (o0 : Nat)  (hq1 : xs 1 = (nI 219145)) (hn : -600 ≤ (xs 2).toInt ∧ (xs 2).toInt ≤ 600) {H : Heap} {locs : List Loc} {ls : Array Slot} (hK : va_K (dC, dI) vwCl [] s) (hP : va_P (dC, dI) vwCl [(x0, .inr (7, [.ref (b 0), .ref (b 1), .ref (b 2), .ref (b 3), .ref (b 4), .ref (b 5), .ref (b 6), .ref (b 7), .ref (b 8), .ref (b 9), .int 1])), (m0, .inr (8, [.int 0, .int 0, .int 0, .int 0, .ref (a 4), .int 0, .int 0, .int 0, .int 0, .int 0, .int 0, .long 0, .int 0, .int 0, .int 0, .int 0, .int 0, .int 0, .ref (a 18), .ref (a 19), .ref (a 20), .ref (a 21), .ref (a 22), .ref (a 23), .ref (a 24), .ref (a 25), .ref (a 26), .ref (a 27), .ref (a 28), .ref (a 29), .ref (a 30), .ref (a 31), .ref (a 32), .ref (a 33), .ref (a 34), .ref (a 35), .long 0, .int 0, .ref (a 38), .ref (a 39), .int 0, .ref (a 41), .ref (a 42), .ref (a 43)]))] H) (hD : va_D (fun q : Nat => s.heap.size ≤ q) [(x0, .inr (7, [.ref (b 0), .ref (b 1), .ref (b 2), .ref (b 3), .ref (b 4), .ref (b 5), .ref (b 6), .ref (b 7), .ref (b 8), .ref (b 9), .int 1])), (m0, .inr (8, [.int 0, .int 0, .int 0, .int 0, .ref (a 4), .int 0, .int 0, .int 0, .int 0, .int 0, .int 0, .long 0, .int 0, .int 0, .int 0, .int 0, .int 0, .int 0, .ref (a 18), .ref (a 19), .ref (a 20), .ref (a 21), .ref (a 22), .ref (a 23), .ref (a 24), .ref (a 25), .ref (a 26), .ref (a 27), .ref (a 28), .ref (a 29), .ref (a 30), .ref (a 31), .ref (a 32), .ref (a 33), .ref (a 34), .ref (a 35), .long 0, .int 0, .ref (a 38), .ref (a 39), .int 0, .ref (a 41), .ref (a 42), .ref (a 43)]))]) (hS : va_S (fun q : Nat => s.heap.size ≤ q) s.heap H locs) (hE : Ev g (fun q : Nat => s.heap.size ≤ q) s) (hl : lv_has ls 7 [(4, .int 0), (3, .ref o0), (2, .ref m0), (1, .ref x0), (0, .ref b0)]) : W p l e room_1 s m #[Value.ref b0] below meth c H locs 243 7586 (lw_Z below #[Value.ref b0] s) (F0 m 352 ls []) := by
  obtain ⟨hx, hb, hr, hml, hown, hts0, hX, hbl, hlocks, hgv⟩ := id C0
  have hts := fun (w : Cond) (h : w ∈ TBL) => hts0 w (TBin w h)
  have hown : s.vm.findClass RL = some m.cls := hown
  have hN := hE.1
  have hA : ∀ q : Nat, s.heap.size ≤ q → (fun q : Nat => s.heap.size ≤ q) q := fun _ h => h
  have hbA : ¬ (fun q : Nat => s.heap.size ≤ q) b0 := Nat.not_le.mpr hbl
  generalize hAe : (fun q : Nat => s.heap.size ≤ q) = A at hD hS hE hA hbA
  refine lv_aload_n hx hb dL_law_352 rfl (lv_at hl 3 rfl) ?_
  refine lv_aload_n hx hb dL_law_353 rfl (lv_at hl 4 rfl) ?_
  refine lv_iload hx hb dL_law_354 (lv_at hl 0 rfl) ?_
  refine lv_iconst (v := 1) hx hb dL_law_356 (by decide) ?_
  refine lv_iadd hx hb dL_law_357 ?_
  refine cst (v := 1) (by decide) ?_
  refine va_sld hx hb hX hbl hbA hS (vin0 (by decide)) dL_law_358 ?_
  refine cst (v := (nI 219145)) ((congrArg xs (show (1 : Int32).toNatClampNeg = 1 by decide)).trans hq1) ?_
  refine lv_aload_n hx hb dL_law_359 rfl (lv_at hl 4 rfl) ?_
  refine lv_iload hx hb dL_law_360 (lv_at hl 0 rfl) ?_
  refine lv_iconst (v := 2) hx hb dL_law_362 (by decide) ?_
  refine lv_iadd hx hb dL_law_363 ?_
  refine cst (v := 2) (by decide) ?_
  refine va_sld hx hb hX hbl hbA hS (vin0 (by decide)) dL_law_364 ?_
  refine cst (v := (xs 2)) (congrArg xs (show (2 : Int32).toNatClampNeg = 2 by decide)) ?_
  have hPc := hP.sub (ws' := []) [] rfl
  have hKc := hK.sub (tys' := []) [] rfl
  refine vp_callSi ((va_runV (As := [.int (nI 219145), .int (xs 2)]) (rest := []) ⟨hx, hb, hml, hown, hts⟩ (c_8plus_L l dC dI g (x0) ((xs 2)) hn) (cwV 2 hts (gwV qw_430 qw_431 qw_432 qw_69 qw_429) rfl rfl rfl (by decide +kernel) ⟨Nat.le_of_ble_eq_true rfl, Nat.le_of_ble_eq_true rfl⟩) ⟨fun a U g9 mk q => ⟨q.1, q.2.1, va_K.moved (u := U) (U := U.calling g9 mk a) (Vm.Alike.refl U.vm) q.2.2.1, Ev.bl q.2.2.2⟩, va_recv hK hP (ci := 7) (q0 := 0) rfl rfl, fun U hU hW => ⟨rfl, by rw [hU]; exact hPc, va_K.moved hW.alike hKc, hE.go hS (fun _ h => h.elim) hU hW⟩⟩ rfl rfl hl.1 rfl (lv_room (Nat.le_of_ble_eq_true rfl)) dL_law_365 ⟨Nat.le_of_ble_eq_true rfl, Nat.le_of_ble_eq_true rfl⟩)).run (fun r1 h_r1 => ?_)
  have h_r1 : r1 = nI (219145) := h_r1
  subst h_r1
  refine lv_aload_n hx hb dL_law_368 rfl (lv_at hl 2 rfl) ?_
  refine lv_aload_n hx hb dL_law_369 rfl (lv_at hl 4 rfl) ?_
  refine lv_iload hx hb dL_law_370 (lv_at hl 0 rfl) ?_
  refine lv_iconst (v := 1) hx hb dL_law_372 (by decide) ?_
  refine lv_iadd hx hb dL_law_373 ?_
  refine cst (v := 1) (by decide) ?_
  refine va_sld hx hb hX hbl hbA hS (vin0 (by decide)) dL_law_374 ?_
  refine cst (v := (nI 219145)) ((congrArg xs (show (1 : Int32).toNatClampNeg = 1 by decide)).trans hq1) ?_
  refine lv_aload_n hx hb dL_law_375 rfl (lv_at hl 4 rfl) ?_
  refine lv_iload hx hb dL_law_376 (lv_at hl 0 rfl) ?_
  refine lv_iconst (v := 2) hx hb dL_law_378 (by decide) ?_
  refine lv_iadd hx hb dL_law_379 ?_
  refine cst (v := 2) (by decide) ?_
  refine va_sld hx hb hX hbl hbA hS (vin0 (by decide)) dL_law_380 ?_
  refine cst (v := (xs 2)) (congrArg xs (show (2 : Int32).toNatClampNeg = 2 by decide)) ?_
  have hPc := hP.sub (ws' := [(m0, .inr (8, [.int 0, .int 0, .int 0, .int 0, .ref (a 4), .int 0, .int 0, .int 0, .int 0, .int 0, .int 0, .long 0, .int 0, .int 0, .int 0, .int 0, .int 0, .int 0, .ref (a 18), .ref (a 19), .ref (a 20), .ref (a 21), .ref (a 22), .ref (a 23), .ref (a 24), .ref (a 25), .ref (a 26), .ref (a 27), .ref (a 28), .ref (a 29), .ref (a 30), .ref (a 31), .ref (a 32), .ref (a 33), .ref (a 34), .ref (a 35), .long 0, .int 0, .ref (a 38), .ref (a 39), .int 0, .ref (a 41), .ref (a 42), .ref (a 43)]))]) [1] rfl
  have hKc := hK.sub (tys' := []) [] rfl
  have hDc := hD.sub (ws' := [(m0, .inr (8, [.int 0, .int 0, .int 0, .int 0, .ref (a 4), .int 0, .int 0, .int 0, .int 0, .int 0, .int 0, .long 0, .int 0, .int 0, .int 0, .int 0, .int 0, .int 0, .ref (a 18), .ref (a 19), .ref (a 20), .ref (a 21), .ref (a 22), .ref (a 23), .ref (a 24), .ref (a 25), .ref (a 26), .ref (a 27), .ref (a 28), .ref (a 29), .ref (a 30), .ref (a 31), .ref (a 32), .ref (a 33), .ref (a 34), .ref (a 35), .long 0, .int 0, .ref (a 38), .ref (a 39), .int 0, .ref (a 41), .ref (a 42), .ref (a 43)]))]) [1] (by decide) rfl
  have hFc := va_free (wc := [(m0, .inr (8, [.int 0, .int 0, .int 0, .int 0, .ref (a 4), .int 0, .int 0, .int 0, .int 0, .int 0, .int 0, .long 0, .int 0, .int 0, .int 0, .int 0, .int 0, .int 0, .ref (a 18), .ref (a 19), .ref (a 20), .ref (a 21), .ref (a 22), .ref (a 23), .ref (a 24), .ref (a 25), .ref (a 26), .ref (a 27), .ref (a 28), .ref (a 29), .ref (a 30), .ref (a 31), .ref (a 32), .ref (a 33), .ref (a 34), .ref (a 35), .long 0, .int 0, .ref (a 38), .ref (a 39), .int 0, .ref (a 41), .ref (a 42), .ref (a 43)]))]) hD hS hA [1] rfl
  refine va_calli (va_runV (As := [.int (nI 219145), .int (xs 2)]) (rest := [.int (nI 219145)]) ⟨hx, hb, hml, hown, hts⟩ (c_9plus_L l dC dI g H.size (m0) (a) ((xs 2)) hn) (cwV 2 hts (gwV qw_434 qw_435 qw_436 qw_23 qw_433) rfl rfl rfl (by decide +kernel) ⟨Nat.le_of_ble_eq_true rfl, Nat.le_of_ble_eq_true rfl⟩) ⟨fun a U g9 mk q => ⟨q.1, q.2.1, q.2.2.1, va_K.moved (u := U) (U := U.calling g9 mk a) (Vm.Alike.refl U.vm) q.2.2.2.1, q.2.2.2.2.1, Ev.bl q.2.2.2.2.2⟩, va_recv hK hP (ci := 8) (q0 := 1) rfl rfl, fun U hU hW => ⟨rfl, by rw [hU], by rw [hU]; exact hPc, va_K.moved hW.alike hKc, hDc.weaken (fun _ _ _ _ => trivial), hE.go hS hFc hU hW⟩⟩ rfl rfl hl.1 rfl (lv_room (Nat.le_of_ble_eq_true rfl)) dL_law_381 ⟨Nat.le_of_ble_eq_true rfl, Nat.le_of_ble_eq_true rfl⟩) hS (fun q _ h => hFc q h) hFc (fun r3 u2 t H1 locs ht hvm h_u2 hB hz1 hk1 hS => ?_)
  obtain ⟨hP, hD⟩ := va_join (wr := [(x0, .inr (7, [.ref (b 0), .ref (b 1), .ref (b 2), .ref (b 3), .ref (b 4), .ref (b 5), .ref (b 6), .ref (b 7), .ref (b 8), .ref (b 9), .int 1]))]) (w1 := []) hP hD [1] [0] rfl rfl (by decide) (by decide) hk1 hFc va_P0 va_D0
  generalize H1 = H at hP hS ⊢
  have hP : va_P (dC, dI) vwCl [(x0, .inr (7, [.ref (b 0), .ref (b 1), .ref (b 2), .ref (b 3), .ref (b 4), .ref (b 5), .ref (b 6), .ref (b 7), .ref (b 8), .ref (b 9), .int 1]))] H := hP
  have hD : va_D A [(x0, .inr (7, [.ref (b 0), .ref (b 1), .ref (b 2), .ref (b 3), .ref (b 4), .ref (b 5), .ref (b 6), .ref (b 7), .ref (b 8), .ref (b 9), .int 1]))] := hD
  refine W.widen (k := 243) (n := 7586) (Nat.le_of_ble_eq_true rfl) (Nat.le_of_ble_eq_true rfl) ?_
  have h_u2 : r3 = nI (219145) := h_u2
  subst h_u2
  refine lv_icmp_eq (tgt := 1311) hx hb dL_law_384 (by decide) (fun _ => ?_) (fun h9 => absurd rfl h9)
  refine lv_iinc (v := 6) (lv' := [(4, .int 6), (3, .ref o0), (2, .ref m0), (1, .ref x0), (0, .ref b0)]) hx hb dL_law_1311 hl (k := 0) rfl (by decide) (by decide) rfl (fun ls hl => ?_)
  refine lv_goto (tgt := 23) hx hb dL_law_1314 (by decide) ?_
  refine lv_iload hx hb dL_law_23 (lv_at hl 0 rfl) ?_
  refine lv_aload_n hx hb dL_law_25 rfl (lv_at hl 4 rfl) ?_
  refine va_slen hx hb hX hbl hbA hS dL_law_26 ?_
  refine cst (v := 6) (by decide) ?_
  refine lv_bipush (v := 6) hx hb dL_law_27 (by decide) ?_
  refine lv_isub hx hb dL_law_29 ?_
  refine cst (v := 0) (by decide) ?_
  refine lv_icmp_gt (tgt := 1317) hx hb dL_law_30 (by decide) (fun c30_4 => ?_) (fun c30_4 => by exfalso; exact absurd c30_4 (by decide))
  refine lv_iconst (v := 1) hx hb dL_law_1317 (by decide) ?_
  refine va_forget (fun q h => by have h8 := hS.2.2 q h; rw [← hAe] at h8; exact h8) ?_
  refine W.widen (k := 600002) (n := 7302232) (Nat.le_of_ble_eq_true rfl) (Nat.le_of_ble_eq_true rfl) ?_
  exact lw_ret hx hb hr hlocks dL_law_1318
set_option maxHeartbeats 4000000 in
set_option maxRecDepth 100000 in
theorem law_4A {p : Program} {e : Env} {s : State} {m : MethodId} {below : List Frame} {meth : Method} {c : Code} (l : Launch) {b0 : Nat} {xs : Nat → Int32} (C0 : lw_At p s m meth c b0 6 xs) (dC : Nat → ClassId) (dI : Nat → Nat → Nat) (g : Gv) (x0 : Nat) (b : Nat → Nat) (f4 : Nat → Nat) (c4 : ClassId) (f5 : Nat → Nat) (f7 : Nat → Nat) (f6 : Nat → Nat) (f2 : Nat → Nat) (cK : ClassId) (kf : Nat → Option Nat) (cZ : ClassId) (fT : Nat → Nat) (fU : Nat → Nat) (sa : Nat → Nat) (sf : Nat → Nat → Nat) (sc : Nat → Nat → ClassId) (spf : Nat → Nat → Int32) (sdf : Nat → Nat → Int32) (slf : Nat → Nat → Int32) (srf : Nat → Nat → Int32) (sga : Nat → Nat → Option Nat) (sgb : Nat → Nat → Option Nat) (rows : va_W) (m0 : Nat) (a : Nat → Nat) (ca : Nat → ClassId) (o0 : Nat) (d : Nat) (k : Nat) (mo : Nat) (dd : Nat) (hq1 : xs 1 = (nI d)) (hk : k < 600) (hm1 : 1 ≤ mo) (hm2 : mo ≤ 12) (hd1 : 1 ≤ dd) (hd2 : dd ≤ mlN (1700 + k) mo) (hd : d = Fk k + Mk (1700 + k) mo + (dd - 1)) (hn : -600 ≤ (xs 2).toInt ∧ (xs 2).toInt ≤ 600) (hc : ((k : Nat) : Int) + (xs 2).toInt < 0) {H : Heap} {locs : List Loc} {ls : Array Slot} (hK : va_K (dC, dI) vwCl [] s) (hP : va_P (dC, dI) vwCl [(x0, .inr (7, [.ref (b 0), .ref (b 1), .ref (b 2), .ref (b 3), .ref (b 4), .ref (b 5), .ref (b 6), .ref (b 7), .ref (b 8), .ref (b 9), .int 1])), (m0, .inr (8, [.int 0, .int 0, .int 0, .int 0, .ref (a 4), .int 0, .int 0, .int 0, .int 0, .int 0, .int 0, .long 0, .int 0, .int 0, .int 0, .int 0, .int 0, .int 0, .ref (a 18), .ref (a 19), .ref (a 20), .ref (a 21), .ref (a 22), .ref (a 23), .ref (a 24), .ref (a 25), .ref (a 26), .ref (a 27), .ref (a 28), .ref (a 29), .ref (a 30), .ref (a 31), .ref (a 32), .ref (a 33), .ref (a 34), .ref (a 35), .long 0, .int 0, .ref (a 38), .ref (a 39), .int 0, .ref (a 41), .ref (a 42), .ref (a 43)]))] H) (hD : va_D (fun q : Nat => s.heap.size ≤ q) [(x0, .inr (7, [.ref (b 0), .ref (b 1), .ref (b 2), .ref (b 3), .ref (b 4), .ref (b 5), .ref (b 6), .ref (b 7), .ref (b 8), .ref (b 9), .int 1])), (m0, .inr (8, [.int 0, .int 0, .int 0, .int 0, .ref (a 4), .int 0, .int 0, .int 0, .int 0, .int 0, .int 0, .long 0, .int 0, .int 0, .int 0, .int 0, .int 0, .int 0, .ref (a 18), .ref (a 19), .ref (a 20), .ref (a 21), .ref (a 22), .ref (a 23), .ref (a 24), .ref (a 25), .ref (a 26), .ref (a 27), .ref (a 28), .ref (a 29), .ref (a 30), .ref (a 31), .ref (a 32), .ref (a 33), .ref (a 34), .ref (a 35), .long 0, .int 0, .ref (a 38), .ref (a 39), .int 0, .ref (a 41), .ref (a 42), .ref (a 43)]))]) (hS : va_S (fun q : Nat => s.heap.size ≤ q) s.heap H locs) (hE : Ev g (fun q : Nat => s.heap.size ≤ q) s) (hl : lv_has ls 7 [(4, .int 0), (3, .ref o0), (2, .ref m0), (1, .ref x0), (0, .ref b0)]) : W p l e room_1 s m #[Value.ref b0] below meth c H locs 243 7586 (lw_Z below #[Value.ref b0] s) (F0 m 352 ls []) := by
  obtain ⟨hx, hb, hr, hml, hown, hts0, hX, hbl, hlocks, hgv⟩ := id C0
  have hts := fun (w : Cond) (h : w ∈ TBL) => hts0 w (TBin w h)
  have hown : s.vm.findClass RL = some m.cls := hown
  have hN := hE.1
  have hA : ∀ q : Nat, s.heap.size ≤ q → (fun q : Nat => s.heap.size ≤ q) q := fun _ h => h
  have hbA : ¬ (fun q : Nat => s.heap.size ≤ q) b0 := Nat.not_le.mpr hbl
  generalize hAe : (fun q : Nat => s.heap.size ≤ q) = A at hD hS hE hA hbA
  refine lv_aload_n hx hb dL_law_352 rfl (lv_at hl 3 rfl) ?_
  refine lv_aload_n hx hb dL_law_353 rfl (lv_at hl 4 rfl) ?_
  refine lv_iload hx hb dL_law_354 (lv_at hl 0 rfl) ?_
  refine lv_iconst (v := 1) hx hb dL_law_356 (by decide) ?_
  refine lv_iadd hx hb dL_law_357 ?_
  refine cst (v := 1) (by decide) ?_
  refine va_sld hx hb hX hbl hbA hS (vin0 (by decide)) dL_law_358 ?_
  refine cst (v := (nI d)) ((congrArg xs (show (1 : Int32).toNatClampNeg = 1 by decide)).trans hq1) ?_
  refine lv_aload_n hx hb dL_law_359 rfl (lv_at hl 4 rfl) ?_
  refine lv_iload hx hb dL_law_360 (lv_at hl 0 rfl) ?_
  refine lv_iconst (v := 2) hx hb dL_law_362 (by decide) ?_
  refine lv_iadd hx hb dL_law_363 ?_
  refine cst (v := 2) (by decide) ?_
  refine va_sld hx hb hX hbl hbA hS (vin0 (by decide)) dL_law_364 ?_
  refine cst (v := (xs 2)) (congrArg xs (show (2 : Int32).toNatClampNeg = 2 by decide)) ?_
  have hPc := hP.sub (ws' := []) [] rfl
  have hKc := hK.sub (tys' := []) [] rfl
  refine vp_callSi ((va_runV (As := [.int (nI d), .int (xs 2)]) (rest := []) ⟨hx, hb, hml, hown, hts⟩ (c_8plus_A l dC dI g (x0) (d) (k) (mo) (dd) ((xs 2)) hk hm1 hm2 hd1 hd2 hd hn hc) (cwV 2 hts (gwV qw_430 qw_431 qw_432 qw_69 qw_429) rfl rfl rfl (by decide +kernel) ⟨Nat.le_of_ble_eq_true rfl, Nat.le_of_ble_eq_true rfl⟩) ⟨fun a U g9 mk q => ⟨q.1, q.2.1, va_K.moved (u := U) (U := U.calling g9 mk a) (Vm.Alike.refl U.vm) q.2.2.1, Ev.bl q.2.2.2⟩, va_recv hK hP (ci := 7) (q0 := 0) rfl rfl, fun U hU hW => ⟨rfl, by rw [hU]; exact hPc, va_K.moved hW.alike hKc, hE.go hS (fun _ h => h.elim) hU hW⟩⟩ rfl rfl hl.1 rfl (lv_room (Nat.le_of_ble_eq_true rfl)) dL_law_365 ⟨Nat.le_of_ble_eq_true rfl, Nat.le_of_ble_eq_true rfl⟩)).run (fun r1 h_r1 => ?_)
  have h_r1 : r1 = nI (0) := h_r1
  subst h_r1
  refine lv_aload_n hx hb dL_law_368 rfl (lv_at hl 2 rfl) ?_
  refine lv_aload_n hx hb dL_law_369 rfl (lv_at hl 4 rfl) ?_
  refine lv_iload hx hb dL_law_370 (lv_at hl 0 rfl) ?_
  refine lv_iconst (v := 1) hx hb dL_law_372 (by decide) ?_
  refine lv_iadd hx hb dL_law_373 ?_
  refine cst (v := 1) (by decide) ?_
  refine va_sld hx hb hX hbl hbA hS (vin0 (by decide)) dL_law_374 ?_
  refine cst (v := (nI d)) ((congrArg xs (show (1 : Int32).toNatClampNeg = 1 by decide)).trans hq1) ?_
  refine lv_aload_n hx hb dL_law_375 rfl (lv_at hl 4 rfl) ?_
  refine lv_iload hx hb dL_law_376 (lv_at hl 0 rfl) ?_
  refine lv_iconst (v := 2) hx hb dL_law_378 (by decide) ?_
  refine lv_iadd hx hb dL_law_379 ?_
  refine cst (v := 2) (by decide) ?_
  refine va_sld hx hb hX hbl hbA hS (vin0 (by decide)) dL_law_380 ?_
  refine cst (v := (xs 2)) (congrArg xs (show (2 : Int32).toNatClampNeg = 2 by decide)) ?_
  have hPc := hP.sub (ws' := [(m0, .inr (8, [.int 0, .int 0, .int 0, .int 0, .ref (a 4), .int 0, .int 0, .int 0, .int 0, .int 0, .int 0, .long 0, .int 0, .int 0, .int 0, .int 0, .int 0, .int 0, .ref (a 18), .ref (a 19), .ref (a 20), .ref (a 21), .ref (a 22), .ref (a 23), .ref (a 24), .ref (a 25), .ref (a 26), .ref (a 27), .ref (a 28), .ref (a 29), .ref (a 30), .ref (a 31), .ref (a 32), .ref (a 33), .ref (a 34), .ref (a 35), .long 0, .int 0, .ref (a 38), .ref (a 39), .int 0, .ref (a 41), .ref (a 42), .ref (a 43)]))]) [1] rfl
  have hKc := hK.sub (tys' := []) [] rfl
  have hDc := hD.sub (ws' := [(m0, .inr (8, [.int 0, .int 0, .int 0, .int 0, .ref (a 4), .int 0, .int 0, .int 0, .int 0, .int 0, .int 0, .long 0, .int 0, .int 0, .int 0, .int 0, .int 0, .int 0, .ref (a 18), .ref (a 19), .ref (a 20), .ref (a 21), .ref (a 22), .ref (a 23), .ref (a 24), .ref (a 25), .ref (a 26), .ref (a 27), .ref (a 28), .ref (a 29), .ref (a 30), .ref (a 31), .ref (a 32), .ref (a 33), .ref (a 34), .ref (a 35), .long 0, .int 0, .ref (a 38), .ref (a 39), .int 0, .ref (a 41), .ref (a 42), .ref (a 43)]))]) [1] (by decide) rfl
  have hFc := va_free (wc := [(m0, .inr (8, [.int 0, .int 0, .int 0, .int 0, .ref (a 4), .int 0, .int 0, .int 0, .int 0, .int 0, .int 0, .long 0, .int 0, .int 0, .int 0, .int 0, .int 0, .int 0, .ref (a 18), .ref (a 19), .ref (a 20), .ref (a 21), .ref (a 22), .ref (a 23), .ref (a 24), .ref (a 25), .ref (a 26), .ref (a 27), .ref (a 28), .ref (a 29), .ref (a 30), .ref (a 31), .ref (a 32), .ref (a 33), .ref (a 34), .ref (a 35), .long 0, .int 0, .ref (a 38), .ref (a 39), .int 0, .ref (a 41), .ref (a 42), .ref (a 43)]))]) hD hS hA [1] rfl
  refine va_calli (va_runV (As := [.int (nI d), .int (xs 2)]) (rest := [.int (nI 0)]) ⟨hx, hb, hml, hown, hts⟩ (c_9plus_A l dC dI g H.size (m0) (a) (d) (k) (mo) (dd) ((xs 2)) hk hm1 hm2 hd1 hd2 hd hn hc) (cwV 2 hts (gwV qw_434 qw_435 qw_436 qw_23 qw_433) rfl rfl rfl (by decide +kernel) ⟨Nat.le_of_ble_eq_true rfl, Nat.le_of_ble_eq_true rfl⟩) ⟨fun a U g9 mk q => ⟨q.1, q.2.1, q.2.2.1, va_K.moved (u := U) (U := U.calling g9 mk a) (Vm.Alike.refl U.vm) q.2.2.2.1, q.2.2.2.2.1, Ev.bl q.2.2.2.2.2⟩, va_recv hK hP (ci := 8) (q0 := 1) rfl rfl, fun U hU hW => ⟨rfl, by rw [hU], by rw [hU]; exact hPc, va_K.moved hW.alike hKc, hDc.weaken (fun _ _ _ _ => trivial), hE.go hS hFc hU hW⟩⟩ rfl rfl hl.1 rfl (lv_room (Nat.le_of_ble_eq_true rfl)) dL_law_381 ⟨Nat.le_of_ble_eq_true rfl, Nat.le_of_ble_eq_true rfl⟩) hS (fun q _ h => hFc q h) hFc (fun r3 u2 t H1 locs ht hvm h_u2 hB hz1 hk1 hS => ?_)
  obtain ⟨hP, hD⟩ := va_join (wr := [(x0, .inr (7, [.ref (b 0), .ref (b 1), .ref (b 2), .ref (b 3), .ref (b 4), .ref (b 5), .ref (b 6), .ref (b 7), .ref (b 8), .ref (b 9), .int 1]))]) (w1 := []) hP hD [1] [0] rfl rfl (by decide) (by decide) hk1 hFc va_P0 va_D0
  generalize H1 = H at hP hS ⊢
  have hP : va_P (dC, dI) vwCl [(x0, .inr (7, [.ref (b 0), .ref (b 1), .ref (b 2), .ref (b 3), .ref (b 4), .ref (b 5), .ref (b 6), .ref (b 7), .ref (b 8), .ref (b 9), .int 1]))] H := hP
  have hD : va_D A [(x0, .inr (7, [.ref (b 0), .ref (b 1), .ref (b 2), .ref (b 3), .ref (b 4), .ref (b 5), .ref (b 6), .ref (b 7), .ref (b 8), .ref (b 9), .int 1]))] := hD
  refine W.widen (k := 243) (n := 7586) (Nat.le_of_ble_eq_true rfl) (Nat.le_of_ble_eq_true rfl) ?_
  have h_u2 : r3 = nI (0) := h_u2
  subst h_u2
  refine lv_icmp_eq (tgt := 1311) hx hb dL_law_384 (by decide) (fun _ => ?_) (fun h9 => absurd rfl h9)
  refine lv_iinc (v := 6) (lv' := [(4, .int 6), (3, .ref o0), (2, .ref m0), (1, .ref x0), (0, .ref b0)]) hx hb dL_law_1311 hl (k := 0) rfl (by decide) (by decide) rfl (fun ls hl => ?_)
  refine lv_goto (tgt := 23) hx hb dL_law_1314 (by decide) ?_
  refine lv_iload hx hb dL_law_23 (lv_at hl 0 rfl) ?_
  refine lv_aload_n hx hb dL_law_25 rfl (lv_at hl 4 rfl) ?_
  refine va_slen hx hb hX hbl hbA hS dL_law_26 ?_
  refine cst (v := 6) (by decide) ?_
  refine lv_bipush (v := 6) hx hb dL_law_27 (by decide) ?_
  refine lv_isub hx hb dL_law_29 ?_
  refine cst (v := 0) (by decide) ?_
  refine lv_icmp_gt (tgt := 1317) hx hb dL_law_30 (by decide) (fun c30_4 => ?_) (fun c30_4 => by exfalso; exact absurd c30_4 (by decide))
  refine lv_iconst (v := 1) hx hb dL_law_1317 (by decide) ?_
  refine va_forget (fun q h => by have h8 := hS.2.2 q h; rw [← hAe] at h8; exact h8) ?_
  refine W.widen (k := 600002) (n := 7302232) (Nat.le_of_ble_eq_true rfl) (Nat.le_of_ble_eq_true rfl) ?_
  exact lw_ret hx hb hr hlocks dL_law_1318
set_option maxHeartbeats 4000000 in
set_option maxRecDepth 100000 in
theorem law_4B {p : Program} {e : Env} {s : State} {m : MethodId} {below : List Frame} {meth : Method} {c : Code} (l : Launch) {b0 : Nat} {xs : Nat → Int32} (C0 : lw_At p s m meth c b0 6 xs) (dC : Nat → ClassId) (dI : Nat → Nat → Nat) (g : Gv) (x0 : Nat) (b : Nat → Nat) (f4 : Nat → Nat) (c4 : ClassId) (f5 : Nat → Nat) (f7 : Nat → Nat) (f6 : Nat → Nat) (f2 : Nat → Nat) (cK : ClassId) (kf : Nat → Option Nat) (cZ : ClassId) (fT : Nat → Nat) (fU : Nat → Nat) (sa : Nat → Nat) (sf : Nat → Nat → Nat) (sc : Nat → Nat → ClassId) (spf : Nat → Nat → Int32) (sdf : Nat → Nat → Int32) (slf : Nat → Nat → Int32) (srf : Nat → Nat → Int32) (sga : Nat → Nat → Option Nat) (sgb : Nat → Nat → Option Nat) (rows : va_W) (m0 : Nat) (a : Nat → Nat) (ca : Nat → ClassId) (o0 : Nat) (d : Nat) (k : Nat) (mo : Nat) (dd : Nat) (hq1 : xs 1 = (nI d)) (hk : k < 600) (hm1 : 1 ≤ mo) (hm2 : mo ≤ 12) (hd1 : 1 ≤ dd) (hd2 : dd ≤ mlN (1700 + k) mo) (hd : d = Fk k + Mk (1700 + k) mo + (dd - 1)) (hn : -600 ≤ (xs 2).toInt ∧ (xs 2).toInt ≤ 600) (hc : 599 < ((k : Nat) : Int) + (xs 2).toInt) {H : Heap} {locs : List Loc} {ls : Array Slot} (hK : va_K (dC, dI) vwCl [] s) (hP : va_P (dC, dI) vwCl [(x0, .inr (7, [.ref (b 0), .ref (b 1), .ref (b 2), .ref (b 3), .ref (b 4), .ref (b 5), .ref (b 6), .ref (b 7), .ref (b 8), .ref (b 9), .int 1])), (m0, .inr (8, [.int 0, .int 0, .int 0, .int 0, .ref (a 4), .int 0, .int 0, .int 0, .int 0, .int 0, .int 0, .long 0, .int 0, .int 0, .int 0, .int 0, .int 0, .int 0, .ref (a 18), .ref (a 19), .ref (a 20), .ref (a 21), .ref (a 22), .ref (a 23), .ref (a 24), .ref (a 25), .ref (a 26), .ref (a 27), .ref (a 28), .ref (a 29), .ref (a 30), .ref (a 31), .ref (a 32), .ref (a 33), .ref (a 34), .ref (a 35), .long 0, .int 0, .ref (a 38), .ref (a 39), .int 0, .ref (a 41), .ref (a 42), .ref (a 43)]))] H) (hD : va_D (fun q : Nat => s.heap.size ≤ q) [(x0, .inr (7, [.ref (b 0), .ref (b 1), .ref (b 2), .ref (b 3), .ref (b 4), .ref (b 5), .ref (b 6), .ref (b 7), .ref (b 8), .ref (b 9), .int 1])), (m0, .inr (8, [.int 0, .int 0, .int 0, .int 0, .ref (a 4), .int 0, .int 0, .int 0, .int 0, .int 0, .int 0, .long 0, .int 0, .int 0, .int 0, .int 0, .int 0, .int 0, .ref (a 18), .ref (a 19), .ref (a 20), .ref (a 21), .ref (a 22), .ref (a 23), .ref (a 24), .ref (a 25), .ref (a 26), .ref (a 27), .ref (a 28), .ref (a 29), .ref (a 30), .ref (a 31), .ref (a 32), .ref (a 33), .ref (a 34), .ref (a 35), .long 0, .int 0, .ref (a 38), .ref (a 39), .int 0, .ref (a 41), .ref (a 42), .ref (a 43)]))]) (hS : va_S (fun q : Nat => s.heap.size ≤ q) s.heap H locs) (hE : Ev g (fun q : Nat => s.heap.size ≤ q) s) (hl : lv_has ls 7 [(4, .int 0), (3, .ref o0), (2, .ref m0), (1, .ref x0), (0, .ref b0)]) : W p l e room_1 s m #[Value.ref b0] below meth c H locs 243 7586 (lw_Z below #[Value.ref b0] s) (F0 m 352 ls []) := by
  obtain ⟨hx, hb, hr, hml, hown, hts0, hX, hbl, hlocks, hgv⟩ := id C0
  have hts := fun (w : Cond) (h : w ∈ TBL) => hts0 w (TBin w h)
  have hown : s.vm.findClass RL = some m.cls := hown
  have hN := hE.1
  have hA : ∀ q : Nat, s.heap.size ≤ q → (fun q : Nat => s.heap.size ≤ q) q := fun _ h => h
  have hbA : ¬ (fun q : Nat => s.heap.size ≤ q) b0 := Nat.not_le.mpr hbl
  generalize hAe : (fun q : Nat => s.heap.size ≤ q) = A at hD hS hE hA hbA
  refine lv_aload_n hx hb dL_law_352 rfl (lv_at hl 3 rfl) ?_
  refine lv_aload_n hx hb dL_law_353 rfl (lv_at hl 4 rfl) ?_
  refine lv_iload hx hb dL_law_354 (lv_at hl 0 rfl) ?_
  refine lv_iconst (v := 1) hx hb dL_law_356 (by decide) ?_
  refine lv_iadd hx hb dL_law_357 ?_
  refine cst (v := 1) (by decide) ?_
  refine va_sld hx hb hX hbl hbA hS (vin0 (by decide)) dL_law_358 ?_
  refine cst (v := (nI d)) ((congrArg xs (show (1 : Int32).toNatClampNeg = 1 by decide)).trans hq1) ?_
  refine lv_aload_n hx hb dL_law_359 rfl (lv_at hl 4 rfl) ?_
  refine lv_iload hx hb dL_law_360 (lv_at hl 0 rfl) ?_
  refine lv_iconst (v := 2) hx hb dL_law_362 (by decide) ?_
  refine lv_iadd hx hb dL_law_363 ?_
  refine cst (v := 2) (by decide) ?_
  refine va_sld hx hb hX hbl hbA hS (vin0 (by decide)) dL_law_364 ?_
  refine cst (v := (xs 2)) (congrArg xs (show (2 : Int32).toNatClampNeg = 2 by decide)) ?_
  have hPc := hP.sub (ws' := []) [] rfl
  have hKc := hK.sub (tys' := []) [] rfl
  refine vp_callSi ((va_runV (As := [.int (nI d), .int (xs 2)]) (rest := []) ⟨hx, hb, hml, hown, hts⟩ (c_8plus_B l dC dI g (x0) (d) (k) (mo) (dd) ((xs 2)) hk hm1 hm2 hd1 hd2 hd hn hc) (cwV 2 hts (gwV qw_430 qw_431 qw_432 qw_69 qw_429) rfl rfl rfl (by decide +kernel) ⟨Nat.le_of_ble_eq_true rfl, Nat.le_of_ble_eq_true rfl⟩) ⟨fun a U g9 mk q => ⟨q.1, q.2.1, va_K.moved (u := U) (U := U.calling g9 mk a) (Vm.Alike.refl U.vm) q.2.2.1, Ev.bl q.2.2.2⟩, va_recv hK hP (ci := 7) (q0 := 0) rfl rfl, fun U hU hW => ⟨rfl, by rw [hU]; exact hPc, va_K.moved hW.alike hKc, hE.go hS (fun _ h => h.elim) hU hW⟩⟩ rfl rfl hl.1 rfl (lv_room (Nat.le_of_ble_eq_true rfl)) dL_law_365 ⟨Nat.le_of_ble_eq_true rfl, Nat.le_of_ble_eq_true rfl⟩)).run (fun r1 h_r1 => ?_)
  have h_r1 : r1 = nI (219145) := h_r1
  subst h_r1
  refine lv_aload_n hx hb dL_law_368 rfl (lv_at hl 2 rfl) ?_
  refine lv_aload_n hx hb dL_law_369 rfl (lv_at hl 4 rfl) ?_
  refine lv_iload hx hb dL_law_370 (lv_at hl 0 rfl) ?_
  refine lv_iconst (v := 1) hx hb dL_law_372 (by decide) ?_
  refine lv_iadd hx hb dL_law_373 ?_
  refine cst (v := 1) (by decide) ?_
  refine va_sld hx hb hX hbl hbA hS (vin0 (by decide)) dL_law_374 ?_
  refine cst (v := (nI d)) ((congrArg xs (show (1 : Int32).toNatClampNeg = 1 by decide)).trans hq1) ?_
  refine lv_aload_n hx hb dL_law_375 rfl (lv_at hl 4 rfl) ?_
  refine lv_iload hx hb dL_law_376 (lv_at hl 0 rfl) ?_
  refine lv_iconst (v := 2) hx hb dL_law_378 (by decide) ?_
  refine lv_iadd hx hb dL_law_379 ?_
  refine cst (v := 2) (by decide) ?_
  refine va_sld hx hb hX hbl hbA hS (vin0 (by decide)) dL_law_380 ?_
  refine cst (v := (xs 2)) (congrArg xs (show (2 : Int32).toNatClampNeg = 2 by decide)) ?_
  have hPc := hP.sub (ws' := [(m0, .inr (8, [.int 0, .int 0, .int 0, .int 0, .ref (a 4), .int 0, .int 0, .int 0, .int 0, .int 0, .int 0, .long 0, .int 0, .int 0, .int 0, .int 0, .int 0, .int 0, .ref (a 18), .ref (a 19), .ref (a 20), .ref (a 21), .ref (a 22), .ref (a 23), .ref (a 24), .ref (a 25), .ref (a 26), .ref (a 27), .ref (a 28), .ref (a 29), .ref (a 30), .ref (a 31), .ref (a 32), .ref (a 33), .ref (a 34), .ref (a 35), .long 0, .int 0, .ref (a 38), .ref (a 39), .int 0, .ref (a 41), .ref (a 42), .ref (a 43)]))]) [1] rfl
  have hKc := hK.sub (tys' := []) [] rfl
  have hDc := hD.sub (ws' := [(m0, .inr (8, [.int 0, .int 0, .int 0, .int 0, .ref (a 4), .int 0, .int 0, .int 0, .int 0, .int 0, .int 0, .long 0, .int 0, .int 0, .int 0, .int 0, .int 0, .int 0, .ref (a 18), .ref (a 19), .ref (a 20), .ref (a 21), .ref (a 22), .ref (a 23), .ref (a 24), .ref (a 25), .ref (a 26), .ref (a 27), .ref (a 28), .ref (a 29), .ref (a 30), .ref (a 31), .ref (a 32), .ref (a 33), .ref (a 34), .ref (a 35), .long 0, .int 0, .ref (a 38), .ref (a 39), .int 0, .ref (a 41), .ref (a 42), .ref (a 43)]))]) [1] (by decide) rfl
  have hFc := va_free (wc := [(m0, .inr (8, [.int 0, .int 0, .int 0, .int 0, .ref (a 4), .int 0, .int 0, .int 0, .int 0, .int 0, .int 0, .long 0, .int 0, .int 0, .int 0, .int 0, .int 0, .int 0, .ref (a 18), .ref (a 19), .ref (a 20), .ref (a 21), .ref (a 22), .ref (a 23), .ref (a 24), .ref (a 25), .ref (a 26), .ref (a 27), .ref (a 28), .ref (a 29), .ref (a 30), .ref (a 31), .ref (a 32), .ref (a 33), .ref (a 34), .ref (a 35), .long 0, .int 0, .ref (a 38), .ref (a 39), .int 0, .ref (a 41), .ref (a 42), .ref (a 43)]))]) hD hS hA [1] rfl
  refine va_calli (va_runV (As := [.int (nI d), .int (xs 2)]) (rest := [.int (nI 219145)]) ⟨hx, hb, hml, hown, hts⟩ (c_9plus_B l dC dI g H.size (m0) (a) (d) (k) (mo) (dd) ((xs 2)) hk hm1 hm2 hd1 hd2 hd hn hc) (cwV 2 hts (gwV qw_434 qw_435 qw_436 qw_23 qw_433) rfl rfl rfl (by decide +kernel) ⟨Nat.le_of_ble_eq_true rfl, Nat.le_of_ble_eq_true rfl⟩) ⟨fun a U g9 mk q => ⟨q.1, q.2.1, q.2.2.1, va_K.moved (u := U) (U := U.calling g9 mk a) (Vm.Alike.refl U.vm) q.2.2.2.1, q.2.2.2.2.1, Ev.bl q.2.2.2.2.2⟩, va_recv hK hP (ci := 8) (q0 := 1) rfl rfl, fun U hU hW => ⟨rfl, by rw [hU], by rw [hU]; exact hPc, va_K.moved hW.alike hKc, hDc.weaken (fun _ _ _ _ => trivial), hE.go hS hFc hU hW⟩⟩ rfl rfl hl.1 rfl (lv_room (Nat.le_of_ble_eq_true rfl)) dL_law_381 ⟨Nat.le_of_ble_eq_true rfl, Nat.le_of_ble_eq_true rfl⟩) hS (fun q _ h => hFc q h) hFc (fun r3 u2 t H1 locs ht hvm h_u2 hB hz1 hk1 hS => ?_)
  obtain ⟨hP, hD⟩ := va_join (wr := [(x0, .inr (7, [.ref (b 0), .ref (b 1), .ref (b 2), .ref (b 3), .ref (b 4), .ref (b 5), .ref (b 6), .ref (b 7), .ref (b 8), .ref (b 9), .int 1]))]) (w1 := []) hP hD [1] [0] rfl rfl (by decide) (by decide) hk1 hFc va_P0 va_D0
  generalize H1 = H at hP hS ⊢
  have hP : va_P (dC, dI) vwCl [(x0, .inr (7, [.ref (b 0), .ref (b 1), .ref (b 2), .ref (b 3), .ref (b 4), .ref (b 5), .ref (b 6), .ref (b 7), .ref (b 8), .ref (b 9), .int 1]))] H := hP
  have hD : va_D A [(x0, .inr (7, [.ref (b 0), .ref (b 1), .ref (b 2), .ref (b 3), .ref (b 4), .ref (b 5), .ref (b 6), .ref (b 7), .ref (b 8), .ref (b 9), .int 1]))] := hD
  refine W.widen (k := 243) (n := 7586) (Nat.le_of_ble_eq_true rfl) (Nat.le_of_ble_eq_true rfl) ?_
  have h_u2 : r3 = nI (219145) := h_u2
  subst h_u2
  refine lv_icmp_eq (tgt := 1311) hx hb dL_law_384 (by decide) (fun _ => ?_) (fun h9 => absurd rfl h9)
  refine lv_iinc (v := 6) (lv' := [(4, .int 6), (3, .ref o0), (2, .ref m0), (1, .ref x0), (0, .ref b0)]) hx hb dL_law_1311 hl (k := 0) rfl (by decide) (by decide) rfl (fun ls hl => ?_)
  refine lv_goto (tgt := 23) hx hb dL_law_1314 (by decide) ?_
  refine lv_iload hx hb dL_law_23 (lv_at hl 0 rfl) ?_
  refine lv_aload_n hx hb dL_law_25 rfl (lv_at hl 4 rfl) ?_
  refine va_slen hx hb hX hbl hbA hS dL_law_26 ?_
  refine cst (v := 6) (by decide) ?_
  refine lv_bipush (v := 6) hx hb dL_law_27 (by decide) ?_
  refine lv_isub hx hb dL_law_29 ?_
  refine cst (v := 0) (by decide) ?_
  refine lv_icmp_gt (tgt := 1317) hx hb dL_law_30 (by decide) (fun c30_4 => ?_) (fun c30_4 => by exfalso; exact absurd c30_4 (by decide))
  refine lv_iconst (v := 1) hx hb dL_law_1317 (by decide) ?_
  refine va_forget (fun q h => by have h8 := hS.2.2 q h; rw [← hAe] at h8; exact h8) ?_
  refine W.widen (k := 600002) (n := 7302232) (Nat.le_of_ble_eq_true rfl) (Nat.le_of_ble_eq_true rfl) ?_
  exact lw_ret hx hb hr hlocks dL_law_1318
set_option maxHeartbeats 4000000 in
set_option maxRecDepth 100000 in
theorem law_4C {p : Program} {e : Env} {s : State} {m : MethodId} {below : List Frame} {meth : Method} {c : Code} (l : Launch) {b0 : Nat} {xs : Nat → Int32} (C0 : lw_At p s m meth c b0 6 xs) (dC : Nat → ClassId) (dI : Nat → Nat → Nat) (g : Gv) (x0 : Nat) (b : Nat → Nat) (f4 : Nat → Nat) (c4 : ClassId) (f5 : Nat → Nat) (f7 : Nat → Nat) (f6 : Nat → Nat) (f2 : Nat → Nat) (cK : ClassId) (kf : Nat → Option Nat) (cZ : ClassId) (fT : Nat → Nat) (fU : Nat → Nat) (sa : Nat → Nat) (sf : Nat → Nat → Nat) (sc : Nat → Nat → ClassId) (spf : Nat → Nat → Int32) (sdf : Nat → Nat → Int32) (slf : Nat → Nat → Int32) (srf : Nat → Nat → Int32) (sga : Nat → Nat → Option Nat) (sgb : Nat → Nat → Option Nat) (rows : va_W) (m0 : Nat) (a : Nat → Nat) (ca : Nat → ClassId) (o0 : Nat) (d : Nat) (k : Nat) (mo : Nat) (dd : Nat) (k2 : Nat) (hq1 : xs 1 = (nI d)) (hk : k < 600) (hm1 : 1 ≤ mo) (hm2 : mo ≤ 12) (hd1 : 1 ≤ dd) (hd2 : dd ≤ mlN (1700 + k) mo) (hd : d = Fk k + Mk (1700 + k) mo + (dd - 1)) (hn : -600 ≤ (xs 2).toInt ∧ (xs 2).toInt ≤ 600) (hk2 : k2 < 600) (hc : ((k : Nat) : Int) + (xs 2).toInt = k2) {H : Heap} {locs : List Loc} {ls : Array Slot} (hK : va_K (dC, dI) vwCl [] s) (hP : va_P (dC, dI) vwCl [(x0, .inr (7, [.ref (b 0), .ref (b 1), .ref (b 2), .ref (b 3), .ref (b 4), .ref (b 5), .ref (b 6), .ref (b 7), .ref (b 8), .ref (b 9), .int 1])), (m0, .inr (8, [.int 0, .int 0, .int 0, .int 0, .ref (a 4), .int 0, .int 0, .int 0, .int 0, .int 0, .int 0, .long 0, .int 0, .int 0, .int 0, .int 0, .int 0, .int 0, .ref (a 18), .ref (a 19), .ref (a 20), .ref (a 21), .ref (a 22), .ref (a 23), .ref (a 24), .ref (a 25), .ref (a 26), .ref (a 27), .ref (a 28), .ref (a 29), .ref (a 30), .ref (a 31), .ref (a 32), .ref (a 33), .ref (a 34), .ref (a 35), .long 0, .int 0, .ref (a 38), .ref (a 39), .int 0, .ref (a 41), .ref (a 42), .ref (a 43)]))] H) (hD : va_D (fun q : Nat => s.heap.size ≤ q) [(x0, .inr (7, [.ref (b 0), .ref (b 1), .ref (b 2), .ref (b 3), .ref (b 4), .ref (b 5), .ref (b 6), .ref (b 7), .ref (b 8), .ref (b 9), .int 1])), (m0, .inr (8, [.int 0, .int 0, .int 0, .int 0, .ref (a 4), .int 0, .int 0, .int 0, .int 0, .int 0, .int 0, .long 0, .int 0, .int 0, .int 0, .int 0, .int 0, .int 0, .ref (a 18), .ref (a 19), .ref (a 20), .ref (a 21), .ref (a 22), .ref (a 23), .ref (a 24), .ref (a 25), .ref (a 26), .ref (a 27), .ref (a 28), .ref (a 29), .ref (a 30), .ref (a 31), .ref (a 32), .ref (a 33), .ref (a 34), .ref (a 35), .long 0, .int 0, .ref (a 38), .ref (a 39), .int 0, .ref (a 41), .ref (a 42), .ref (a 43)]))]) (hS : va_S (fun q : Nat => s.heap.size ≤ q) s.heap H locs) (hE : Ev g (fun q : Nat => s.heap.size ≤ q) s) (hl : lv_has ls 7 [(4, .int 0), (3, .ref o0), (2, .ref m0), (1, .ref x0), (0, .ref b0)]) : W p l e room_1 s m #[Value.ref b0] below meth c H locs 243 7586 (lw_Z below #[Value.ref b0] s) (F0 m 352 ls []) := by
  obtain ⟨hx, hb, hr, hml, hown, hts0, hX, hbl, hlocks, hgv⟩ := id C0
  have hts := fun (w : Cond) (h : w ∈ TBL) => hts0 w (TBin w h)
  have hown : s.vm.findClass RL = some m.cls := hown
  have hN := hE.1
  have hA : ∀ q : Nat, s.heap.size ≤ q → (fun q : Nat => s.heap.size ≤ q) q := fun _ h => h
  have hbA : ¬ (fun q : Nat => s.heap.size ≤ q) b0 := Nat.not_le.mpr hbl
  generalize hAe : (fun q : Nat => s.heap.size ≤ q) = A at hD hS hE hA hbA
  refine lv_aload_n hx hb dL_law_352 rfl (lv_at hl 3 rfl) ?_
  refine lv_aload_n hx hb dL_law_353 rfl (lv_at hl 4 rfl) ?_
  refine lv_iload hx hb dL_law_354 (lv_at hl 0 rfl) ?_
  refine lv_iconst (v := 1) hx hb dL_law_356 (by decide) ?_
  refine lv_iadd hx hb dL_law_357 ?_
  refine cst (v := 1) (by decide) ?_
  refine va_sld hx hb hX hbl hbA hS (vin0 (by decide)) dL_law_358 ?_
  refine cst (v := (nI d)) ((congrArg xs (show (1 : Int32).toNatClampNeg = 1 by decide)).trans hq1) ?_
  refine lv_aload_n hx hb dL_law_359 rfl (lv_at hl 4 rfl) ?_
  refine lv_iload hx hb dL_law_360 (lv_at hl 0 rfl) ?_
  refine lv_iconst (v := 2) hx hb dL_law_362 (by decide) ?_
  refine lv_iadd hx hb dL_law_363 ?_
  refine cst (v := 2) (by decide) ?_
  refine va_sld hx hb hX hbl hbA hS (vin0 (by decide)) dL_law_364 ?_
  refine cst (v := (xs 2)) (congrArg xs (show (2 : Int32).toNatClampNeg = 2 by decide)) ?_
  have hPc := hP.sub (ws' := []) [] rfl
  have hKc := hK.sub (tys' := []) [] rfl
  refine vp_callSi ((va_runV (As := [.int (nI d), .int (xs 2)]) (rest := []) ⟨hx, hb, hml, hown, hts⟩ (c_8plus_C l dC dI g (x0) (d) (k) (mo) (dd) ((xs 2)) (k2) hk hm1 hm2 hd1 hd2 hd hn hk2 hc) (cwV 2 hts (gwV qw_430 qw_431 qw_432 qw_69 qw_429) rfl rfl rfl (by decide +kernel) ⟨Nat.le_of_ble_eq_true rfl, Nat.le_of_ble_eq_true rfl⟩) ⟨fun a U g9 mk q => ⟨q.1, q.2.1, va_K.moved (u := U) (U := U.calling g9 mk a) (Vm.Alike.refl U.vm) q.2.2.1, Ev.bl q.2.2.2⟩, va_recv hK hP (ci := 7) (q0 := 0) rfl rfl, fun U hU hW => ⟨rfl, by rw [hU]; exact hPc, va_K.moved hW.alike hKc, hE.go hS (fun _ h => h.elim) hU hW⟩⟩ rfl rfl hl.1 rfl (lv_room (Nat.le_of_ble_eq_true rfl)) dL_law_365 ⟨Nat.le_of_ble_eq_true rfl, Nat.le_of_ble_eq_true rfl⟩)).run (fun r1 h_r1 => ?_)
  have h_r1 : r1 = nI (Fk k2 + Mk (1700 + k2) mo + min dd (mlN (1700 + k2) mo) - 1) := h_r1
  subst h_r1
  refine lv_aload_n hx hb dL_law_368 rfl (lv_at hl 2 rfl) ?_
  refine lv_aload_n hx hb dL_law_369 rfl (lv_at hl 4 rfl) ?_
  refine lv_iload hx hb dL_law_370 (lv_at hl 0 rfl) ?_
  refine lv_iconst (v := 1) hx hb dL_law_372 (by decide) ?_
  refine lv_iadd hx hb dL_law_373 ?_
  refine cst (v := 1) (by decide) ?_
  refine va_sld hx hb hX hbl hbA hS (vin0 (by decide)) dL_law_374 ?_
  refine cst (v := (nI d)) ((congrArg xs (show (1 : Int32).toNatClampNeg = 1 by decide)).trans hq1) ?_
  refine lv_aload_n hx hb dL_law_375 rfl (lv_at hl 4 rfl) ?_
  refine lv_iload hx hb dL_law_376 (lv_at hl 0 rfl) ?_
  refine lv_iconst (v := 2) hx hb dL_law_378 (by decide) ?_
  refine lv_iadd hx hb dL_law_379 ?_
  refine cst (v := 2) (by decide) ?_
  refine va_sld hx hb hX hbl hbA hS (vin0 (by decide)) dL_law_380 ?_
  refine cst (v := (xs 2)) (congrArg xs (show (2 : Int32).toNatClampNeg = 2 by decide)) ?_
  have hPc := hP.sub (ws' := [(m0, .inr (8, [.int 0, .int 0, .int 0, .int 0, .ref (a 4), .int 0, .int 0, .int 0, .int 0, .int 0, .int 0, .long 0, .int 0, .int 0, .int 0, .int 0, .int 0, .int 0, .ref (a 18), .ref (a 19), .ref (a 20), .ref (a 21), .ref (a 22), .ref (a 23), .ref (a 24), .ref (a 25), .ref (a 26), .ref (a 27), .ref (a 28), .ref (a 29), .ref (a 30), .ref (a 31), .ref (a 32), .ref (a 33), .ref (a 34), .ref (a 35), .long 0, .int 0, .ref (a 38), .ref (a 39), .int 0, .ref (a 41), .ref (a 42), .ref (a 43)]))]) [1] rfl
  have hKc := hK.sub (tys' := []) [] rfl
  have hDc := hD.sub (ws' := [(m0, .inr (8, [.int 0, .int 0, .int 0, .int 0, .ref (a 4), .int 0, .int 0, .int 0, .int 0, .int 0, .int 0, .long 0, .int 0, .int 0, .int 0, .int 0, .int 0, .int 0, .ref (a 18), .ref (a 19), .ref (a 20), .ref (a 21), .ref (a 22), .ref (a 23), .ref (a 24), .ref (a 25), .ref (a 26), .ref (a 27), .ref (a 28), .ref (a 29), .ref (a 30), .ref (a 31), .ref (a 32), .ref (a 33), .ref (a 34), .ref (a 35), .long 0, .int 0, .ref (a 38), .ref (a 39), .int 0, .ref (a 41), .ref (a 42), .ref (a 43)]))]) [1] (by decide) rfl
  have hFc := va_free (wc := [(m0, .inr (8, [.int 0, .int 0, .int 0, .int 0, .ref (a 4), .int 0, .int 0, .int 0, .int 0, .int 0, .int 0, .long 0, .int 0, .int 0, .int 0, .int 0, .int 0, .int 0, .ref (a 18), .ref (a 19), .ref (a 20), .ref (a 21), .ref (a 22), .ref (a 23), .ref (a 24), .ref (a 25), .ref (a 26), .ref (a 27), .ref (a 28), .ref (a 29), .ref (a 30), .ref (a 31), .ref (a 32), .ref (a 33), .ref (a 34), .ref (a 35), .long 0, .int 0, .ref (a 38), .ref (a 39), .int 0, .ref (a 41), .ref (a 42), .ref (a 43)]))]) hD hS hA [1] rfl
  refine va_calli (va_runV (As := [.int (nI d), .int (xs 2)]) (rest := [.int (nI (Fk k2 + Mk (1700 + k2) mo + min dd (mlN (1700 + k2) mo) - 1))]) ⟨hx, hb, hml, hown, hts⟩ (c_9plus_C l dC dI g H.size (m0) (a) (d) (k) (mo) (dd) ((xs 2)) (k2) hk hm1 hm2 hd1 hd2 hd hn hk2 hc) (cwV 2 hts (gwV qw_434 qw_435 qw_436 qw_23 qw_433) rfl rfl rfl (by decide +kernel) ⟨Nat.le_of_ble_eq_true rfl, Nat.le_of_ble_eq_true rfl⟩) ⟨fun a U g9 mk q => ⟨q.1, q.2.1, q.2.2.1, va_K.moved (u := U) (U := U.calling g9 mk a) (Vm.Alike.refl U.vm) q.2.2.2.1, q.2.2.2.2.1, Ev.bl q.2.2.2.2.2⟩, va_recv hK hP (ci := 8) (q0 := 1) rfl rfl, fun U hU hW => ⟨rfl, by rw [hU], by rw [hU]; exact hPc, va_K.moved hW.alike hKc, hDc.weaken (fun _ _ _ _ => trivial), hE.go hS hFc hU hW⟩⟩ rfl rfl hl.1 rfl (lv_room (Nat.le_of_ble_eq_true rfl)) dL_law_381 ⟨Nat.le_of_ble_eq_true rfl, Nat.le_of_ble_eq_true rfl⟩) hS (fun q _ h => hFc q h) hFc (fun r3 u2 t H1 locs ht hvm h_u2 hB hz1 hk1 hS => ?_)
  obtain ⟨hP, hD⟩ := va_join (wr := [(x0, .inr (7, [.ref (b 0), .ref (b 1), .ref (b 2), .ref (b 3), .ref (b 4), .ref (b 5), .ref (b 6), .ref (b 7), .ref (b 8), .ref (b 9), .int 1]))]) (w1 := []) hP hD [1] [0] rfl rfl (by decide) (by decide) hk1 hFc va_P0 va_D0
  generalize H1 = H at hP hS ⊢
  have hP : va_P (dC, dI) vwCl [(x0, .inr (7, [.ref (b 0), .ref (b 1), .ref (b 2), .ref (b 3), .ref (b 4), .ref (b 5), .ref (b 6), .ref (b 7), .ref (b 8), .ref (b 9), .int 1]))] H := hP
  have hD : va_D A [(x0, .inr (7, [.ref (b 0), .ref (b 1), .ref (b 2), .ref (b 3), .ref (b 4), .ref (b 5), .ref (b 6), .ref (b 7), .ref (b 8), .ref (b 9), .int 1]))] := hD
  refine W.widen (k := 243) (n := 7586) (Nat.le_of_ble_eq_true rfl) (Nat.le_of_ble_eq_true rfl) ?_
  have h_u2 : r3 = nI (Fk k2 + Mk (1700 + k2) mo + min dd (mlN (1700 + k2) mo) - 1) := h_u2
  subst h_u2
  refine lv_icmp_eq (tgt := 1311) hx hb dL_law_384 (by decide) (fun _ => ?_) (fun h9 => absurd rfl h9)
  refine lv_iinc (v := 6) (lv' := [(4, .int 6), (3, .ref o0), (2, .ref m0), (1, .ref x0), (0, .ref b0)]) hx hb dL_law_1311 hl (k := 0) rfl (by decide) (by decide) rfl (fun ls hl => ?_)
  refine lv_goto (tgt := 23) hx hb dL_law_1314 (by decide) ?_
  refine lv_iload hx hb dL_law_23 (lv_at hl 0 rfl) ?_
  refine lv_aload_n hx hb dL_law_25 rfl (lv_at hl 4 rfl) ?_
  refine va_slen hx hb hX hbl hbA hS dL_law_26 ?_
  refine cst (v := 6) (by decide) ?_
  refine lv_bipush (v := 6) hx hb dL_law_27 (by decide) ?_
  refine lv_isub hx hb dL_law_29 ?_
  refine cst (v := 0) (by decide) ?_
  refine lv_icmp_gt (tgt := 1317) hx hb dL_law_30 (by decide) (fun c30_4 => ?_) (fun c30_4 => by exfalso; exact absurd c30_4 (by decide))
  refine lv_iconst (v := 1) hx hb dL_law_1317 (by decide) ?_
  refine va_forget (fun q h => by have h8 := hS.2.2 q h; rw [← hAe] at h8; exact h8) ?_
  refine W.widen (k := 600002) (n := 7302232) (Nat.le_of_ble_eq_true rfl) (Nat.le_of_ble_eq_true rfl) ?_
  exact lw_ret hx hb hr hlocks dL_law_1318
