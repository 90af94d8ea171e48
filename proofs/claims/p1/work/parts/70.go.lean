theorem dL_law_33 : decode cL_law 33 = .ok (.aload_n 0, 1) := by decide +kernel
theorem dL_law_34 : decode cL_law 34 = .ok (.iload 4, 2) := by decide +kernel
theorem dL_law_36 : decode cL_law 36 = .ok (.iaload, 1) := by decide +kernel
theorem dL_law_37 : decode cL_law 37 = .ok (.bipush 31, 2) := by decide +kernel
theorem dL_law_39 : decode cL_law 39 = .ok (.iand, 1) := by decide +kernel
theorem dL_law_40 : decode cL_law 40 = .ok (.tableswitch 1271 0 27 #[128, 201, 226, 275, 312, 349, 386, 423, 460, 497, 534, 571, 608, 645, 682, 762, 799, 836, 873, 922, 971, 1020, 1069, 1106, 1143, 1180, 1193, 1246], 128) := by decide +kernel

set_option maxHeartbeats 4000000 in
set_option maxRecDepth 100000 in
theorem law_go {p : Program} {e : Env} {s : State} {m : MethodId} {below : List Frame} {meth : Method} {c : Code} (l : Launch) (hflags : l.flags = flags0) {b0 : Nat} {xs : Nat → Int32} (C0 : lw_At p s m meth c b0 6 xs) (dC : Nat → ClassId) (dI : Nat → Nat → Nat) (g : Gv) (x0 : Nat) (b : Nat → Nat) (f4 : Nat → Nat) (c4 : ClassId) (f5 : Nat → Nat) (f7 : Nat → Nat) (f6 : Nat → Nat) (f2 : Nat → Nat) (cK : ClassId) (kf : Nat → Option Nat) (cZ : ClassId) (fT : Nat → Nat) (fU : Nat → Nat) (sa : Nat → Nat) (sf : Nat → Nat → Nat) (sc : Nat → Nat → ClassId) (spf : Nat → Nat → Int32) (sdf : Nat → Nat → Int32) (slf : Nat → Nat → Int32) (srf : Nat → Nat → Int32) (sga : Nat → Nat → Option Nat) (sgb : Nat → Nat → Option Nat) (rows : va_W) (m0 : Nat) (a : Nat → Nat) (ca : Nat → ClassId) (o0 : Nat) (hF1 : kf 0 = some (sa 0)) (hF2 : kf 1 = some (sa 1)) (hF3 : (∀ j, j < 12 → slf 2 j = -1)) (hF4 : (∀ j, j < 12 → srf 2 j = 0)) (hF5 : rowsOk g.2.2.2.2 5 rows) (hF6 : gridOk 12 (sga 0) rows) (hF7 : gridOk 12 (sga 1) rows) (hF8 : gridOk 12 (sga 2) rows) (hF9 : gridOk 12 (sga 3) rows) (hF10 : gridOk 12 (sgb 0) rows) (hF11 : gridOk 12 (sgb 1) rows) (hF12 : gridOk 12 (sgb 2) rows) (hF13 : gridOk 12 (sgb 3) rows) {H : Heap} {locs : List Loc} {ls : Array Slot} (hK : va_K (dC, dI) vwCl [(c4, .byte), (cK, .object "ClosedUntil$State"), (cZ, .boolean), (((sc 0) 0), .int), (((sc 0) 1), .int), (((sc 0) 2), .int), (((sc 0) 3), .int), (((sc 0) 4), .array .int), (((sc 0) 5), .array .int), (((sc 1) 0), .int), (((sc 1) 1), .int), (((sc 1) 2), .int), (((sc 1) 3), .int), (((sc 1) 4), .array .int), (((sc 1) 5), .array .int), (((sc 2) 0), .int), (((sc 2) 1), .int), (((sc 2) 2), .int), (((sc 2) 3), .int), (((sc 2) 4), .array .int), (((sc 2) 5), .array .int), (((sc 3) 0), .int), (((sc 3) 1), .int), (((sc 3) 2), .int), (((sc 3) 3), .int), (((sc 3) 4), .array .int), (((sc 3) 5), .array .int), ((ca 4), .byte), ((ca 18), .int), ((ca 19), .int), ((ca 20), .int), ((ca 21), .int), ((ca 22), .long), ((ca 23), .int), ((ca 24), .int), ((ca 25), .long), ((ca 26), .int), ((ca 27), .long), ((ca 28), .int), ((ca 29), .int), ((ca 30), .int), ((ca 31), .int), ((ca 32), .int), ((ca 33), .int), ((ca 34), .int), ((ca 35), .boolean), ((ca 38), .int), ((ca 39), .int), ((ca 41), .int), ((ca 42), .boolean), ((ca 43), .int)] s) (hP : va_P (dC, dI) vwCl ([(x0, .inr (7, [.ref (b 0), .ref (b 1), .ref (b 2), .ref (b 3), .ref (b 4), .ref (b 5), .ref (b 6), .ref (b 7), .ref (b 8), .ref (b 9), .int 1])), ((b 0), .inr (3, [.ref (f4 0), .int 0])), ((f4 0), .inl (c4, 1000, .inl (fun _ => 0))), ((b 1), .inr (4, [.ref (f5 0), .ref (f5 1), .ref (f5 2), .ref (f5 3), .int 0, .int 0])), ((f5 0), .inr (6, [.ref (f7 0), .ref (f7 1), .int 0, .int 0, .int 0, .int 0, .long 0, .int 0])), ((b 2), .inr (5, [.ref (f6 0), .ref (f6 1), .ref (f6 2), .ref (f6 3), .ref (f6 4), .ref (f6 5), .int 0, .int 0])), ((b 3), .inr (1, [.ref (f2 0), .ref (f2 1), .ref (f2 2), .int 0])), ((b 4), .inl (cK, 2, .inr (.inr (.inr (.inr kf))))), ((b 5), .inl (cZ, 2, .inl (fun _ => 0))), ((b 6), .inr (0, [.int 0, .ref (fT 1), .int 0, .ref (fT 3), .int 0, .ref (fT 5), .ref (fT 6), .ref (fT 7), .int 0, .ref (fT 9), .ref (fT 10), .ref (fT 11), .ref (fT 12), .ref (fT 13)])), ((b 7), .inr (0, [.int 0, .ref (fU 1), .int 0, .ref (fU 3), .int 0, .ref (fU 5), .ref (fU 6), .ref (fU 7), .int 0, .ref (fU 9), .ref (fU 10), .ref (fU 11), .ref (fU 12), .ref (fU 13)])), ((sa 0), .inr (2, [.ref ((sf 0) 0), .ref ((sf 0) 1), .ref ((sf 0) 2), .ref ((sf 0) 3), .ref ((sf 0) 4), .ref ((sf 0) 5)])), (((sf 0) 0), .inl (((sc 0) 0), 24, .inl (spf 0))), (((sf 0) 1), .inl (((sc 0) 1), 8, .inl (sdf 0))), (((sf 0) 2), .inl (((sc 0) 2), 12, .inl (slf 0))), (((sf 0) 3), .inl (((sc 0) 3), 12, .inl (srf 0))), (((sf 0) 4), .inl (((sc 0) 4), 12, .inr (.inr (.inr (.inr (sga 0)))))), (((sf 0) 5), .inl (((sc 0) 5), 12, .inr (.inr (.inr (.inr (sgb 0)))))), ((sa 1), .inr (2, [.ref ((sf 1) 0), .ref ((sf 1) 1), .ref ((sf 1) 2), .ref ((sf 1) 3), .ref ((sf 1) 4), .ref ((sf 1) 5)])), (((sf 1) 0), .inl (((sc 1) 0), 24, .inl (spf 1))), (((sf 1) 1), .inl (((sc 1) 1), 8, .inl (sdf 1))), (((sf 1) 2), .inl (((sc 1) 2), 12, .inl (slf 1))), (((sf 1) 3), .inl (((sc 1) 3), 12, .inl (srf 1))), (((sf 1) 4), .inl (((sc 1) 4), 12, .inr (.inr (.inr (.inr (sga 1)))))), (((sf 1) 5), .inl (((sc 1) 5), 12, .inr (.inr (.inr (.inr (sgb 1)))))), ((b 8), .inr (2, [.ref ((sf 2) 0), .ref ((sf 2) 1), .ref ((sf 2) 2), .ref ((sf 2) 3), .ref ((sf 2) 4), .ref ((sf 2) 5)])), (((sf 2) 0), .inl (((sc 2) 0), 24, .inl (spf 2))), (((sf 2) 1), .inl (((sc 2) 1), 8, .inl (sdf 2))), (((sf 2) 2), .inl (((sc 2) 2), 12, .inl (slf 2))), (((sf 2) 3), .inl (((sc 2) 3), 12, .inl (srf 2))), (((sf 2) 4), .inl (((sc 2) 4), 12, .inr (.inr (.inr (.inr (sga 2)))))), (((sf 2) 5), .inl (((sc 2) 5), 12, .inr (.inr (.inr (.inr (sgb 2)))))), ((b 9), .inr (2, [.ref ((sf 3) 0), .ref ((sf 3) 1), .ref ((sf 3) 2), .ref ((sf 3) 3), .ref ((sf 3) 4), .ref ((sf 3) 5)])), (((sf 3) 0), .inl (((sc 3) 0), 24, .inl (spf 3))), (((sf 3) 1), .inl (((sc 3) 1), 8, .inl (sdf 3))), (((sf 3) 2), .inl (((sc 3) 2), 12, .inl (slf 3))), (((sf 3) 3), .inl (((sc 3) 3), 12, .inl (srf 3))), (((sf 3) 4), .inl (((sc 3) 4), 12, .inr (.inr (.inr (.inr (sga 3)))))), (((sf 3) 5), .inl (((sc 3) 5), 12, .inr (.inr (.inr (.inr (sgb 3)))))), (m0, .inr (8, [.int 0, .int 0, .int 0, .int 0, .ref (a 4), .int 0, .int 0, .int 0, .int 0, .int 0, .int 0, .long 0, .int 0, .int 0, .int 0, .int 0, .int 0, .int 0, .ref (a 18), .ref (a 19), .ref (a 20), .ref (a 21), .ref (a 22), .ref (a 23), .ref (a 24), .ref (a 25), .ref (a 26), .ref (a 27), .ref (a 28), .ref (a 29), .ref (a 30), .ref (a 31), .ref (a 32), .ref (a 33), .ref (a 34), .ref (a 35), .long 0, .int 0, .ref (a 38), .ref (a 39), .int 0, .ref (a 41), .ref (a 42), .ref (a 43)])), ((a 4), .inl ((ca 4), 1000, .inl (fun _ => 0))), ((a 18), .inl ((ca 18), 2, .inl (fun _ => 0))), ((a 19), .inl ((ca 19), 2, .inl (fun _ => 0))), ((a 20), .inl ((ca 20), 2, .inl (fun _ => 0))), ((a 21), .inl ((ca 21), 2, .inl (fun _ => 0))), ((a 22), .inl ((ca 22), 16, .inr (.inl (fun _ => 0)))), ((a 23), .inl ((ca 23), 16, .inl (fun _ => 0))), ((a 24), .inl ((ca 24), 16, .inl (fun _ => 0))), ((a 25), .inl ((ca 25), 8, .inr (.inl (fun _ => 0)))), ((a 26), .inl ((ca 26), 8, .inl (fun _ => 0))), ((a 27), .inl ((ca 27), 48, .inr (.inl (fun _ => 0)))), ((a 28), .inl ((ca 28), 48, .inl (fun _ => 0))), ((a 29), .inl ((ca 29), 48, .inl (fun _ => 0))), ((a 30), .inl ((ca 30), 48, .inl (fun _ => 0))), ((a 31), .inl ((ca 31), 48, .inl (fun _ => 0))), ((a 32), .inl ((ca 32), 24, .inl (fun _ => 0))), ((a 33), .inl ((ca 33), 24, .inl (fun _ => 0))), ((a 34), .inl ((ca 34), 72, .inl (fun _ => 0))), ((a 35), .inl ((ca 35), 24, .inl (fun _ => 0))), ((a 38), .inl ((ca 38), 176, .inl (fun _ => 0))), ((a 39), .inl ((ca 39), 2112, .inl (fun _ => 0))), ((a 41), .inl ((ca 41), 352, .inl (fun _ => 0))), ((a 42), .inl ((ca 42), 2, .inl (fun _ => 0))), ((a 43), .inl ((ca 43), 288, .inl (fun _ => 0)))] ++ rows) H) (hD : va_D (fun q : Nat => s.heap.size ≤ q) ([(x0, .inr (7, [.ref (b 0), .ref (b 1), .ref (b 2), .ref (b 3), .ref (b 4), .ref (b 5), .ref (b 6), .ref (b 7), .ref (b 8), .ref (b 9), .int 1])), ((b 0), .inr (3, [.ref (f4 0), .int 0])), ((f4 0), .inl (c4, 1000, .inl (fun _ => 0))), ((b 1), .inr (4, [.ref (f5 0), .ref (f5 1), .ref (f5 2), .ref (f5 3), .int 0, .int 0])), ((f5 0), .inr (6, [.ref (f7 0), .ref (f7 1), .int 0, .int 0, .int 0, .int 0, .long 0, .int 0])), ((b 2), .inr (5, [.ref (f6 0), .ref (f6 1), .ref (f6 2), .ref (f6 3), .ref (f6 4), .ref (f6 5), .int 0, .int 0])), ((b 3), .inr (1, [.ref (f2 0), .ref (f2 1), .ref (f2 2), .int 0])), ((b 4), .inl (cK, 2, .inr (.inr (.inr (.inr kf))))), ((b 5), .inl (cZ, 2, .inl (fun _ => 0))), ((b 6), .inr (0, [.int 0, .ref (fT 1), .int 0, .ref (fT 3), .int 0, .ref (fT 5), .ref (fT 6), .ref (fT 7), .int 0, .ref (fT 9), .ref (fT 10), .ref (fT 11), .ref (fT 12), .ref (fT 13)])), ((b 7), .inr (0, [.int 0, .ref (fU 1), .int 0, .ref (fU 3), .int 0, .ref (fU 5), .ref (fU 6), .ref (fU 7), .int 0, .ref (fU 9), .ref (fU 10), .ref (fU 11), .ref (fU 12), .ref (fU 13)])), ((sa 0), .inr (2, [.ref ((sf 0) 0), .ref ((sf 0) 1), .ref ((sf 0) 2), .ref ((sf 0) 3), .ref ((sf 0) 4), .ref ((sf 0) 5)])), (((sf 0) 0), .inl (((sc 0) 0), 24, .inl (spf 0))), (((sf 0) 1), .inl (((sc 0) 1), 8, .inl (sdf 0))), (((sf 0) 2), .inl (((sc 0) 2), 12, .inl (slf 0))), (((sf 0) 3), .inl (((sc 0) 3), 12, .inl (srf 0))), (((sf 0) 4), .inl (((sc 0) 4), 12, .inr (.inr (.inr (.inr (sga 0)))))), (((sf 0) 5), .inl (((sc 0) 5), 12, .inr (.inr (.inr (.inr (sgb 0)))))), ((sa 1), .inr (2, [.ref ((sf 1) 0), .ref ((sf 1) 1), .ref ((sf 1) 2), .ref ((sf 1) 3), .ref ((sf 1) 4), .ref ((sf 1) 5)])), (((sf 1) 0), .inl (((sc 1) 0), 24, .inl (spf 1))), (((sf 1) 1), .inl (((sc 1) 1), 8, .inl (sdf 1))), (((sf 1) 2), .inl (((sc 1) 2), 12, .inl (slf 1))), (((sf 1) 3), .inl (((sc 1) 3), 12, .inl (srf 1))), (((sf 1) 4), .inl (((sc 1) 4), 12, .inr (.inr (.inr (.inr (sga 1)))))), (((sf 1) 5), .inl (((sc 1) 5), 12, .inr (.inr (.inr (.inr (sgb 1)))))), ((b 8), .inr (2, [.ref ((sf 2) 0), .ref ((sf 2) 1), .ref ((sf 2) 2), .ref ((sf 2) 3), .ref ((sf 2) 4), .ref ((sf 2) 5)])), (((sf 2) 0), .inl (((sc 2) 0), 24, .inl (spf 2))), (((sf 2) 1), .inl (((sc 2) 1), 8, .inl (sdf 2))), (((sf 2) 2), .inl (((sc 2) 2), 12, .inl (slf 2))), (((sf 2) 3), .inl (((sc 2) 3), 12, .inl (srf 2))), (((sf 2) 4), .inl (((sc 2) 4), 12, .inr (.inr (.inr (.inr (sga 2)))))), (((sf 2) 5), .inl (((sc 2) 5), 12, .inr (.inr (.inr (.inr (sgb 2)))))), ((b 9), .inr (2, [.ref ((sf 3) 0), .ref ((sf 3) 1), .ref ((sf 3) 2), .ref ((sf 3) 3), .ref ((sf 3) 4), .ref ((sf 3) 5)])), (((sf 3) 0), .inl (((sc 3) 0), 24, .inl (spf 3))), (((sf 3) 1), .inl (((sc 3) 1), 8, .inl (sdf 3))), (((sf 3) 2), .inl (((sc 3) 2), 12, .inl (slf 3))), (((sf 3) 3), .inl (((sc 3) 3), 12, .inl (srf 3))), (((sf 3) 4), .inl (((sc 3) 4), 12, .inr (.inr (.inr (.inr (sga 3)))))), (((sf 3) 5), .inl (((sc 3) 5), 12, .inr (.inr (.inr (.inr (sgb 3)))))), (m0, .inr (8, [.int 0, .int 0, .int 0, .int 0, .ref (a 4), .int 0, .int 0, .int 0, .int 0, .int 0, .int 0, .long 0, .int 0, .int 0, .int 0, .int 0, .int 0, .int 0, .ref (a 18), .ref (a 19), .ref (a 20), .ref (a 21), .ref (a 22), .ref (a 23), .ref (a 24), .ref (a 25), .ref (a 26), .ref (a 27), .ref (a 28), .ref (a 29), .ref (a 30), .ref (a 31), .ref (a 32), .ref (a 33), .ref (a 34), .ref (a 35), .long 0, .int 0, .ref (a 38), .ref (a 39), .int 0, .ref (a 41), .ref (a 42), .ref (a 43)])), ((a 4), .inl ((ca 4), 1000, .inl (fun _ => 0))), ((a 18), .inl ((ca 18), 2, .inl (fun _ => 0))), ((a 19), .inl ((ca 19), 2, .inl (fun _ => 0))), ((a 20), .inl ((ca 20), 2, .inl (fun _ => 0))), ((a 21), .inl ((ca 21), 2, .inl (fun _ => 0))), ((a 22), .inl ((ca 22), 16, .inr (.inl (fun _ => 0)))), ((a 23), .inl ((ca 23), 16, .inl (fun _ => 0))), ((a 24), .inl ((ca 24), 16, .inl (fun _ => 0))), ((a 25), .inl ((ca 25), 8, .inr (.inl (fun _ => 0)))), ((a 26), .inl ((ca 26), 8, .inl (fun _ => 0))), ((a 27), .inl ((ca 27), 48, .inr (.inl (fun _ => 0)))), ((a 28), .inl ((ca 28), 48, .inl (fun _ => 0))), ((a 29), .inl ((ca 29), 48, .inl (fun _ => 0))), ((a 30), .inl ((ca 30), 48, .inl (fun _ => 0))), ((a 31), .inl ((ca 31), 48, .inl (fun _ => 0))), ((a 32), .inl ((ca 32), 24, .inl (fun _ => 0))), ((a 33), .inl ((ca 33), 24, .inl (fun _ => 0))), ((a 34), .inl ((ca 34), 72, .inl (fun _ => 0))), ((a 35), .inl ((ca 35), 24, .inl (fun _ => 0))), ((a 38), .inl ((ca 38), 176, .inl (fun _ => 0))), ((a 39), .inl ((ca 39), 2112, .inl (fun _ => 0))), ((a 41), .inl ((ca 41), 352, .inl (fun _ => 0))), ((a 42), .inl ((ca 42), 2, .inl (fun _ => 0))), ((a 43), .inl ((ca 43), 288, .inl (fun _ => 0)))] ++ rows)) (hS : va_S (fun q : Nat => s.heap.size ≤ q) s.heap H locs) (hE : Ev g (fun q : Nat => s.heap.size ≤ q) s) (hl : lv_has ls 7 [(4, .int 0), (3, .ref o0), (2, .ref m0), (1, .ref x0), (0, .ref b0)]) : W p l e room_1 s m #[Value.ref b0] below meth c H locs 243 7586 (lw_Z below #[Value.ref b0] s) (F0 m 33 ls []) := by
  obtain ⟨hx, hb, hr, hml, hown, hts0, hX, hbl, hlocks, hgv⟩ := id C0
  have hbA : ¬ (fun q : Nat => s.heap.size ≤ q) b0 := Nat.not_le.mpr hbl
  refine lv_aload_n hx hb dL_law_33 rfl (lv_at hl 4 rfl) ?_
  refine lv_iload hx hb dL_law_34 (lv_at hl 0 rfl) ?_
  refine va_sld hx hb hX hbl hbA hS (vin0 (by decide)) dL_law_36 ?_
  refine cst (v := xs 0) (congrArg xs (show (0 : Int32).toNatClampNeg = 0 by decide)) ?_
  refine lv_bipush (v := 31) hx hb dL_law_37 (by decide) ?_
  refine lv_iand hx hb dL_law_39 ?_
  obtain ⟨j, hj, ej⟩ := pk_andE (xs 0) (m := 31) 5 (by decide)
  refine cst (v := nI j) ej ?_
  clear ej
  rcases (show j = 0 ∨ j = 1 ∨ j = 2 ∨ j = 3 ∨ j = 4 ∨ j = 5 ∨ j = 6 ∨ j = 7 ∨ j = 8 ∨ j = 9 ∨ j = 10 ∨ j = 11 ∨ j = 12 ∨ j = 13 ∨ j = 14 ∨ j = 15 ∨ j = 16 ∨ j = 17 ∨ j = 18 ∨ j = 19 ∨ j = 20 ∨ j = 21 ∨ j = 22 ∨ j = 23 ∨ j = 24 ∨ j = 25 ∨ j = 26 ∨ j = 27 ∨ j = 28 ∨ j = 29 ∨ j = 30 ∨ j = 31 by omega) with rfl | rfl | rfl | rfl | rfl | rfl | rfl | rfl | rfl | rfl | rfl | rfl | rfl | rfl | rfl | rfl | rfl | rfl | rfl | rfl | rfl | rfl | rfl | rfl | rfl | rfl | rfl | rfl | rfl | rfl | rfl | rfl
  · refine cst (v := 0) rfl ?_
    refine lv_tableIn (tgt := 168) hx hb dL_law_40 (by decide) (by decide) rfl (by decide) ?_
    exact op_0 l C0 dC dI g x0 b f4 c4 f5 f7 f6 f2 cK kf cZ fT fU sa sf sc spf sdf slf srf sga sgb rows m0 a ca o0  (pK_op0 hK) (pP_op0 hP) (pD_op0 hD) hS hE hl
  · refine cst (v := 1) rfl ?_
    refine lv_tableIn (tgt := 241) hx hb dL_law_40 (by decide) (by decide) rfl (by decide) ?_
    exact op_1 l C0 dC dI g x0 b f4 c4 f5 f7 f6 f2 cK kf cZ fT fU sa sf sc spf sdf slf srf sga sgb rows m0 a ca o0  (pK_op1 hK) (pP_op1 hP) (pD_op1 hD) hS hE hl
  · refine cst (v := 2) rfl ?_
    refine lv_tableIn (tgt := 266) hx hb dL_law_40 (by decide) (by decide) rfl (by decide) ?_
    exact op_2 l C0 dC dI g x0 b f4 c4 f5 f7 f6 f2 cK kf cZ fT fU sa sf sc spf sdf slf srf sga sgb rows m0 a ca o0  (pK_op2 hK) (pP_op2 hP) (pD_op2 hD) hS hE hl
  · refine cst (v := 3) rfl ?_
    refine lv_tableIn (tgt := 315) hx hb dL_law_40 (by decide) (by decide) rfl (by decide) ?_
    exact op_3 l C0 dC dI g x0 b f4 c4 f5 f7 f6 f2 cK kf cZ fT fU sa sf sc spf sdf slf srf sga sgb rows m0 a ca o0  (pK_op3 hK) (pP_op3 hP) (pD_op3 hD) hS hE hl
  · refine cst (v := 4) rfl ?_
    refine lv_tableIn (tgt := 352) hx hb dL_law_40 (by decide) (by decide) rfl (by decide) ?_
    exact op_4 l C0 dC dI g x0 b f4 c4 f5 f7 f6 f2 cK kf cZ fT fU sa sf sc spf sdf slf srf sga sgb rows m0 a ca o0  (pK_op4 hK) (pP_op4 hP) (pD_op4 hD) hS hE hl
  · refine cst (v := 5) rfl ?_
    refine lv_tableIn (tgt := 389) hx hb dL_law_40 (by decide) (by decide) rfl (by decide) ?_
    exact op_5 l C0 dC dI g x0 b f4 c4 f5 f7 f6 f2 cK kf cZ fT fU sa sf sc spf sdf slf srf sga sgb rows m0 a ca o0  (pK_op5 hK) (pP_op5 hP) (pD_op5 hD) hS hE hl
  · refine cst (v := 6) rfl ?_
    refine lv_tableIn (tgt := 426) hx hb dL_law_40 (by decide) (by decide) rfl (by decide) ?_
    exact op_6 l C0 dC dI g x0 b f4 c4 f5 f7 f6 f2 cK kf cZ fT fU sa sf sc spf sdf slf srf sga sgb rows m0 a ca o0  (pK_op6 hK) (pP_op6 hP) (pD_op6 hD) hS hE hl
  · refine cst (v := 7) rfl ?_
    refine lv_tableIn (tgt := 463) hx hb dL_law_40 (by decide) (by decide) rfl (by decide) ?_
    exact op_7 l C0 dC dI g x0 b f4 c4 f5 f7 f6 f2 cK kf cZ fT fU sa sf sc spf sdf slf srf sga sgb rows m0 a ca o0  (pK_op7 hK) (pP_op7 hP) (pD_op7 hD) hS hE hl
  · refine cst (v := 8) rfl ?_
    refine lv_tableIn (tgt := 500) hx hb dL_law_40 (by decide) (by decide) rfl (by decide) ?_
    exact op_8 l C0 dC dI g x0 b f4 c4 f5 f7 f6 f2 cK kf cZ fT fU sa sf sc spf sdf slf srf sga sgb rows m0 a ca o0  (pK_op8 hK) (pP_op8 hP) (pD_op8 hD) hS hE hl
  · refine cst (v := 9) rfl ?_
    refine lv_tableIn (tgt := 537) hx hb dL_law_40 (by decide) (by decide) rfl (by decide) ?_
    exact op_9 l C0 dC dI g x0 b f4 c4 f5 f7 f6 f2 cK kf cZ fT fU sa sf sc spf sdf slf srf sga sgb rows m0 a ca o0  (pK_op9 hK) (pP_op9 hP) (pD_op9 hD) hS hE hl
  · refine cst (v := 10) rfl ?_
    refine lv_tableIn (tgt := 574) hx hb dL_law_40 (by decide) (by decide) rfl (by decide) ?_
    exact op_10 l C0 dC dI g x0 b f4 c4 f5 f7 f6 f2 cK kf cZ fT fU sa sf sc spf sdf slf srf sga sgb rows m0 a ca o0  (pK_op10 hK) (pP_op10 hP) (pD_op10 hD) hS hE hl
  · refine cst (v := 11) rfl ?_
    refine lv_tableIn (tgt := 611) hx hb dL_law_40 (by decide) (by decide) rfl (by decide) ?_
    exact op_11 l C0 dC dI g x0 b f4 c4 f5 f7 f6 f2 cK kf cZ fT fU sa sf sc spf sdf slf srf sga sgb rows m0 a ca o0  (pK_op11 hK) (pP_op11 hP) (pD_op11 hD) hS hE hl
  · refine cst (v := 12) rfl ?_
    refine lv_tableIn (tgt := 648) hx hb dL_law_40 (by decide) (by decide) rfl (by decide) ?_
    exact op_12 l C0 dC dI g x0 b f4 c4 f5 f7 f6 f2 cK kf cZ fT fU sa sf sc spf sdf slf srf sga sgb rows m0 a ca o0  (pK_op12 hK) (pP_op12 hP) (pD_op12 hD) hS hE hl
  · refine cst (v := 13) rfl ?_
    refine lv_tableIn (tgt := 685) hx hb dL_law_40 (by decide) (by decide) rfl (by decide) ?_
    exact op_13 l C0 dC dI g x0 b f4 c4 f5 f7 f6 f2 cK kf cZ fT fU sa sf sc spf sdf slf srf sga sgb rows m0 a ca o0  (pK_op13 hK) (pP_op13 hP) (pD_op13 hD) hS hE hl
  · refine cst (v := 14) rfl ?_
    refine lv_tableIn (tgt := 722) hx hb dL_law_40 (by decide) (by decide) rfl (by decide) ?_
    exact op_14 l hflags C0 dC dI g x0 b f4 c4 f5 f7 f6 f2 cK kf cZ fT fU sa sf sc spf sdf slf srf sga sgb rows m0 a ca o0  (pK_op14 hK) (pP_op14 hP) (pD_op14 hD) hS hE hl
  · refine cst (v := 15) rfl ?_
    refine lv_tableIn (tgt := 802) hx hb dL_law_40 (by decide) (by decide) rfl (by decide) ?_
    exact op_15 l C0 dC dI g x0 b f4 c4 f5 f7 f6 f2 cK kf cZ fT fU sa sf sc spf sdf slf srf sga sgb rows m0 a ca o0  (pK_op15 hK) (pP_op15 hP) (pD_op15 hD) hS hE hl
  · refine cst (v := 16) rfl ?_
    refine lv_tableIn (tgt := 839) hx hb dL_law_40 (by decide) (by decide) rfl (by decide) ?_
    exact op_16 l C0 dC dI g x0 b f4 c4 f5 f7 f6 f2 cK kf cZ fT fU sa sf sc spf sdf slf srf sga sgb rows m0 a ca o0  (pK_op16 hK) (pP_op16 hP) (pD_op16 hD) hS hE hl
  · refine cst (v := 17) rfl ?_
    refine lv_tableIn (tgt := 876) hx hb dL_law_40 (by decide) (by decide) rfl (by decide) ?_
    exact op_17 l C0 dC dI g x0 b f4 c4 f5 f7 f6 f2 cK kf cZ fT fU sa sf sc spf sdf slf srf sga sgb rows m0 a ca o0  (pK_op17 hK) (pP_op17 hP) (pD_op17 hD) hS hE hl
  · refine cst (v := 18) rfl ?_
    refine lv_tableIn (tgt := 913) hx hb dL_law_40 (by decide) (by decide) rfl (by decide) ?_
    exact op_18 l C0 dC dI g x0 b f4 c4 f5 f7 f6 f2 cK kf cZ fT fU sa sf sc spf sdf slf srf sga sgb rows m0 a ca o0  (pK_op18 hK) (pP_op18 hP) (pD_op18 hD) hS hE hl
  · refine cst (v := 19) rfl ?_
    refine lv_tableIn (tgt := 962) hx hb dL_law_40 (by decide) (by decide) rfl (by decide) ?_
    exact op_19 l C0 dC dI g x0 b f4 c4 f5 f7 f6 f2 cK kf cZ fT fU sa sf sc spf sdf slf srf sga sgb rows m0 a ca o0  (pK_op19 hK) (pP_op19 hP) (pD_op19 hD) hS hE hl
  · refine cst (v := 20) rfl ?_
    refine lv_tableIn (tgt := 1011) hx hb dL_law_40 (by decide) (by decide) rfl (by decide) ?_
    exact op_20 l C0 dC dI g x0 b f4 c4 f5 f7 f6 f2 cK kf cZ fT fU sa sf sc spf sdf slf srf sga sgb rows m0 a ca o0  (pK_op20 hK) (pP_op20 hP) (pD_op20 hD) hS hE hl
  · refine cst (v := 21) rfl ?_
    refine lv_tableIn (tgt := 1060) hx hb dL_law_40 (by decide) (by decide) rfl (by decide) ?_
    exact op_21 l C0 dC dI g x0 b f4 c4 f5 f7 f6 f2 cK kf cZ fT fU sa sf sc spf sdf slf srf sga sgb rows m0 a ca o0  (pK_op21 hK) (pP_op21 hP) (pD_op21 hD) hS hE hl
  · refine cst (v := 22) rfl ?_
    refine lv_tableIn (tgt := 1109) hx hb dL_law_40 (by decide) (by decide) rfl (by decide) ?_
    exact op_22 l C0 dC dI g x0 b f4 c4 f5 f7 f6 f2 cK kf cZ fT fU sa sf sc spf sdf slf srf sga sgb rows m0 a ca o0  (pK_op22 hK) (pP_op22 hP) (pD_op22 hD) hS hE hl
  · refine cst (v := 23) rfl ?_
    refine lv_tableIn (tgt := 1146) hx hb dL_law_40 (by decide) (by decide) rfl (by decide) ?_
    exact op_23 l C0 dC dI g x0 b f4 c4 f5 f7 f6 f2 cK kf cZ fT fU sa sf sc spf sdf slf srf sga sgb rows m0 a ca o0  (pK_op23 hK) (pP_op23 hP) (pD_op23 hD) hS hE hl
  · refine cst (v := 24) rfl ?_
    refine lv_tableIn (tgt := 1183) hx hb dL_law_40 (by decide) (by decide) rfl (by decide) ?_
    exact op_24 l C0 dC dI g x0 b f4 c4 f5 f7 f6 f2 cK kf cZ fT fU sa sf sc spf sdf slf srf sga sgb rows m0 a ca o0  (pK_op24 hK) (pP_op24 hP) (pD_op24 hD) hS hE hl
  · refine cst (v := 25) rfl ?_
    refine lv_tableIn (tgt := 1220) hx hb dL_law_40 (by decide) (by decide) rfl (by decide) ?_
    exact op_25 l C0 dC dI g x0 b f4 c4 f5 f7 f6 f2 cK kf cZ fT fU sa sf sc spf sdf slf srf sga sgb rows m0 a ca o0  (pK_op25 hK) (pP_op25 hP) (pD_op25 hD) hS hE hl
  · refine cst (v := 26) rfl ?_
    refine lv_tableIn (tgt := 1233) hx hb dL_law_40 (by decide) (by decide) rfl (by decide) ?_
    exact op_26 l C0 dC dI g x0 b f4 c4 f5 f7 f6 f2 cK kf cZ fT fU sa sf sc spf sdf slf srf sga sgb rows m0 a ca o0 hF1 hF2 hF3 hF4 hF5 hF6 hF7 hF8 hF9 hF10 hF11 hF12 hF13 (pK_op26 hK) (pP_op26 hP) (pD_op26 hD) hS hE hl
  · refine cst (v := 27) rfl ?_
    refine lv_tableIn (tgt := 1286) hx hb dL_law_40 (by decide) (by decide) rfl (by decide) ?_
    exact op_27 l C0 dC dI g x0 b f4 c4 f5 f7 f6 f2 cK kf cZ fT fU sa sf sc spf sdf slf srf sga sgb rows m0 a ca o0 hF1 hF2 hF3 hF4 hF5 hF6 hF7 hF8 hF9 hF10 hF11 hF12 hF13 (pK_op27 hK) (pP_op27 hP) (pD_op27 hD) hS hE hl
  · refine cst (v := 28) rfl ?_
    refine lv_tableOut (tgt := 1311) hx hb dL_law_40 (by decide) (by decide) ?_
    have hAe : (fun q : Nat => s.heap.size ≤ q) = (fun q : Nat => s.heap.size ≤ q) := rfl
    refine lv_iinc (v := 6) (lv' := [(4, .int 6), (3, .ref o0), (2, .ref m0), (1, .ref x0), (0, .ref b0)]) hx hb dL_law_1311 hl (k := 0) rfl (by decide) (by decide) rfl (fun ls hl => ?_)
    refine lv_goto (tgt := 23) hx hb dL_law_1314 (by decide) ?_
    refine lv_iload hx hb dL_law_23 (lv_at hl 0 rfl) ?_
    refine lv_aload_n hx hb dL_law_25 rfl (lv_at hl 4 rfl) ?_
    refine va_slen hx hb hX hbl hbA hS dL_law_26 ?_
    refine cst (v := 6) (by decide) ?_
    refine lv_bipush (v := 6) hx hb dL_law_27 (by decide) ?_
    refine lv_isub hx hb dL_law_29 ?_
    refine cst (v := 0) (by decide) ?_
    refine lv_icmp_gt (tgt := 1317) hx hb dL_law_30 (by decide) (fun c30_1 => ?_) (fun c30_1 => by exfalso; exact absurd c30_1 (by decide))
    refine lv_iconst (v := 1) hx hb dL_law_1317 (by decide) ?_
    refine va_forget (fun q h => by have h8 := hS.2.2 q h; rw [← hAe] at h8; exact h8) ?_
    refine W.widen (k := 600002) (n := 7302232) (Nat.le_of_ble_eq_true rfl) (Nat.le_of_ble_eq_true rfl) ?_
    exact lw_ret hx hb hr hlocks dL_law_1318
  · refine cst (v := 29) rfl ?_
    refine lv_tableOut (tgt := 1311) hx hb dL_law_40 (by decide) (by decide) ?_
    have hAe : (fun q : Nat => s.heap.size ≤ q) = (fun q : Nat => s.heap.size ≤ q) := rfl
    refine lv_iinc (v := 6) (lv' := [(4, .int 6), (3, .ref o0), (2, .ref m0), (1, .ref x0), (0, .ref b0)]) hx hb dL_law_1311 hl (k := 0) rfl (by decide) (by decide) rfl (fun ls hl => ?_)
    refine lv_goto (tgt := 23) hx hb dL_law_1314 (by decide) ?_
    refine lv_iload hx hb dL_law_23 (lv_at hl 0 rfl) ?_
    refine lv_aload_n hx hb dL_law_25 rfl (lv_at hl 4 rfl) ?_
    refine va_slen hx hb hX hbl hbA hS dL_law_26 ?_
    refine cst (v := 6) (by decide) ?_
    refine lv_bipush (v := 6) hx hb dL_law_27 (by decide) ?_
    refine lv_isub hx hb dL_law_29 ?_
    refine cst (v := 0) (by decide) ?_
    refine lv_icmp_gt (tgt := 1317) hx hb dL_law_30 (by decide) (fun c30_2 => ?_) (fun c30_2 => by exfalso; exact absurd c30_2 (by decide))
    refine lv_iconst (v := 1) hx hb dL_law_1317 (by decide) ?_
    refine va_forget (fun q h => by have h8 := hS.2.2 q h; rw [← hAe] at h8; exact h8) ?_
    refine W.widen (k := 600002) (n := 7302232) (Nat.le_of_ble_eq_true rfl) (Nat.le_of_ble_eq_true rfl) ?_
    exact lw_ret hx hb hr hlocks dL_law_1318
  · refine cst (v := 30) rfl ?_
    refine lv_tableOut (tgt := 1311) hx hb dL_law_40 (by decide) (by decide) ?_
    have hAe : (fun q : Nat => s.heap.size ≤ q) = (fun q : Nat => s.heap.size ≤ q) := rfl
    refine lv_iinc (v := 6) (lv' := [(4, .int 6), (3, .ref o0), (2, .ref m0), (1, .ref x0), (0, .ref b0)]) hx hb dL_law_1311 hl (k := 0) rfl (by decide) (by decide) rfl (fun ls hl => ?_)
    refine lv_goto (tgt := 23) hx hb dL_law_1314 (by decide) ?_
    refine lv_iload hx hb dL_law_23 (lv_at hl 0 rfl) ?_
    refine lv_aload_n hx hb dL_law_25 rfl (lv_at hl 4 rfl) ?_
    refine va_slen hx hb hX hbl hbA hS dL_law_26 ?_
    refine cst (v := 6) (by decide) ?_
    refine lv_bipush (v := 6) hx hb dL_law_27 (by decide) ?_
    refine lv_isub hx hb dL_law_29 ?_
    refine cst (v := 0) (by decide) ?_
    refine lv_icmp_gt (tgt := 1317) hx hb dL_law_30 (by decide) (fun c30_3 => ?_) (fun c30_3 => by exfalso; exact absurd c30_3 (by decide))
    refine lv_iconst (v := 1) hx hb dL_law_1317 (by decide) ?_
    refine va_forget (fun q h => by have h8 := hS.2.2 q h; rw [← hAe] at h8; exact h8) ?_
    refine W.widen (k := 600002) (n := 7302232) (Nat.le_of_ble_eq_true rfl) (Nat.le_of_ble_eq_true rfl) ?_
    exact lw_ret hx hb hr hlocks dL_law_1318
  · refine cst (v := 31) rfl ?_
    refine lv_tableOut (tgt := 1311) hx hb dL_law_40 (by decide) (by decide) ?_
    have hAe : (fun q : Nat => s.heap.size ≤ q) = (fun q : Nat => s.heap.size ≤ q) := rfl
    refine lv_iinc (v := 6) (lv' := [(4, .int 6), (3, .ref o0), (2, .ref m0), (1, .ref x0), (0, .ref b0)]) hx hb dL_law_1311 hl (k := 0) rfl (by decide) (by decide) rfl (fun ls hl => ?_)
    refine lv_goto (tgt := 23) hx hb dL_law_1314 (by decide) ?_
    refine lv_iload hx hb dL_law_23 (lv_at hl 0 rfl) ?_
    refine lv_aload_n hx hb dL_law_25 rfl (lv_at hl 4 rfl) ?_
    refine va_slen hx hb hX hbl hbA hS dL_law_26 ?_
    refine cst (v := 6) (by decide) ?_
    refine lv_bipush (v := 6) hx hb dL_law_27 (by decide) ?_
    refine lv_isub hx hb dL_law_29 ?_
    refine cst (v := 0) (by decide) ?_
    refine lv_icmp_gt (tgt := 1317) hx hb dL_law_30 (by decide) (fun c30_4 => ?_) (fun c30_4 => by exfalso; exact absurd c30_4 (by decide))
    refine lv_iconst (v := 1) hx hb dL_law_1317 (by decide) ?_
    refine va_forget (fun q h => by have h8 := hS.2.2 q h; rw [← hAe] at h8; exact h8) ?_
    refine W.widen (k := 600002) (n := 7302232) (Nat.le_of_ble_eq_true rfl) (Nat.le_of_ble_eq_true rfl) ?_
    exact lw_ret hx hb hr hlocks dL_law_1318
