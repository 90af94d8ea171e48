theorem dL_law_23 : decode cL_law 23 = .ok (.iload 4, 2) := by decide +kernel
theorem dL_law_25 : decode cL_law 25 = .ok (.aload_n 0, 1) := by decide +kernel
theorem dL_law_26 : decode cL_law 26 = .ok (.arraylength, 1) := by decide +kernel
theorem dL_law_27 : decode cL_law 27 = .ok (.bipush 6, 2) := by decide +kernel
theorem dL_law_29 : decode cL_law 29 = .ok (.isub, 1) := by decide +kernel
theorem dL_law_30 : decode cL_law 30 = .ok (.if_icmp .gt 1259, 3) := by decide +kernel
theorem dL_law_33 : decode cL_law 33 = .ok (.aload_n 0, 1) := by decide +kernel
theorem dL_law_34 : decode cL_law 34 = .ok (.iload 4, 2) := by decide +kernel
theorem dL_law_36 : decode cL_law 36 = .ok (.iaload, 1) := by decide +kernel
theorem dL_law_37 : decode cL_law 37 = .ok (.bipush 31, 2) := by decide +kernel
theorem dL_law_39 : decode cL_law 39 = .ok (.iand, 1) := by decide +kernel
theorem dL_law_40 : decode cL_law 40 = .ok (.tableswitch 1243 0 27 #[128, 201, 226, 275, 312, 349, 386, 423, 460, 497, 534, 571, 608, 645, 682, 734, 771, 808, 845, 894, 943, 992, 1041, 1078, 1115, 1152, 1165, 1218], 128) := by decide +kernel
theorem dL_law_1283 : decode cL_law 1283 = .ok (.iinc 4 6, 3) := by decide +kernel
theorem dL_law_1286 : decode cL_law 1286 = .ok (.goto (-1263), 3) := by decide +kernel
theorem dL_law_1289 : decode cL_law 1289 = .ok (.iconst 1, 1) := by decide +kernel
theorem dL_law_1290 : decode cL_law 1290 = .ok (.ireturn, 1) := by decide +kernel

set_option maxHeartbeats 4000000 in
set_option maxRecDepth 100000 in
theorem law_loop {p : Program} {e : Env} {s : State} {m : MethodId} {below : List Frame} {meth : Method} {c : Code} (l : Launch) (hflags : l.flags = flags0) {b0 L : Nat} {xs : Nat → Int32} (C0 : lw_At p s m meth c b0 L xs) (dC : Nat → ClassId) (dI : Nat → Nat → Nat) (g : Gv) {x0 m0 o0 : Nat} {cO : ClassId} {tm : List (ClassId × FieldType)} {wx rx wm : va_W} {tx : List (ClassId × FieldType)} {fo : Nat → Int64} {H : Heap} {locs : List Loc} {ls : Array Slot} (hL : L ≤ 3072) (hX : XW g x0 wx rx tx) (hM : MW g m0 wm tm) (hK : va_K (dC, dI) vwCl (tx ++ (tm ++ [(cO, .long)])) s) (hP : va_P (dC, dI) vwCl (wx ++ (rx ++ (wm ++ ([(o0, .inl (cO, 1, .inr (.inl fo)))] : va_W)))) H) (hD : va_D (fun q : Nat => s.heap.size ≤ q) (wx ++ (rx ++ (wm ++ ([(o0, .inl (cO, 1, .inr (.inl fo)))] : va_W))))) (hS : va_S (fun q : Nat => s.heap.size ≤ q) s.heap H locs) (hl : lv_has ls 7 [(4, .int 0), (3, .ref o0), (2, .ref m0), (1, .ref x0), (0, .ref b0)]) (hE : Ev g (fun q : Nat => s.heap.size ≤ q) s) : W p l e room_1 s m #[Value.ref b0] below meth c H locs 243 7538 (lw_Z below #[Value.ref b0] s) (F0 m 23 ls []) := by
  obtain ⟨hx, hb, hr, hml, hown, hts0, hXs, hbl, hlocks, hgv⟩ := id C0
  have hbA : ¬ (fun q : Nat => s.heap.size ≤ q) b0 := Nat.not_le.mpr hbl
  have qc0 : (0 : Int32).toInt = 0 := by decide
  refine wloopC (fun n H locs ls ck sk => ∃ (i : Int32) (wx rx : va_W) (tx : List (ClassId × FieldType)) (wm : va_W) (fo : Nat → Int64), n = (4000 - i.toInt).toNat ∧ 0 ≤ i.toInt ∧ i.toInt ≤ 3078 ∧ 6 * ck ≤ 6 * 243 + i.toInt.toNat ∧ sk ≤ 7538 + i.toInt.toNat ∧ XW g x0 wx rx tx ∧ MW g m0 wm tm ∧ va_K (dC, dI) vwCl (tx ++ (tm ++ [(cO, .long)])) s ∧ va_P (dC, dI) vwCl (wx ++ (rx ++ (wm ++ ([(o0, .inl (cO, 1, .inr (.inl fo)))] : va_W)))) H ∧ va_D (fun q : Nat => s.heap.size ≤ q) (wx ++ (rx ++ (wm ++ ([(o0, .inl (cO, 1, .inr (.inl fo)))] : va_W)))) ∧ va_S (fun q : Nat => s.heap.size ≤ q) s.heap H locs ∧ lv_has ls 7 [(4, .int i), (3, .ref o0), (2, .ref m0), (1, .ref x0), (0, .ref b0)]) ?_ 4000 H locs ls 243 7538 ⟨0, wx, rx, tx, wm, fo, (by rw [qc0]; rfl), (by omega), (by omega), (by omega), (by omega), hX, hM, hK, hP, hD, hS, hl⟩
  clear hX hM hK hP hD hS hl
  intro n H locs ls ck sk hI ih
  obtain ⟨i, wx, rx, tx, wm, fo, hn, h0, h1, hck, hsk, hX, hM, hK, hP, hD, hS, hl⟩ := hI
  refine lv_iload hx hb dL_law_23 (lv_at hl 0 rfl) ?_
  refine lv_aload_n hx hb dL_law_25 rfl (lv_at hl 4 rfl) ?_
  refine va_slen hx hb hXs hbl hbA hS dL_law_26 ?_
  refine lv_topi (fun x1 e_x1 => ?_)
  have t_x1 : x1.toInt = (L : Int) := by rw [e_x1]; exact nI_toInt (by omega)
  refine lv_bipush (v := 6) hx hb dL_law_27 (by decide) ?_
  refine lv_isub hx hb dL_law_29 ?_
  refine lv_topi (fun x2 e_x2 => ?_)
  have e_x2 := ti_sub e_x2 rfl (show (6 : Int32).toInt = 6 by decide) (by omega)
  refine lv_icmp_gt (tgt := 1289) hx hb dL_law_30 (by decide) (fun c1 => ?_) (fun c1 => ?_)
  · refine lv_iconst (v := 1) hx hb dL_law_1289 (by decide) ?_
    refine va_forget (fun q h => hS.2.2 q h) ?_
    refine W.widen (k := 601024) (n := 7293034) (by omega) (by omega) ?_
    exact lw_ret hx hb hr hlocks dL_law_1290
  · have c1 : ¬ (x2.toInt < i.toInt) := mt (cv_lt rfl rfl).mpr c1
    have h6 : i.toInt + 6 ≤ (L : Int) := by omega
    have kk : ∀ (wx rx : va_W) (tx : List (ClassId × FieldType)) (wm : va_W) (fo : Nat → Int64) (H : Heap) (locs : List Loc) (ls : Array Slot), XW g x0 wx rx tx → MW g m0 wm tm → va_K (dC, dI) vwCl (tx ++ (tm ++ [(cO, .long)])) s → va_P (dC, dI) vwCl (wx ++ (rx ++ (wm ++ ([(o0, .inl (cO, 1, .inr (.inl fo)))] : va_W)))) H → va_D (fun q : Nat => s.heap.size ≤ q) (wx ++ (rx ++ (wm ++ ([(o0, .inl (cO, 1, .inr (.inl fo)))] : va_W)))) → va_S (fun q : Nat => s.heap.size ≤ q) s.heap H locs → lv_has ls 7 [(4, .int i), (3, .ref o0), (2, .ref m0), (1, .ref x0), (0, .ref b0)] → W p l e room_1 s m #[Value.ref b0] below meth c H locs (ck + 1) (sk + 6) (lw_Z below #[Value.ref b0] s) (F0 m 1283 ls []) := by
      intro wx rx tx wm fo H locs ls hX hM hK hP hD hS hl
      obtain ⟨j, e_j⟩ : ∃ j : Int32, j = i + 6 := ⟨_, rfl⟩
      refine lv_iinc (v := j) (lv' := [(4, .int j), (3, .ref o0), (2, .ref m0), (1, .ref x0), (0, .ref b0)]) hx hb dL_law_1283 hl (k := 0) rfl (by rw [e_j]; rfl) (by decide) rfl (fun ls hl => ?_)
      have e_j := ti_add e_j rfl (show (6 : Int32).toInt = 6 by decide) (by omega)
      refine lv_goto (tgt := 23) hx hb dL_law_1286 (by decide) ?_
      exact ih (4000 - j.toInt).toNat _ _ _ _ _ (by omega) ⟨j, wx, rx, tx, wm, fo, rfl, (by omega), (by omega), (by omega), (by omega), hX, hM, hK, hP, hD, hS, hl⟩
    refine lv_aload_n hx hb dL_law_33 rfl (lv_at hl 4 rfl) ?_
    refine lv_iload hx hb dL_law_34 (lv_at hl 0 rfl) ?_
    refine va_sld hx hb hXs hbl hbA hS (vinI (by omega) (by omega)) dL_law_36 ?_
    refine lv_topi (fun x3 e_x3 => ?_)
    refine lv_bipush (v := 31) hx hb dL_law_37 (by decide) ?_
    refine lv_iand hx hb dL_law_39 ?_
    refine lv_topi (fun x4 e_x4 => ?_)
    have e_x4 := ti_and e_x4 (show (31 : Int32).toInt = 31 by decide) (by decide)
    rcases (show x4.toInt = 0 ∨ x4.toInt = 1 ∨ x4.toInt = 2 ∨ x4.toInt = 3 ∨ x4.toInt = 4 ∨ x4.toInt = 5 ∨ x4.toInt = 6 ∨ x4.toInt = 7 ∨ x4.toInt = 8 ∨ x4.toInt = 9 ∨ x4.toInt = 10 ∨ x4.toInt = 11 ∨ x4.toInt = 12 ∨ x4.toInt = 13 ∨ x4.toInt = 14 ∨ x4.toInt = 15 ∨ x4.toInt = 16 ∨ x4.toInt = 17 ∨ x4.toInt = 18 ∨ x4.toInt = 19 ∨ x4.toInt = 20 ∨ x4.toInt = 21 ∨ x4.toInt = 22 ∨ x4.toInt = 23 ∨ x4.toInt = 24 ∨ x4.toInt = 25 ∨ x4.toInt = 26 ∨ x4.toInt = 27 ∨ (x4.toInt < 0 ∨ 27 < x4.toInt) by omega) with hq | hq | hq | hq | hq | hq | hq | hq | hq | hq | hq | hq | hq | hq | hq | hq | hq | hq | hq | hq | hq | hq | hq | hq | hq | hq | hq | hq | hq
    · refine lv_tableIn (off := 128) (tgt := 168) hx hb dL_law_40 (by omega) (by omega) (by rw [hq]; rfl) (by decide) ?_
      exact oc_0 l hflags C0 dC dI g h0 h6 hL hX hM hK hP hD hS hl hE (by omega) (by omega) kk
    · refine lv_tableIn (off := 201) (tgt := 241) hx hb dL_law_40 (by omega) (by omega) (by rw [hq]; rfl) (by decide) ?_
      exact oc_1 l hflags C0 dC dI g h0 h6 hL hX hM hK hP hD hS hl hE (by omega) (by omega) kk
    · refine lv_tableIn (off := 226) (tgt := 266) hx hb dL_law_40 (by omega) (by omega) (by rw [hq]; rfl) (by decide) ?_
      exact oc_2 l hflags C0 dC dI g h0 h6 hL hX hM hK hP hD hS hl hE (by omega) (by omega) kk
    · refine lv_tableIn (off := 275) (tgt := 315) hx hb dL_law_40 (by omega) (by omega) (by rw [hq]; rfl) (by decide) ?_
      exact oc_3 l hflags C0 dC dI g h0 h6 hL hX hM hK hP hD hS hl hE (by omega) (by omega) kk
    · refine lv_tableIn (off := 312) (tgt := 352) hx hb dL_law_40 (by omega) (by omega) (by rw [hq]; rfl) (by decide) ?_
      exact oc_4 l hflags C0 dC dI g h0 h6 hL hX hM hK hP hD hS hl hE (by omega) (by omega) kk
    · refine lv_tableIn (off := 349) (tgt := 389) hx hb dL_law_40 (by omega) (by omega) (by rw [hq]; rfl) (by decide) ?_
      exact oc_5 l hflags C0 dC dI g h0 h6 hL hX hM hK hP hD hS hl hE (by omega) (by omega) kk
    · refine lv_tableIn (off := 386) (tgt := 426) hx hb dL_law_40 (by omega) (by omega) (by rw [hq]; rfl) (by decide) ?_
      exact oc_6 l hflags C0 dC dI g h0 h6 hL hX hM hK hP hD hS hl hE (by omega) (by omega) kk
    · refine lv_tableIn (off := 423) (tgt := 463) hx hb dL_law_40 (by omega) (by omega) (by rw [hq]; rfl) (by decide) ?_
      exact oc_7 l hflags C0 dC dI g h0 h6 hL hX hM hK hP hD hS hl hE (by omega) (by omega) kk
    · refine lv_tableIn (off := 460) (tgt := 500) hx hb dL_law_40 (by omega) (by omega) (by rw [hq]; rfl) (by decide) ?_
      exact oc_8 l hflags C0 dC dI g h0 h6 hL hX hM hK hP hD hS hl hE (by omega) (by omega) kk
    · refine lv_tableIn (off := 497) (tgt := 537) hx hb dL_law_40 (by omega) (by omega) (by rw [hq]; rfl) (by decide) ?_
      exact oc_9 l hflags C0 dC dI g h0 h6 hL hX hM hK hP hD hS hl hE (by omega) (by omega) kk
    · refine lv_tableIn (off := 534) (tgt := 574) hx hb dL_law_40 (by omega) (by omega) (by rw [hq]; rfl) (by decide) ?_
      exact oc_10 l hflags C0 dC dI g h0 h6 hL hX hM hK hP hD hS hl hE (by omega) (by omega) kk
    · refine lv_tableIn (off := 571) (tgt := 611) hx hb dL_law_40 (by omega) (by omega) (by rw [hq]; rfl) (by decide) ?_
      exact oc_11 l hflags C0 dC dI g h0 h6 hL hX hM hK hP hD hS hl hE (by omega) (by omega) kk
    · refine lv_tableIn (off := 608) (tgt := 648) hx hb dL_law_40 (by omega) (by omega) (by rw [hq]; rfl) (by decide) ?_
      exact oc_12 l hflags C0 dC dI g h0 h6 hL hX hM hK hP hD hS hl hE (by omega) (by omega) kk
    · refine lv_tableIn (off := 645) (tgt := 685) hx hb dL_law_40 (by omega) (by omega) (by rw [hq]; rfl) (by decide) ?_
      exact oc_13 l hflags C0 dC dI g h0 h6 hL hX hM hK hP hD hS hl hE (by omega) (by omega) kk
    · refine lv_tableIn (off := 682) (tgt := 722) hx hb dL_law_40 (by omega) (by omega) (by rw [hq]; rfl) (by decide) ?_
      exact oc_14 l hflags C0 dC dI g h0 h6 hL hX hM hK hP hD hS hl hE (by omega) (by omega) kk
    · refine lv_tableIn (off := 734) (tgt := 774) hx hb dL_law_40 (by omega) (by omega) (by rw [hq]; rfl) (by decide) ?_
      exact oc_15 l hflags C0 dC dI g h0 h6 hL hX hM hK hP hD hS hl hE (by omega) (by omega) kk
    · refine lv_tableIn (off := 771) (tgt := 811) hx hb dL_law_40 (by omega) (by omega) (by rw [hq]; rfl) (by decide) ?_
      exact oc_16 l hflags C0 dC dI g h0 h6 hL hX hM hK hP hD hS hl hE (by omega) (by omega) kk
    · refine lv_tableIn (off := 808) (tgt := 848) hx hb dL_law_40 (by omega) (by omega) (by rw [hq]; rfl) (by decide) ?_
      exact oc_17 l hflags C0 dC dI g h0 h6 hL hX hM hK hP hD hS hl hE (by omega) (by omega) kk
    · refine lv_tableIn (off := 845) (tgt := 885) hx hb dL_law_40 (by omega) (by omega) (by rw [hq]; rfl) (by decide) ?_
      exact oc_18 l hflags C0 dC dI g h0 h6 hL hX hM hK hP hD hS hl hE (by omega) (by omega) kk
    · refine lv_tableIn (off := 894) (tgt := 934) hx hb dL_law_40 (by omega) (by omega) (by rw [hq]; rfl) (by decide) ?_
      exact oc_19 l hflags C0 dC dI g h0 h6 hL hX hM hK hP hD hS hl hE (by omega) (by omega) kk
    · refine lv_tableIn (off := 943) (tgt := 983) hx hb dL_law_40 (by omega) (by omega) (by rw [hq]; rfl) (by decide) ?_
      exact oc_20 l hflags C0 dC dI g h0 h6 hL hX hM hK hP hD hS hl hE (by omega) (by omega) kk
    · refine lv_tableIn (off := 992) (tgt := 1032) hx hb dL_law_40 (by omega) (by omega) (by rw [hq]; rfl) (by decide) ?_
      exact oc_21 l hflags C0 dC dI g h0 h6 hL hX hM hK hP hD hS hl hE (by omega) (by omega) kk
    · refine lv_tableIn (off := 1041) (tgt := 1081) hx hb dL_law_40 (by omega) (by omega) (by rw [hq]; rfl) (by decide) ?_
      exact oc_22 l hflags C0 dC dI g h0 h6 hL hX hM hK hP hD hS hl hE (by omega) (by omega) kk
    · refine lv_tableIn (off := 1078) (tgt := 1118) hx hb dL_law_40 (by omega) (by omega) (by rw [hq]; rfl) (by decide) ?_
      exact oc_23 l hflags C0 dC dI g h0 h6 hL hX hM hK hP hD hS hl hE (by omega) (by omega) kk
    · refine lv_tableIn (off := 1115) (tgt := 1155) hx hb dL_law_40 (by omega) (by omega) (by rw [hq]; rfl) (by decide) ?_
      exact oc_24 l hflags C0 dC dI g h0 h6 hL hX hM hK hP hD hS hl hE (by omega) (by omega) kk
    · refine lv_tableIn (off := 1152) (tgt := 1192) hx hb dL_law_40 (by omega) (by omega) (by rw [hq]; rfl) (by decide) ?_
      exact oc_25 l hflags C0 dC dI g h0 h6 hL hX hM hK hP hD hS hl hE (by omega) (by omega) kk
    · refine lv_tableIn (off := 1165) (tgt := 1205) hx hb dL_law_40 (by omega) (by omega) (by rw [hq]; rfl) (by decide) ?_
      exact oc_26 l hflags C0 dC dI g h0 h6 hL hX hM hK hP hD hS hl hE (by omega) (by omega) kk
    · refine lv_tableIn (off := 1218) (tgt := 1258) hx hb dL_law_40 (by omega) (by omega) (by rw [hq]; rfl) (by decide) ?_
      exact oc_27 l hflags C0 dC dI g h0 h6 hL hX hM hK hP hD hS hl hE (by omega) (by omega) kk
    · refine lv_tableOut (tgt := 1283) hx hb dL_law_40 hq (by decide) ?_
      refine W.widen (k := ck + 1) (n := sk + 6) (by omega) (by omega) ?_
      exact kk wx rx tx wm fo H locs ls hX hM hK hP hD hS hl
