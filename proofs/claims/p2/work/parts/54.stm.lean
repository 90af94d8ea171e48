theorem dL_law_8 : decode cL_law 8 = .ok (.new 16, 3) := by decide +kernel
theorem dL_law_11 : decode cL_law 11 = .ok (.dup, 1) := by decide +kernel
theorem dL_law_12 : decode cL_law 12 = .ok (.invokespecial 18, 3) := by decide +kernel
theorem dL_law_15 : decode cL_law 15 = .ok (.astore_n 2, 1) := by decide +kernel
theorem dL_law_16 : decode cL_law 16 = .ok (.iconst 1, 1) := by decide +kernel
theorem dL_law_17 : decode cL_law 17 = .ok (.newarray .long, 2) := by decide +kernel
theorem dL_law_19 : decode cL_law 19 = .ok (.astore_n 3, 1) := by decide +kernel
theorem dL_law_20 : decode cL_law 20 = .ok (.iconst 0, 1) := by decide +kernel
theorem dL_law_21 : decode cL_law 21 = .ok (.istore 4, 2) := by decide +kernel
theorem qw_946 : (Cond.classLink RL 16 RX9 : Cond) ∈ TBL := List.mem_of_getElem? (i := 3) (by decide +kernel)
theorem qw_947 : (Cond.instantiable RX9 44 : Cond) ∈ TBL := List.mem_of_getElem? (i := 4) (by decide +kernel)
theorem qw_948 : (Cond.code yX9_init cX9_init 1 none : Cond) ∈ TBL := List.mem_of_getElem? (i := 164) (by decide +kernel)
theorem qw_949 : (Cond.methodLink RL 18 yX9_init : Cond) ∈ TBL := List.mem_of_getElem? (i := 162) (by decide +kernel)
theorem qw_950 : (Cond.instanceMethod yX9_init : Cond) ∈ TBL := List.mem_of_getElem? (i := 163) (by decide +kernel)
theorem rgG0_b82d1e0 {A : Nat → Prop} {D : va_G} {cl : List vw_C} {H : Heap} {R : va_W} {d : Nat × va_E} (hP : va_P D cl (([] ++ [d]) ++ R) H) (hD : va_D A (([] ++ [d]) ++ R)) : va_P D cl ([d] ++ R) H ∧ va_D A ([d] ++ R) := ⟨hP, hD⟩
theorem rgP1_ead363b {D : va_G} {cl : List vw_C} {H : Heap} {c0 : Nat × va_E} {R : va_W} (h : va_P D cl ([c0] ++ R) H) : va_P D cl ([c0]) H := h.sub (ws' := [c0]) [0] rfl
theorem rgD1_0d657b4 {A : Nat → Prop} {c0 : Nat × va_E} {R : va_W} (h : va_D A ([c0] ++ R)) : va_D A ([c0]) := h.sub (ws' := [c0]) [0] (by decide +kernel) rfl
theorem rgJ1_24493f7 {A0 : Nat → Prop} {D : va_G} {cl : List vw_C} {H H1 : Heap} {c0 : Nat × va_E} {d0 d1 d2 d3 d4 d5 d6 d7 d8 d9 d10 d11 d12 d13 d14 d15 d16 d17 d18 d19 d20 d21 d22 d23 d24 : Nat × va_E} {R : va_W} (hP : va_P D cl ([c0] ++ R) H) (hD : va_D A0 ([c0] ++ R)) (hk : ∀ q : Nat, q < H.size → ¬ va_A ([c0]) H.size q → H1[q]? = H[q]?) (hF : ∀ q, va_A ([c0]) H.size q → A0 q) (hP1 : va_P D cl ([d0, d1, d2, d3, d4, d5, d6, d7, d8, d9, d10, d11, d12, d13, d14, d15, d16, d17, d18, d19, d20, d21, d22, d23, d24]) H1) (hD1 : va_D (va_A ([c0]) H.size) ([d0, d1, d2, d3, d4, d5, d6, d7, d8, d9, d10, d11, d12, d13, d14, d15, d16, d17, d18, d19, d20, d21, d22, d23, d24])) : va_P D cl ([d0, d1, d2, d3, d4, d5, d6, d7, d8, d9, d10, d11, d12, d13, d14, d15, d16, d17, d18, d19, d20, d21, d22, d23, d24] ++ R) H1 ∧ va_D A0 ([d0, d1, d2, d3, d4, d5, d6, d7, d8, d9, d10, d11, d12, d13, d14, d15, d16, d17, d18, d19, d20, d21, d22, d23, d24] ++ R) := by
  obtain ⟨h1, h2⟩ := va_joinQ (X := [c0]) (cx := [c0]) (wr := []) (w1 := [d0, d1, d2, d3, d4, d5, d6, d7, d8, d9, d10, d11, d12, d13, d14, d15, d16, d17, d18, d19, d20, d21, d22, d23, d24]) hP hD [0] [] rfl rfl (by decide +kernel) (by decide +kernel) hk hF hP1 hD1
  exact ⟨va_P.part (X := [d0, d1, d2, d3, d4, d5, d6, d7, d8, d9, d10, d11, d12, d13, d14, d15, d16, d17, d18, d19, d20, d21, d22, d23, d24]) (cx := [d0, d1, d2, d3, d4, d5, d6, d7, d8, d9, d10, d11, d12, d13, d14, d15, d16, d17, d18, d19, d20, d21, d22, d23, d24]) h1 [0, 1, 2, 3, 4, 5, 6, 7, 8, 9, 10, 11, 12, 13, 14, 15, 16, 17, 18, 19, 20, 21, 22, 23, 24] rfl, va_D.part (X := [d0, d1, d2, d3, d4, d5, d6, d7, d8, d9, d10, d11, d12, d13, d14, d15, d16, d17, d18, d19, d20, d21, d22, d23, d24]) (cx := [d0, d1, d2, d3, d4, d5, d6, d7, d8, d9, d10, d11, d12, d13, d14, d15, d16, d17, d18, d19, d20, d21, d22, d23, d24]) h2 [0, 1, 2, 3, 4, 5, 6, 7, 8, 9, 10, 11, 12, 13, 14, 15, 16, 17, 18, 19, 20, 21, 22, 23, 24] (by decide +kernel) rfl⟩
theorem rgA0_6191b53 {D : va_G} {cl : List vw_C} {U : State} {u0 u1 u2 u3 u4 u5 u6 u7 u8 u9 u10 u11 u12 u13 u14 u15 u16 u17 u18 u19 u20 u21 u22 u23 : ClassId × FieldType} (h : va_K D cl [] U) (h1 : va_K D cl [u0, u1, u2, u3, u4, u5, u6, u7, u8, u9, u10, u11, u12, u13, u14, u15, u16, u17, u18, u19, u20, u21, u22, u23] U) : va_K D cl [u0, u1, u2, u3, u4, u5, u6, u7, u8, u9, u10, u11, u12, u13, u14, u15, u16, u17, u18, u19, u20, u21, u22, u23] U := h.app h1
theorem rgG25_d175855 {A : Nat → Prop} {D : va_G} {cl : List vw_C} {H : Heap} {c0 c1 c2 c3 c4 c5 c6 c7 c8 c9 c10 c11 c12 c13 c14 c15 c16 c17 c18 c19 c20 c21 c22 c23 c24 : Nat × va_E} {R : va_W} {d : Nat × va_E} (hP : va_P D cl (([c0, c1, c2, c3, c4, c5, c6, c7, c8, c9, c10, c11, c12, c13, c14, c15, c16, c17, c18, c19, c20, c21, c22, c23, c24] ++ [d]) ++ R) H) (hD : va_D A (([c0, c1, c2, c3, c4, c5, c6, c7, c8, c9, c10, c11, c12, c13, c14, c15, c16, c17, c18, c19, c20, c21, c22, c23, c24] ++ [d]) ++ R)) : va_P D cl ([c0, c1, c2, c3, c4, c5, c6, c7, c8, c9, c10, c11, c12, c13, c14, c15, c16, c17, c18, c19, c20, c21, c22, c23, c24, d] ++ R) H ∧ va_D A ([c0, c1, c2, c3, c4, c5, c6, c7, c8, c9, c10, c11, c12, c13, c14, c15, c16, c17, c18, c19, c20, c21, c22, c23, c24, d] ++ R) := ⟨hP, hD⟩
set_option maxHeartbeats 4000000 in
set_option maxRecDepth 100000 in
theorem st_m {p : Program} {e : Env} {s : State} {m : MethodId} {below : List Frame} {meth : Method} {c : Code} (l : Launch) {b0 L : Nat} {xs : Nat → Int32} (C0 : lw_At p s m meth c b0 L xs) (dC : Nat → ClassId) (dI : Nat → Nat → Nat) (g : Gv) {x0 : Nat} {wr : va_W} {H : Heap} {locs : List Loc} {ls : Array Slot} {Q : State → Prop} (hK : va_K (dC, dI) vwCl [] s) (hP : va_P (dC, dI) vwCl wr H) (hD : va_D (fun q : Nat => s.heap.size ≤ q) wr) (hS : va_S (fun q : Nat => s.heap.size ≤ q) s.heap H locs) (hE : Ev g (fun q : Nat => s.heap.size ≤ q) s) (hl : lv_has ls 7 [(1, .ref x0), (0, .ref b0)]) (kk : ∀ (m0 : Nat) (wm : va_W) (tm : List (ClassId × FieldType)) (o0 : Nat) (cO : ClassId) (H : Heap) (locs : List Loc) (ls : Array Slot), MW g m0 0 wm tm → va_K (dC, dI) vwCl (tm ++ [(cO, .long)]) s → va_P (dC, dI) vwCl ((wm ++ ([(o0, .inl (cO, 1, .inr (.inl (fun _ => 0))))] : va_W)) ++ wr) H → va_D (fun q : Nat => s.heap.size ≤ q) ((wm ++ ([(o0, .inl (cO, 1, .inr (.inl (fun _ => 0))))] : va_W)) ++ wr) → va_S (fun q : Nat => s.heap.size ≤ q) s.heap H locs → lv_has ls 7 [(4, .int 0), (3, .ref o0), (2, .ref m0), (1, .ref x0), (0, .ref b0)] → W p l e room_1 s m #[Value.ref b0] below meth c H locs 243 7538 Q (F0 m 23 ls [])) : W p l e room_1 s m #[Value.ref b0] below meth c H locs 217 3107 Q (F0 m 8 ls []) := by
  obtain ⟨hx, hb, hr, hml, hown, hts0, hXs, hbl, hlocks, hgv⟩ := id C0
  have hts := fun (w : Cond) (h : w ∈ TBL) => hts0 w (TBin w h)
  have hown : s.vm.findClass RL = some m.cls := hown
  have hN := hE.1
  have hA : ∀ q : Nat, s.heap.size ≤ q → (fun q : Nat => s.heap.size ≤ q) q := fun _ h => h
  generalize hAe : (fun q : Nat => s.heap.size ≤ q) = A at hD hS hE hA kk
  replace hP : va_P (dC, dI) vwCl ([] ++ wr) H := hP
  replace hD : va_D A ([] ++ wr) := hD
  refine va_new (ci := 8) (fs := [.int 0, .int 0, .int 0, .int 0, .null, .int 0, .int 0, .int 0, .int 0, .int 0, .int 0, .long 0, .int 0, .int 0, .int 0, .int 0, .int 0, .int 0, .null, .null, .null, .null, .null, .null, .null, .null, .null, .null, .null, .null, .null, .null, .null, .null, .null, .null, .long 0, .int 0, .null, .null, .int 0, .null, .null, .null]) (C := RX9) (T := TX9) (N := 44) hx hb hts inlX9 tyX9 tyX9_ok hown (hts (.classLink RL 16 RX9) qw_946) (hts (.instantiable RX9 44) qw_947) (hts (.initialized RX9) qw_386) hK hP hD hS hA rfl dv_X9 (Nat.le_of_ble_eq_true rfl) (Nat.le_of_ble_eq_true rfl) dL_law_8 (fun q1 H hP hD hS => ?_)
  have hP := va_P.swap hP
  have hD := va_D.swap hD
  have hJ9 := rgG0_b82d1e0 hP hD
  clear hP hD; obtain ⟨hP, hD⟩ := hJ9
  refine W.widen (k := 218) (n := 3151) (Nat.le_of_ble_eq_true rfl) (Nat.le_of_ble_eq_true rfl) ?_
  refine lv_dup hx hb dL_law_11 rfl ?_
  have hPc := (rgP1_ead363b hP)
  have hKc := hK
  have hDc := (rgD1_0d657b4 hD)
  have hFc := freeW hDc hS hA
  refine va_callv (va_runI (As := []) (rest := [.ref q1]) ⟨hx, hb, hml, hown, hts⟩ (k_X9_init l dC dI g H.size (q1) ) (cwI 0 hts (gwC qw_948) rfl rfl rfl (hts (.initialized RX9) qw_386) (hts (.methodLink RL 18 yX9_init) qw_949) (hts (.instanceMethod yX9_init) qw_950) rfl (by decide +kernel) ⟨Nat.le_of_ble_eq_true rfl, Nat.le_of_ble_eq_true rfl⟩) ⟨fun a U g9 mk q => ⟨q.1, q.2.1, q.2.2.1, va_K.moved (u := U) (U := U.calling g9 mk a) (Vm.Alike.refl U.vm) q.2.2.2.1, q.2.2.2.2.1, Ev.bl q.2.2.2.2.2⟩, fun U hU hW => ⟨rfl, by rw [hU], atB hU hPc, va_K.moved hW.alike hKc, hDc.weaken (fun _ _ _ _ => trivial), hE.go hS hFc hU hW⟩⟩ rfl rfl hl.1 rfl (lv_room (Nat.le_of_ble_eq_true rfl)) dL_law_12 ⟨Nat.le_of_ble_eq_true rfl, Nat.le_of_ble_eq_true rfl⟩) hS (fun q _ h => hFc q h) hFc (fun u2 t H1 locs ht hvm h_u2 hB hz1 hk1 hS => ?_)
  obtain ⟨za0_4_4, za0_18_5, za0_19_6, za0_20_7, za0_21_8, za0_22_9, za0_23_10, za0_24_11, za0_25_12, za0_26_13, za0_27_14, za0_28_15, za0_29_16, za0_30_17, za0_31_18, za0_32_19, za0_33_20, za0_34_21, za0_35_22, za0_38_23, za0_39_24, za0_41_25, za0_42_26, za0_43_27, za0_4_c_28, za0_18_c_29, za0_19_c_30, za0_20_c_31, za0_21_c_32, za0_22_c_33, za0_23_c_34, za0_24_c_35, za0_25_c_36, za0_26_c_37, za0_27_c_38, za0_28_c_39, za0_29_c_40, za0_30_c_41, za0_31_c_42, za0_32_c_43, za0_33_c_44, za0_34_c_45, za0_35_c_46, za0_38_c_47, za0_39_c_48, za0_41_c_49, za0_42_c_50, za0_43_c_51, hP1, hK1, hD1⟩ := hB
  have hK1 := va_K.moved hvm.symm hK1
  have hJ9 := rgJ1_24493f7 hP hD hk1 hFc (atH ht hP1) hD1
  clear hP hD hPc hKc hDc hFc hP1 hD1 hk1 hz1
  obtain ⟨hP, hD⟩ := hJ9
  replace hK := rgA0_6191b53 hK hK1
  clear hK1
  generalize H1 = H at hP hS ⊢
  refine W.widen (k := 242) (n := 7537) (Nat.le_of_ble_eq_true rfl) (Nat.le_of_ble_eq_true rfl) ?_
  refine lv_astore_n (lv' := [(2, .ref q1), (1, .ref x0), (0, .ref b0)]) hx hb dL_law_15 rfl hl (by decide) rfl (fun ls hl => ?_)
  refine lv_iconst (v := 1) hx hb dL_law_16 (by decide) ?_
  refine va_newa (atype := .long) (ty := .long) (a0 := (1, .inr (.inl (fun _ => 0)))) (N' := 1) hx hb (hts (.arrayClass .long) qw_688) rfl hK hP hD hS hA (fun _ => rfl) (by decide) (by decide) (Nat.le_of_ble_eq_true rfl) (Nat.le_of_ble_eq_true rfl) (Nat.le_of_ble_eq_true rfl) dL_law_17 (fun q52 cA53 H hK hP hD hS => ?_)
  have hP := va_P.swap hP
  have hD := va_D.swap hD
  replace hK : va_K (dC, dI) vwCl [(za0_4_c_28, .byte), (za0_18_c_29, .int), (za0_19_c_30, .int), (za0_20_c_31, .int), (za0_21_c_32, .int), (za0_22_c_33, .long), (za0_23_c_34, .int), (za0_24_c_35, .int), (za0_25_c_36, .long), (za0_26_c_37, .int), (za0_27_c_38, .long), (za0_28_c_39, .int), (za0_29_c_40, .int), (za0_30_c_41, .int), (za0_31_c_42, .int), (za0_32_c_43, .int), (za0_33_c_44, .int), (za0_34_c_45, .int), (za0_35_c_46, .boolean), (za0_38_c_47, .int), (za0_39_c_48, .int), (za0_41_c_49, .int), (za0_42_c_50, .boolean), (za0_43_c_51, .int), (cA53, .long)] s := hK
  have hJ9 := rgG25_d175855 hP hD
  clear hP hD; obtain ⟨hP, hD⟩ := hJ9
  refine W.widen (k := 243) (n := 7538) (Nat.le_of_ble_eq_true rfl) (Nat.le_of_ble_eq_true rfl) ?_
  refine lv_astore_n (lv' := [(3, .ref q52), (2, .ref q1), (1, .ref x0), (0, .ref b0)]) hx hb dL_law_19 rfl hl (by decide) rfl (fun ls hl => ?_)
  refine lv_iconst (v := 0) hx hb dL_law_20 (by decide) ?_
  refine lv_istore (lv' := [(4, .int 0), (3, .ref q52), (2, .ref q1), (1, .ref x0), (0, .ref b0)]) hx hb dL_law_21 hl (by decide) rfl (fun ls hl => ?_)
  exact kk q1 _ _ q52 cA53 H locs _ (MW_mk g q1 0 0 0 0 0 za0_4_4 0 0 0 0 0 0 0 0 0 0 0 0 0 za0_18_5 za0_19_6 za0_20_7 za0_21_8 za0_22_9 za0_23_10 za0_24_11 za0_25_12 za0_26_13 za0_27_14 za0_28_15 za0_29_16 za0_30_17 za0_31_18 za0_32_19 za0_33_20 za0_34_21 za0_35_22 0 0 za0_38_23 za0_39_24 0 za0_41_25 za0_42_26 za0_43_27 za0_4_c_28 (fun _ => 0) za0_18_c_29 (fun _ => 0) za0_19_c_30 (fun _ => 0) za0_20_c_31 (fun _ => 0) za0_21_c_32 (fun _ => 0) za0_22_c_33 (fun _ => 0) za0_23_c_34 (fun _ => 0) za0_24_c_35 (fun _ => 0) za0_25_c_36 (fun _ => 0) za0_26_c_37 (fun _ => 0) za0_27_c_38 (fun _ => 0) za0_28_c_39 (fun _ => 0) za0_29_c_40 (fun _ => 0) za0_30_c_41 (fun _ => 0) za0_31_c_42 (fun _ => 0) za0_32_c_43 (fun _ => 0) za0_33_c_44 (fun _ => 0) za0_34_c_45 (fun _ => 0) za0_35_c_46 (fun _ => 0) za0_38_c_47 (fun _ => 0) za0_39_c_48 (fun _ => 0) za0_41_c_49 (fun _ => 0) za0_42_c_50 (fun _ => 0) za0_43_c_51 (fun _ => 0) (by decide) (by decide) (by decide) (by decide) (by decide) (by decide) (by decide) (vr0 (by decide)) (vr0 (by decide)) (vr0 (by decide)) (vr0 (by decide)) (by decide) RowOk.zero (WOk.nil (by decide)) (MU.nil (by decide)) MK.zero rfl) hK hP hD hS (lv_sub hl [0, 1, 2, 3, 4] rfl)
