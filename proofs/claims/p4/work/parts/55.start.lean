theorem dL_law_0 : decode cL_law 0 = .ok (.new 8, 3) := by decide +kernel
theorem dL_law_3 : decode cL_law 3 = .ok (.dup, 1) := by decide +kernel
theorem dL_law_4 : decode cL_law 4 = .ok (.invokespecial 15, 3) := by decide +kernel
theorem dL_law_7 : decode cL_law 7 = .ok (.astore_n 1, 1) := by decide +kernel
theorem qw_951 : (Cond.instantiable RX8 11 : Cond) ∈ TBL := List.mem_of_getElem? (i := 1) (by decide +kernel)
theorem qw_952 : (Cond.classLink RL 8 RX8 : Cond) ∈ TBL := List.mem_of_getElem? (i := 0) (by decide +kernel)
theorem qw_953 : (Cond.code yX8_init cX8_init 2 none : Cond) ∈ TBL := List.mem_of_getElem? (i := 9) (by decide +kernel)
theorem qw_954 : (Cond.methodLink RL 15 yX8_init : Cond) ∈ TBL := List.mem_of_getElem? (i := 7) (by decide +kernel)
theorem qw_955 : (Cond.instanceMethod yX8_init : Cond) ∈ TBL := List.mem_of_getElem? (i := 8) (by decide +kernel)
theorem rgG0_36bd240 {A : Nat → Prop} {D : va_G} {cl : List vw_C} {H : Heap} {d : Nat × va_E} (hP : va_P D cl (([] ++ [d])) H) (hD : va_D A (([] ++ [d]))) : va_P D cl ([d]) H ∧ va_D A ([d]) := ⟨hP, hD⟩
theorem rgN1_7a33a5d {A0 : Nat → Prop} {D : va_G} {cl : List vw_C} {H H1 : Heap} {c0 : Nat × va_E} {d0 d1 d2 d3 d4 d5 d6 d7 d8 d9 d10 d11 d12 d13 d14 d15 d16 d17 d18 d19 d20 d21 d22 d23 d24 d25 d26 d27 d28 d29 d30 d31 d32 d33 d34 d35 d36 d37 d38 d39 d40 d41 d42 d43 d44 d45 d46 d47 d48 d49 d50 d51 d52 d53 d54 d55 d56 d57 d58 d59 d60 d61 d62 d63 d64 d65 d66 d67 d68 d69 d70 d71 : Nat × va_E} {R1 : va_W} (hP : va_P D cl ([c0]) H) (hD : va_D A0 ([c0])) (hk : ∀ q : Nat, q < H.size → ¬ va_A [c0] H.size q → H1[q]? = H[q]?) (hF : ∀ q, va_A [c0] H.size q → A0 q) (hP1 : va_P D cl ([d0, d1, d2, d3, d4, d5, d6, d7, d8, d9, d10, d11, d12, d13, d14, d15, d16, d17, d18, d19, d20, d21, d22, d23, d24, d25, d26, d27, d28, d29, d30, d31, d32, d33, d34, d35, d36, d37, d38, d39, d40, d41, d42, d43, d44, d45, d46, d47, d48, d49, d50, d51, d52, d53, d54, d55, d56, d57, d58, d59, d60, d61, d62, d63, d64, d65, d66, d67, d68, d69, d70, d71] ++ R1) H1) (hD1 : va_D (va_A [c0] H.size) ([d0, d1, d2, d3, d4, d5, d6, d7, d8, d9, d10, d11, d12, d13, d14, d15, d16, d17, d18, d19, d20, d21, d22, d23, d24, d25, d26, d27, d28, d29, d30, d31, d32, d33, d34, d35, d36, d37, d38, d39, d40, d41, d42, d43, d44, d45, d46, d47, d48, d49, d50, d51, d52, d53, d54, d55, d56, d57, d58, d59, d60, d61, d62, d63, d64, d65, d66, d67, d68, d69, d70, d71] ++ R1)) : va_P D cl ([d0, d1, d2, d3, d4, d5, d6, d7, d8, d9, d10, d11, d12, d13, d14, d15, d16, d17, d18, d19, d20, d21, d22, d23, d24, d25, d26, d27, d28, d29, d30, d31, d32, d33, d34, d35, d36, d37, d38, d39, d40, d41, d42, d43, d44, d45, d46, d47, d48, d49, d50, d51, d52, d53, d54, d55, d56, d57, d58, d59, d60, d61, d62, d63, d64, d65, d66, d67, d68, d69, d70, d71] ++ R1) H1 ∧ va_D A0 ([d0, d1, d2, d3, d4, d5, d6, d7, d8, d9, d10, d11, d12, d13, d14, d15, d16, d17, d18, d19, d20, d21, d22, d23, d24, d25, d26, d27, d28, d29, d30, d31, d32, d33, d34, d35, d36, d37, d38, d39, d40, d41, d42, d43, d44, d45, d46, d47, d48, d49, d50, d51, d52, d53, d54, d55, d56, d57, d58, d59, d60, d61, d62, d63, d64, d65, d66, d67, d68, d69, d70, d71] ++ R1) := by
  have e : ([] ++ ([d0, d1, d2, d3, d4, d5, d6, d7, d8, d9, d10, d11, d12, d13, d14, d15, d16, d17, d18, d19, d20, d21, d22, d23, d24, d25, d26, d27, d28, d29, d30, d31, d32, d33, d34, d35, d36, d37, d38, d39, d40, d41, d42, d43, d44, d45, d46, d47, d48, d49, d50, d51, d52, d53, d54, d55, d56, d57, d58, d59, d60, d61, d62, d63, d64, d65, d66, d67, d68, d69, d70, d71] ++ R1)) = ([d0, d1, d2, d3, d4, d5, d6, d7, d8, d9, d10, d11, d12, d13, d14, d15, d16, d17, d18, d19, d20, d21, d22, d23, d24, d25, d26, d27, d28, d29, d30, d31, d32, d33, d34, d35, d36, d37, d38, d39, d40, d41, d42, d43, d44, d45, d46, d47, d48, d49, d50, d51, d52, d53, d54, d55, d56, d57, d58, d59, d60, d61, d62, d63, d64, d65, d66, d67, d68, d69, d70, d71] ++ R1) := by rw [← List.append_assoc]; rfl
  obtain ⟨h1, h2⟩ := va_join (ws := [c0]) (wc := [c0]) (wr := []) (w1 := [d0, d1, d2, d3, d4, d5, d6, d7, d8, d9, d10, d11, d12, d13, d14, d15, d16, d17, d18, d19, d20, d21, d22, d23, d24, d25, d26, d27, d28, d29, d30, d31, d32, d33, d34, d35, d36, d37, d38, d39, d40, d41, d42, d43, d44, d45, d46, d47, d48, d49, d50, d51, d52, d53, d54, d55, d56, d57, d58, d59, d60, d61, d62, d63, d64, d65, d66, d67, d68, d69, d70, d71] ++ R1) hP hD [0] [] rfl rfl (by decide) (by decide) hk hF hP1 hD1
  rw [e] at h1 h2
  exact ⟨h1, h2⟩
theorem rgA0_0b85646 {D : va_G} {cl : List vw_C} {U : State} {u0 u1 u2 u3 u4 u5 u6 u7 u8 u9 u10 u11 u12 u13 u14 u15 u16 u17 u18 u19 u20 u21 u22 u23 u24 u25 u26 u27 u28 u29 u30 u31 u32 u33 u34 u35 u36 u37 u38 u39 u40 u41 u42 u43 u44 u45 u46 u47 u48 u49 u50 u51 u52 u53 u54 u55 u56 u57 u58 u59 : ClassId × FieldType} (h : va_K D cl [] U) (h1 : va_K D cl [u0, u1, u2, u3, u4, u5, u6, u7, u8, u9, u10, u11, u12, u13, u14, u15, u16, u17, u18, u19, u20, u21, u22, u23, u24, u25, u26, u27, u28, u29, u30, u31, u32, u33, u34, u35, u36, u37, u38, u39, u40, u41, u42, u43, u44, u45, u46, u47, u48, u49, u50, u51, u52, u53, u54, u55, u56, u57, u58, u59] U) : va_K D cl [u0, u1, u2, u3, u4, u5, u6, u7, u8, u9, u10, u11, u12, u13, u14, u15, u16, u17, u18, u19, u20, u21, u22, u23, u24, u25, u26, u27, u28, u29, u30, u31, u32, u33, u34, u35, u36, u37, u38, u39, u40, u41, u42, u43, u44, u45, u46, u47, u48, u49, u50, u51, u52, u53, u54, u55, u56, u57, u58, u59] U := h.app h1
set_option maxHeartbeats 4000000 in
set_option maxRecDepth 100000 in
theorem whole_start {p : Program} {e : Env} {s : State} {m : MethodId} {below : List Frame} {meth : Method} {c : Code} (l : Launch) (hflags : l.flags = flags0) {b0 L : Nat} {xs : Nat → Int32} (hL : L ≤ 3072) (C0 : lw_At p s m meth c b0 L xs) : W p l e room_1 s m #[Value.ref b0] below meth c s.heap [] 0 0 (lw_Z below #[Value.ref b0] s) (entryFrame m ([Value.ref b0] : List Value).toArray 7) := by
  obtain ⟨hx, hb, hr, hml, hown, hts0, hXs, hbl, hlocks, hgv⟩ := id C0
  have hts := fun (w : Cond) (h : w ∈ TBL) => hts0 w (TBin w h)
  have hown : s.vm.findClass RL = some m.cls := hown
  obtain ⟨g, hE⟩ := Ev_start C0
  have hN := hE.1
  obtain ⟨c0, iS0, hKn0⟩ := u_known (C := RX1) (T := TX1) (N := 14) (n := 14) hts inlX1 (hts (.instantiable RX1 14) qw_719)
  obtain ⟨c1, iS1, hKn1⟩ := u_known (C := RX2) (T := TX2) (N := 4) (n := 4) hts inlX2 (hts (.instantiable RX2 4) qw_711)
  obtain ⟨c2, iS2, hKn2⟩ := u_known (C := RX3) (T := TX3) (N := 6) (n := 6) hts inlX3 (hts (.instantiable RX3 6) qw_715)
  obtain ⟨c3, iS3, hKn3⟩ := u_known (C := RX4) (T := TX4) (N := 2) (n := 2) hts inlX4 (hts (.instantiable RX4 2) qw_699)
  obtain ⟨c4, iS4, hKn4⟩ := u_known (C := RX5) (T := TX5) (N := 6) (n := 6) hts inlX5 (hts (.instantiable RX5 6) qw_703)
  obtain ⟨c5, iS5, hKn5⟩ := u_known (C := RX6) (T := TX6) (N := 8) (n := 8) hts inlX6 (hts (.instantiable RX6 8) qw_707)
  obtain ⟨c6, iS6, hKn6⟩ := u_known (C := RX7) (T := TX7) (N := 8) (n := 8) hts inlX7 (hts (.instantiable RX7 8) qw_693)
  obtain ⟨c7, iS7, hKn7⟩ := u_known (C := RX8) (T := TX8) (N := 11) (n := 11) hts inlX8 (hts (.instantiable RX8 11) qw_951)
  obtain ⟨c8, iS8, hKn8⟩ := u_known (C := RX9) (T := TX9) (N := 44) (n := 44) hts inlX9 (hts (.instantiable RX9 44) qw_947)
  obtain ⟨dC, dI, hKc⟩ : ∃ (dC : Nat → ClassId) (dI : Nat → Nat → Nat), ∀ (k : Nat) (q : vw_C), vwCl[k]? = some q → u_Kn s q.1 q.2.1 q.2.2 (dC k) (dI k) := by
    refine ⟨fun k => match k with | 0 => c0 | 1 => c1 | 2 => c2 | 3 => c3 | 4 => c4 | 5 => c5 | 6 => c6 | 7 => c7 | _ => c8, fun k => match k with | 0 => iS0 | 1 => iS1 | 2 => iS2 | 3 => iS3 | 4 => iS4 | 5 => iS5 | 6 => iS6 | 7 => iS7 | _ => iS8, ?_⟩
    intro k q hq
    match k, hq with
    | 0, hq => cases hq; exact hKn0
    | 1, hq => cases hq; exact hKn1
    | 2, hq => cases hq; exact hKn2
    | 3, hq => cases hq; exact hKn3
    | 4, hq => cases hq; exact hKn4
    | 5, hq => cases hq; exact hKn5
    | 6, hq => cases hq; exact hKn6
    | 7, hq => cases hq; exact hKn7
    | 8, hq => cases hq; exact hKn8
    | k + 9, hq => simp [vwCl] at hq
  have hA : ∀ q : Nat, s.heap.size ≤ q → (fun q : Nat => s.heap.size ≤ q) q := fun _ h => h
  have hS : va_S (fun q : Nat => s.heap.size ≤ q) s.heap s.heap [] := va_S.rf
  replace hK : va_K (dC, dI) vwCl [] s := ⟨hKc, fun k q h => by simp at h⟩
  have hK0 := hK
  replace hP : va_P (dC, dI) vwCl [] s.heap := va_P0
  replace hD : va_D (fun q : Nat => s.heap.size ≤ q) [] := va_D0
  generalize hAe : (fun q : Nat => s.heap.size ≤ q) = A at hD hS hE hA
  have hl := lv_entry ([.ref b0]) (n := 7) (Nat.le_of_ble_eq_true rfl)
  rw [lg_entry_eq]
  generalize (lg_sl ([.ref b0]) ++ List.replicate (7 - (lg_sl ([.ref b0])).length) Slot.unset).toArray = ls at hl ⊢
  have hl : lv_has ls 7 [(0, .ref b0)] := hl
  refine va_new (ci := 7) (fs := [.null, .null, .null, .null, .null, .null, .null, .null, .null, .null, .int 0]) (C := RX8) (T := TX8) (N := 11) hx hb hts inlX8 tyX8 tyX8_ok hown (hts (.classLink RL 8 RX8) qw_952) (hts (.instantiable RX8 11) qw_951) (hts (.initialized RX8) qw_28) hK hP hD hS hA rfl dv_X8 (Nat.le_of_ble_eq_true rfl) (Nat.le_of_ble_eq_true rfl) dL_law_0 (fun q1 H hP hD hS => ?_)
  have hJ9 := rgG0_36bd240 hP hD
  clear hP hD; obtain ⟨hP, hD⟩ := hJ9
  refine W.widen (k := 1) (n := 11) (Nat.le_of_ble_eq_true rfl) (Nat.le_of_ble_eq_true rfl) ?_
  refine lv_dup hx hb dL_law_3 rfl ?_
  have hPc := hP
  have hKc := hK
  have hDc := hD
  have hFc := freeW hDc hS hA
  refine va_callv (va_runI (As := []) (rest := [.ref q1]) ⟨hx, hb, hml, hown, hts⟩ (k_X8_init l dC dI g H.size (q1) ) (cwI 0 hts (gwC qw_953) rfl rfl rfl (hts (.initialized RX8) qw_28) (hts (.methodLink RL 15 yX8_init) qw_954) (hts (.instanceMethod yX8_init) qw_955) rfl (by decide +kernel) ⟨Nat.le_of_ble_eq_true rfl, Nat.le_of_ble_eq_true rfl⟩) ⟨fun a U g9 mk q => ⟨q.1, q.2.1, q.2.2.1, va_K.moved (u := U) (U := U.calling g9 mk a) (Vm.Alike.refl U.vm) q.2.2.2.1, q.2.2.2.2.1, Ev.bl q.2.2.2.2.2⟩, fun U hU hW => ⟨rfl, by rw [hU], atB hU hPc, va_K.moved hW.alike hKc, hDc.weaken (fun _ _ _ _ => trivial), hE.go hS hFc hU hW⟩⟩ rfl rfl hl.1 rfl (lv_room (Nat.le_of_ble_eq_true rfl)) dL_law_4 ⟨Nat.le_of_ble_eq_true rfl, Nat.le_of_ble_eq_true rfl⟩) hS (fun q _ h => hFc q h) hFc (fun u2 t H1 locs ht hvm h_u2 hB hz1 hk1 hS => ?_)
  obtain ⟨za0_0_4, za0_1_5, za0_2_6, za0_3_7, za0_4_8, za0_5_9, za0_6_10, za0_7_11, za0_8_12, za0_9_13, za0_0_0_14, za0_0_0_c_15, za0_1_0_16, za0_1_1_17, za0_1_2_18, za0_1_3_19, za0_1_0_0_20, za0_1_0_1_21, za0_1_0_0_c_22, za0_1_0_0_f_23, za0_1_1_c_24, za0_1_2_c_25, za0_1_3_c_26, za0_2_0_27, za0_2_1_28, za0_2_2_29, za0_2_3_30, za0_2_4_31, za0_2_5_32, za0_2_0_c_33, za0_2_1_c_34, za0_2_2_c_35, za0_2_2_f_36, za0_2_3_c_37, za0_2_3_f_38, za0_2_4_c_39, za0_2_5_c_40, za0_3_0_41, za0_3_1_42, za0_3_2_43, za0_3_0_c_44, za0_3_1_c_45, za0_3_2_c_46, za0_4_c_47, za0_4_f_48, za0_5_c_49, za0_6_1_50, za0_6_3_51, za0_6_5_52, za0_6_6_53, za0_6_7_54, za0_6_9_55, za0_6_10_56, za0_6_11_57, za0_6_12_58, za0_6_13_59, za0_6_1_c_60, za0_6_3_c_61, za0_6_5_c_62, za0_6_6_c_63, za0_6_7_c_64, za0_6_9_c_65, za0_6_10_c_66, za0_6_11_c_67, za0_6_12_c_68, za0_6_12_f_69, za0_6_13_c_70, za0_7_1_71, za0_7_3_72, za0_7_5_73, za0_7_6_74, za0_7_7_75, za0_7_9_76, za0_7_10_77, za0_7_11_78, za0_7_12_79, za0_7_13_80, za0_7_1_c_81, za0_7_3_c_82, za0_7_5_c_83, za0_7_6_c_84, za0_7_7_c_85, za0_7_9_c_86, za0_7_10_c_87, za0_7_11_c_88, za0_7_12_c_89, za0_7_12_f_90, za0_7_13_c_91, za0_8_0_92, za0_8_1_93, za0_8_2_94, za0_8_3_95, za0_8_4_96, za0_8_5_97, za0_8_0_c_98, za0_8_0_f_99, za0_8_1_c_100, za0_8_1_f_101, za0_8_2_c_102, za0_8_2_f_103, za0_8_3_c_104, za0_8_3_f_105, za0_8_4_c_106, za0_8_4_f_107, za0_8_5_c_108, za0_8_5_f_109, za0_9_0_110, za0_9_1_111, za0_9_2_112, za0_9_3_113, za0_9_4_114, za0_9_5_115, za0_9_0_c_116, za0_9_0_f_117, za0_9_1_c_118, za0_9_1_f_119, za0_9_2_c_120, za0_9_2_f_121, za0_9_3_c_122, za0_9_3_f_123, za0_9_4_c_124, za0_9_4_f_125, za0_9_5_c_126, za0_9_5_f_127, za90_128, za90_0_129, za90_1_130, za90_2_131, za90_3_132, za90_4_133, za90_5_134, za90_0_c_135, za90_0_f_136, za90_1_c_137, za90_1_f_138, za90_2_c_139, za90_2_f_140, za90_3_c_141, za90_3_f_142, za90_4_c_143, za90_4_f_144, za90_5_c_145, za90_5_f_146, za91_147, za91_0_148, za91_1_149, za91_2_150, za91_3_151, za91_4_152, za91_5_153, za91_0_c_154, za91_0_f_155, za91_1_c_156, za91_1_f_157, za91_2_c_158, za91_2_f_159, za91_3_c_160, za91_3_f_161, za91_4_c_162, za91_4_f_163, za91_5_c_164, za91_5_f_165, zrows_166, hF167, hF168, hF169, hF170, hF171, hF172, hF173, hF174, hF175, hF176, hF177, hF178, hF179, hF180, hF181, hF182, hF183, hF184, hP1, hK1, hD1⟩ := hB
  have hK1 := va_K.moved hvm.symm hK1
  have hJ9 := rgN1_7a33a5d hP hD hk1 hFc (atH ht hP1) hD1
  clear hP hD hPc hKc hDc hFc hP1 hD1 hk1 hz1
  obtain ⟨hP, hD⟩ := hJ9
  replace hK := rgA0_0b85646 hK hK1
  clear hK1
  generalize H1 = H at hP hS ⊢
  refine W.widen (k := 217) (n := 3107) (Nat.le_of_ble_eq_true rfl) (Nat.le_of_ble_eq_true rfl) ?_
  refine lv_astore_n (lv' := [(1, .ref q1), (0, .ref b0)]) hx hb dL_law_7 rfl hl (by decide) rfl (fun ls hl => ?_)
  subst hAe
  obtain ⟨wx, rx, tx, hXW, hK, hP, hD⟩ : ∃ (wx rx : va_W) (tx : List (ClassId × FieldType)), XW g q1 wx rx tx ∧ va_K (dC, dI) vwCl tx s ∧ va_P (dC, dI) vwCl (wx ++ rx) H ∧ va_D (fun q : Nat => s.heap.size ≤ q) (wx ++ rx) := ⟨_, _, _, (XW_mk g q1 zrows_166 za90_128 za91_147 za0_0_4 za0_1_5 za0_2_6 za0_3_7 za0_4_8 za0_5_9 za0_6_10 za0_7_11 za0_8_12 za0_9_13 1 za0_0_0_14 0 za0_0_0_c_15 (fun _ => 0) za0_1_0_16 za0_1_1_17 za0_1_2_18 za0_1_3_19 0 0 za0_1_0_0_20 za0_1_0_1_21 0 0 0 0 0 0 za0_1_0_0_c_22 za0_1_0_0_f_23 za0_1_1_c_24 (fun _ => 0) za0_1_2_c_25 (fun _ => 0) za0_1_3_c_26 (fun _ => 0) za0_2_0_27 za0_2_1_28 za0_2_2_29 za0_2_3_30 za0_2_4_31 za0_2_5_32 0 0 za0_2_0_c_33 (fun _ => 0) za0_2_1_c_34 (fun _ => 0) za0_2_2_c_35 za0_2_2_f_36 za0_2_3_c_37 za0_2_3_f_38 za0_2_4_c_39 (fun _ => 0) za0_2_5_c_40 (fun _ => 0) za0_3_0_41 za0_3_1_42 za0_3_2_43 0 za0_3_0_c_44 (fun _ => 0) za0_3_1_c_45 (fun _ => 0) za0_3_2_c_46 (fun _ => 0) za0_4_c_47 za0_4_f_48 za0_5_c_49 (fun _ => 0) 0 za0_6_1_50 0 za0_6_3_51 0 za0_6_5_52 za0_6_6_53 za0_6_7_54 0 za0_6_9_55 za0_6_10_56 za0_6_11_57 za0_6_12_58 za0_6_13_59 za0_6_1_c_60 (fun _ => 0) za0_6_3_c_61 (fun _ => 0) za0_6_5_c_62 (fun _ => 0) za0_6_6_c_63 (fun _ => 0) za0_6_7_c_64 (fun _ => 0) za0_6_9_c_65 (fun _ => 0) za0_6_10_c_66 (fun _ => 0) za0_6_11_c_67 (fun _ => 0) za0_6_12_c_68 za0_6_12_f_69 za0_6_13_c_70 (fun _ => 0) 0 za0_7_1_71 0 za0_7_3_72 0 za0_7_5_73 za0_7_6_74 za0_7_7_75 0 za0_7_9_76 za0_7_10_77 za0_7_11_78 za0_7_12_79 za0_7_13_80 za0_7_1_c_81 (fun _ => 0) za0_7_3_c_82 (fun _ => 0) za0_7_5_c_83 (fun _ => 0) za0_7_6_c_84 (fun _ => 0) za0_7_7_c_85 (fun _ => 0) za0_7_9_c_86 (fun _ => 0) za0_7_10_c_87 (fun _ => 0) za0_7_11_c_88 (fun _ => 0) za0_7_12_c_89 za0_7_12_f_90 za0_7_13_c_91 (fun _ => 0) za0_8_0_92 za0_8_1_93 za0_8_2_94 za0_8_3_95 za0_8_4_96 za0_8_5_97 za0_8_0_c_98 za0_8_0_f_99 za0_8_1_c_100 za0_8_1_f_101 za0_8_2_c_102 za0_8_2_f_103 za0_8_3_c_104 za0_8_3_f_105 za0_8_4_c_106 za0_8_4_f_107 za0_8_5_c_108 za0_8_5_f_109 za0_9_0_110 za0_9_1_111 za0_9_2_112 za0_9_3_113 za0_9_4_114 za0_9_5_115 za0_9_0_c_116 za0_9_0_f_117 za0_9_1_c_118 za0_9_1_f_119 za0_9_2_c_120 za0_9_2_f_121 za0_9_3_c_122 za0_9_3_f_123 za0_9_4_c_124 za0_9_4_f_125 za0_9_5_c_126 za0_9_5_f_127 za90_0_129 za90_1_130 za90_2_131 za90_3_132 za90_4_133 za90_5_134 za90_0_c_135 za90_0_f_136 za90_1_c_137 za90_1_f_138 za90_2_c_139 za90_2_f_140 za90_3_c_141 za90_3_f_142 za90_4_c_143 za90_4_f_144 za90_5_c_145 za90_5_f_146 za91_0_148 za91_1_149 za91_2_150 za91_3_151 za91_4_152 za91_5_153 za91_0_c_154 za91_0_f_155 za91_1_c_156 za91_1_f_157 za91_2_c_158 za91_2_f_159 za91_3_c_160 za91_3_f_161 za91_4_c_162 za91_4_f_163 za91_5_c_164 za91_5_f_165 (by decide) (by decide) (by decide) (by decide) (by decide) (by decide) (by decide) hF167 hF168 (by decide) (by decide) (by decide) (by decide) (by decide) hF169 (by decide) (by decide) (by decide) (by decide) hF170 hF171 hF172 hF173 hF174 hF175 hF176 hF177 hF178 hF179 hF180 hF181 hF182 (HOk.nil (by decide)) (JA.nil (by decide)) (JC.nil (by decide) hF171) hF183 hF184), hK, hP, hD⟩
  refine st_m l C0 dC dI g hK0 hP hD hS hE (lv_sub hl [0, 1] rfl) (fun m0 wm tm o0 cO H locs ls hM hKm hP hD hS hl => ?_)
  have hP2 := rotP (a := wm) (b := [(o0, .inl (cO, 1, .inr (.inl (fun _ => 0))))]) (c := wx) (d := rx) (by rw [List.append_assoc] at hP; exact hP)
  have hD2 := rotD (a := wm) (b := [(o0, .inl (cO, 1, .inr (.inl (fun _ => 0))))]) (c := wx) (d := rx) (by rw [List.append_assoc] at hD; exact hD)
  exact law_loop l hflags C0 dC dI g hL hXW hM (hK.app hKm) hP2 hD2 hS hl hE
