theorem dX3_allReviews_0 : decode cX3_allReviews 0 = .ok (.iconst 0, 1) := by decide +kernel
theorem dX3_allReviews_1 : decode cX3_allReviews 1 = .ok (.istore_n 1, 1) := by decide +kernel
theorem dX3_allReviews_2 : decode cX3_allReviews 2 = .ok (.iconst 0, 1) := by decide +kernel
theorem dX3_allReviews_3 : decode cX3_allReviews 3 = .ok (.istore_n 2, 1) := by decide +kernel
theorem dX3_allReviews_4 : decode cX3_allReviews 4 = .ok (.iload_n 2, 1) := by decide +kernel
theorem dX3_allReviews_5 : decode cX3_allReviews 5 = .ok (.bipush 12, 2) := by decide +kernel
theorem dX3_allReviews_7 : decode cX3_allReviews 7 = .ok (.if_icmp .ge 18, 3) := by decide +kernel
theorem dX3_allReviews_10 : decode cX3_allReviews 10 = .ok (.iload_n 1, 1) := by decide +kernel
theorem dX3_allReviews_11 : decode cX3_allReviews 11 = .ok (.aload_n 0, 1) := by decide +kernel
theorem dX3_allReviews_12 : decode cX3_allReviews 12 = .ok (.getfield 21, 3) := by decide +kernel
theorem dX3_allReviews_15 : decode cX3_allReviews 15 = .ok (.iload_n 2, 1) := by decide +kernel
theorem dX3_allReviews_16 : decode cX3_allReviews 16 = .ok (.iaload, 1) := by decide +kernel
theorem dX3_allReviews_17 : decode cX3_allReviews 17 = .ok (.iadd, 1) := by decide +kernel
theorem dX3_allReviews_18 : decode cX3_allReviews 18 = .ok (.istore_n 1, 1) := by decide +kernel
theorem dX3_allReviews_19 : decode cX3_allReviews 19 = .ok (.iinc 2 1, 3) := by decide +kernel
theorem dX3_allReviews_22 : decode cX3_allReviews 22 = .ok (.goto (-18), 3) := by decide +kernel
theorem dX3_allReviews_25 : decode cX3_allReviews 25 = .ok (.iload_n 1, 1) := by decide +kernel
theorem dX3_allReviews_26 : decode cX3_allReviews 26 = .ok (.ireturn, 1) := by decide +kernel
theorem dX3_allLifted_0 : decode cX3_allLifted 0 = .ok (.iconst 0, 1) := by decide +kernel
theorem dX3_allLifted_1 : decode cX3_allLifted 1 = .ok (.istore_n 1, 1) := by decide +kernel
theorem dX3_allLifted_2 : decode cX3_allLifted 2 = .ok (.iconst 0, 1) := by decide +kernel
theorem dX3_allLifted_3 : decode cX3_allLifted 3 = .ok (.istore_n 2, 1) := by decide +kernel
theorem dX3_allLifted_4 : decode cX3_allLifted 4 = .ok (.iload_n 2, 1) := by decide +kernel
theorem dX3_allLifted_5 : decode cX3_allLifted 5 = .ok (.bipush 12, 2) := by decide +kernel
theorem dX3_allLifted_7 : decode cX3_allLifted 7 = .ok (.if_icmp .ge 25, 3) := by decide +kernel
theorem dX3_allLifted_10 : decode cX3_allLifted 10 = .ok (.aload_n 0, 1) := by decide +kernel
theorem dX3_allLifted_11 : decode cX3_allLifted 11 = .ok (.getfield 18, 3) := by decide +kernel
theorem dX3_allLifted_14 : decode cX3_allLifted 14 = .ok (.iload_n 2, 1) := by decide +kernel
theorem dX3_allLifted_15 : decode cX3_allLifted 15 = .ok (.iaload, 1) := by decide +kernel
theorem dX3_allLifted_16 : decode cX3_allLifted 16 = .ok (.iconst (-1), 1) := by decide +kernel
theorem dX3_allLifted_17 : decode cX3_allLifted 17 = .ok (.if_icmp .eq 9, 3) := by decide +kernel
theorem dX3_allLifted_20 : decode cX3_allLifted 20 = .ok (.iload_n 1, 1) := by decide +kernel
theorem dX3_allLifted_21 : decode cX3_allLifted 21 = .ok (.iconst 1, 1) := by decide +kernel
theorem dX3_allLifted_22 : decode cX3_allLifted 22 = .ok (.iload_n 2, 1) := by decide +kernel
theorem dX3_allLifted_23 : decode cX3_allLifted 23 = .ok (.ishl, 1) := by decide +kernel
theorem dX3_allLifted_24 : decode cX3_allLifted 24 = .ok (.ior, 1) := by decide +kernel
theorem dX3_allLifted_25 : decode cX3_allLifted 25 = .ok (.istore_n 1, 1) := by decide +kernel
theorem dX3_allLifted_26 : decode cX3_allLifted 26 = .ok (.iinc 2 1, 3) := by decide +kernel
theorem dX3_allLifted_29 : decode cX3_allLifted 29 = .ok (.goto (-25), 3) := by decide +kernel
theorem dX3_allLifted_32 : decode cX3_allLifted 32 = .ok (.iload_n 1, 1) := by decide +kernel
theorem dX3_allLifted_33 : decode cX3_allLifted 33 = .ok (.ireturn, 1) := by decide +kernel
theorem dX8_count_0 : decode cX8_count 0 = .ok (.iload_n 1, 1) := by decide +kernel
theorem dX8_count_1 : decode cX8_count 1 = .ok (.tableswitch 111 0 7 #[47, 55, 63, 71, 79, 87, 95, 103], 47) := by decide +kernel
theorem dX8_count_48 : decode cX8_count 48 = .ok (.aload_n 0, 1) := by decide +kernel
theorem dX8_count_49 : decode cX8_count 49 = .ok (.getfield 51, 3) := by decide +kernel
theorem dX8_count_52 : decode cX8_count 52 = .ok (.getfield 203, 3) := by decide +kernel
theorem dX8_count_55 : decode cX8_count 55 = .ok (.ireturn, 1) := by decide +kernel
theorem dX8_count_56 : decode cX8_count 56 = .ok (.aload_n 0, 1) := by decide +kernel
theorem dX8_count_57 : decode cX8_count 57 = .ok (.getfield 51, 3) := by decide +kernel
theorem dX8_count_60 : decode cX8_count 60 = .ok (.getfield 259, 3) := by decide +kernel
theorem dX8_count_63 : decode cX8_count 63 = .ok (.ireturn, 1) := by decide +kernel
theorem dX8_count_64 : decode cX8_count 64 = .ok (.aload_n 0, 1) := by decide +kernel
theorem dX8_count_65 : decode cX8_count 65 = .ok (.getfield 51, 3) := by decide +kernel
theorem dX8_count_68 : decode cX8_count 68 = .ok (.getfield 262, 3) := by decide +kernel
theorem dX8_count_71 : decode cX8_count 71 = .ok (.ireturn, 1) := by decide +kernel
theorem dX8_count_72 : decode cX8_count 72 = .ok (.aload_n 0, 1) := by decide +kernel
theorem dX8_count_73 : decode cX8_count 73 = .ok (.getfield 51, 3) := by decide +kernel
theorem dX8_count_76 : decode cX8_count 76 = .ok (.getfield 215, 3) := by decide +kernel
theorem dX8_count_79 : decode cX8_count 79 = .ok (.ireturn, 1) := by decide +kernel
theorem dX8_count_80 : decode cX8_count 80 = .ok (.aload_n 0, 1) := by decide +kernel
theorem dX8_count_81 : decode cX8_count 81 = .ok (.getfield 58, 3) := by decide +kernel
theorem dX8_count_84 : decode cX8_count 84 = .ok (.invokevirtual 265, 3) := by decide +kernel
theorem dX8_count_87 : decode cX8_count 87 = .ok (.ireturn, 1) := by decide +kernel
theorem dX8_count_88 : decode cX8_count 88 = .ok (.aload_n 0, 1) := by decide +kernel
theorem dX8_count_89 : decode cX8_count 89 = .ok (.getfield 58, 3) := by decide +kernel
theorem dX8_count_92 : decode cX8_count 92 = .ok (.invokevirtual 269, 3) := by decide +kernel
theorem dX8_count_95 : decode cX8_count 95 = .ok (.ireturn, 1) := by decide +kernel
theorem dX8_count_96 : decode cX8_count 96 = .ok (.aload_n 0, 1) := by decide +kernel
theorem dX8_count_97 : decode cX8_count 97 = .ok (.getfield 33, 3) := by decide +kernel
theorem dX8_count_100 : decode cX8_count 100 = .ok (.getfield 249, 3) := by decide +kernel
theorem dX8_count_103 : decode cX8_count 103 = .ok (.ireturn, 1) := by decide +kernel
theorem dX8_count_104 : decode cX8_count 104 = .ok (.aload_n 0, 1) := by decide +kernel
theorem dX8_count_105 : decode cX8_count 105 = .ok (.getfield 10, 3) := by decide +kernel
theorem dX8_count_108 : decode cX8_count 108 = .ok (.getfield 77, 3) := by decide +kernel
theorem dX8_count_111 : decode cX8_count 111 = .ok (.ireturn, 1) := by decide +kernel
theorem dX8_count_112 : decode cX8_count 112 = .ok (.iconst (-1), 1) := by decide +kernel
theorem dX8_count_113 : decode cX8_count 113 = .ok (.ireturn, 1) := by decide +kernel
theorem qw_260 : (Cond.code yX3_allReviews cX3_allReviews 3 (some .int) : Cond) ∈ TBL := List.mem_of_getElem? (i := 963) (by decide +kernel)
theorem qw_261 : (Cond.instanceMethod yX3_allReviews : Cond) ∈ TBL := List.mem_of_getElem? (i := 961) (by decide +kernel)
theorem qw_262 : (Cond.selects RX3 yX3_allReviews yX3_allReviews : Cond) ∈ TBL := List.mem_of_getElem? (i := 962) (by decide +kernel)
theorem qw_263 : (Cond.code yX3_allLifted cX3_allLifted 3 (some .int) : Cond) ∈ TBL := List.mem_of_getElem? (i := 966) (by decide +kernel)
theorem qw_264 : (Cond.instanceMethod yX3_allLifted : Cond) ∈ TBL := List.mem_of_getElem? (i := 964) (by decide +kernel)
theorem qw_265 : (Cond.selects RX3 yX3_allLifted yX3_allLifted : Cond) ∈ TBL := List.mem_of_getElem? (i := 965) (by decide +kernel)
set_option maxHeartbeats 4000000 in
set_option maxRecDepth 100000 in
theorem c_alr (l : Launch) (dC : Nat → ClassId) (dI : Nat → Nat → Nat) (g : Gv) (h0 : Nat) (f : Nat → Nat) (cf : Nat → ClassId) (rf : Nat → Int32) (hz : ∀ j, j < 12 → rf j = 0) : Met l yX3_allReviews (.code yX3_allReviews cX3_allReviews 3 (some .int) :: TBL) ({ frames := 0, cells := 0, slots := 0, locals := 0 }) (va_Pc [.ref h0] (fun U => va_P (dC, dI) vwCl [(h0, .inr (2, [.ref (f 0), .ref (f 1), .ref (f 2), .ref (f 3), .ref (f 4), .ref (f 5)])), ((f 3), .inl ((cf 3), 12, .inl rf))] U.heap ∧ va_K (dC, dI) vwCl [((cf 3), .int)] U ∧ Ev g (fun _ => False) U)) (vp_Si (fun r => r = 0)) 0 0 (fun _ => False) := by
  refine Met.ofW (cc := cX3_allReviews) (maxL := 3) (ret := (some .int)) (by decide) rfl ?_
  intro p e s m args below meth c s₁ B hml hv
  obtain ⟨rfl, hP, hK, hE⟩ := hv
  have hx := B.exec
  have hb := B.bytes
  have hr := B.returns
  have hts0 := atoms_spec (ws := (.code yX3_allReviews cX3_allReviews 3 (some .int) :: TBL)) B.pre
  have hts := fun (w : Cond) (h : w ∈ TBL) => hts0 w (List.mem_cons_of_mem _ h)
  have hown : s.vm.findClass RX3 = some m.cls := findClass_of_methodNamed B.named
  have hlocks := B.notSynchronized
  have hN := hE.1
  have hS : va_S (fun _ => False) s.heap s.heap [] := va_S.rf
  have hP : va_P (dC, dI) vwCl [(h0, .inr (2, [.ref (f 0), .ref (f 1), .ref (f 2), .ref (f 3), .ref (f 4), .ref (f 5)])), ((f 3), .inl ((cf 3), 12, .inl rf))] s.heap := hP
  have hl := lv_entry ([.ref h0]) (n := 3) (Nat.le_of_ble_eq_true rfl)
  rw [lg_entry_eq]
  generalize (lg_sl ([.ref h0]) ++ List.replicate (3 - (lg_sl ([.ref h0])).length) Slot.unset).toArray = ls at hl ⊢
  have hl : lv_has ls 3 [(0, .ref h0)] := hl
  refine lv_iconst (v := 0) hx hb dX3_allReviews_0 (by decide) ?_
  refine lv_istore_n (lv' := [(1, .int 0), (0, .ref h0)]) hx hb dX3_allReviews_1 rfl hl (by decide) rfl (fun ls hl => ?_)
  refine lv_iconst (v := 0) hx hb dX3_allReviews_2 (by decide) ?_
  refine lv_istore_n (lv' := [(2, .int 0), (1, .int 0), (0, .ref h0)]) hx hb dX3_allReviews_3 rfl hl (by decide) rfl (fun ls hl => ?_)
  refine lv_iload_n hx hb dX3_allReviews_4 rfl (lv_at hl 0 rfl) ?_
  refine lv_bipush (v := 12) hx hb dX3_allReviews_5 (by decide) ?_
  refine lv_icmp_ge (tgt := 25) hx hb dX3_allReviews_7 (by decide) (fun c7_1 => by exfalso; exact absurd c7_1 (by decide)) (fun c7_1 => ?_)
  refine lv_iload_n hx hb dX3_allReviews_10 rfl (lv_at hl 1 rfl) ?_
  refine lv_aload_n hx hb dX3_allReviews_11 rfl (lv_at hl 2 rfl) ?_
  refine va_get (D := (dC, dI)) (ci := 2) (v := .ref (f 3)) (C := RX3) (T := TX3) (N := 6) hx hb hts inlX3 hown hK hP 0 rfl rfl 3 (by decide) (hts (.fieldLink RX3 21 "ClosedUntil$State" "reviews" "[I") qw_132) (fun _ h9 => h9) rfl dX3_allReviews_12 ?_
  refine lv_iload_n hx hb dX3_allReviews_15 rfl (lv_at hl 0 rfl) ?_
  refine va_iald hx hb hK hP 1 0 rfl rfl (vin0 (by decide)) dX3_allReviews_16 ?_
  refine cst (v := 0) (by rw [show (0 : Int32).toNatClampNeg = 0 by decide]; exact hz 0 (by omega)) ?_
  refine lv_iadd hx hb dX3_allReviews_17 ?_
  refine cst (v := 0) (by decide) ?_
  refine lv_istore_n (lv' := [(1, .int 0), (2, .int 0), (0, .ref h0)]) hx hb dX3_allReviews_18 rfl hl (by decide) rfl (fun ls hl => ?_)
  refine lv_iinc (v := 1) (lv' := [(2, .int 1), (1, .int 0), (0, .ref h0)]) hx hb dX3_allReviews_19 hl (k := 1) rfl (by decide) (by decide) rfl (fun ls hl => ?_)
  refine lv_goto (tgt := 4) hx hb dX3_allReviews_22 (by decide) ?_
  refine lv_iload_n hx hb dX3_allReviews_4 rfl (lv_at hl 0 rfl) ?_
  refine lv_bipush (v := 12) hx hb dX3_allReviews_5 (by decide) ?_
  refine lv_icmp_ge (tgt := 25) hx hb dX3_allReviews_7 (by decide) (fun c7_2 => by exfalso; exact absurd c7_2 (by decide)) (fun c7_2 => ?_)
  refine lv_iload_n hx hb dX3_allReviews_10 rfl (lv_at hl 1 rfl) ?_
  refine lv_aload_n hx hb dX3_allReviews_11 rfl (lv_at hl 2 rfl) ?_
  refine va_get (D := (dC, dI)) (ci := 2) (v := .ref (f 3)) (C := RX3) (T := TX3) (N := 6) hx hb hts inlX3 hown hK hP 0 rfl rfl 3 (by decide) (hts (.fieldLink RX3 21 "ClosedUntil$State" "reviews" "[I") qw_132) (fun _ h9 => h9) rfl dX3_allReviews_12 ?_
  refine lv_iload_n hx hb dX3_allReviews_15 rfl (lv_at hl 0 rfl) ?_
  refine va_iald hx hb hK hP 1 0 rfl rfl (vin0 (by decide)) dX3_allReviews_16 ?_
  refine cst (v := 0) (by rw [show (1 : Int32).toNatClampNeg = 1 by decide]; exact hz 1 (by omega)) ?_
  refine lv_iadd hx hb dX3_allReviews_17 ?_
  refine cst (v := 0) (by decide) ?_
  refine lv_istore_n (lv' := [(1, .int 0), (2, .int 1), (0, .ref h0)]) hx hb dX3_allReviews_18 rfl hl (by decide) rfl (fun ls hl => ?_)
  refine lv_iinc (v := 2) (lv' := [(2, .int 2), (1, .int 0), (0, .ref h0)]) hx hb dX3_allReviews_19 hl (k := 1) rfl (by decide) (by decide) rfl (fun ls hl => ?_)
  refine lv_goto (tgt := 4) hx hb dX3_allReviews_22 (by decide) ?_
  refine lv_iload_n hx hb dX3_allReviews_4 rfl (lv_at hl 0 rfl) ?_
  refine lv_bipush (v := 12) hx hb dX3_allReviews_5 (by decide) ?_
  refine lv_icmp_ge (tgt := 25) hx hb dX3_allReviews_7 (by decide) (fun c7_3 => by exfalso; exact absurd c7_3 (by decide)) (fun c7_3 => ?_)
  refine lv_iload_n hx hb dX3_allReviews_10 rfl (lv_at hl 1 rfl) ?_
  refine lv_aload_n hx hb dX3_allReviews_11 rfl (lv_at hl 2 rfl) ?_
  refine va_get (D := (dC, dI)) (ci := 2) (v := .ref (f 3)) (C := RX3) (T := TX3) (N := 6) hx hb hts inlX3 hown hK hP 0 rfl rfl 3 (by decide) (hts (.fieldLink RX3 21 "ClosedUntil$State" "reviews" "[I") qw_132) (fun _ h9 => h9) rfl dX3_allReviews_12 ?_
  refine lv_iload_n hx hb dX3_allReviews_15 rfl (lv_at hl 0 rfl) ?_
  refine va_iald hx hb hK hP 1 0 rfl rfl (vin0 (by decide)) dX3_allReviews_16 ?_
  refine cst (v := 0) (by rw [show (2 : Int32).toNatClampNeg = 2 by decide]; exact hz 2 (by omega)) ?_
  refine lv_iadd hx hb dX3_allReviews_17 ?_
  refine cst (v := 0) (by decide) ?_
  refine lv_istore_n (lv' := [(1, .int 0), (2, .int 2), (0, .ref h0)]) hx hb dX3_allReviews_18 rfl hl (by decide) rfl (fun ls hl => ?_)
  refine lv_iinc (v := 3) (lv' := [(2, .int 3), (1, .int 0), (0, .ref h0)]) hx hb dX3_allReviews_19 hl (k := 1) rfl (by decide) (by decide) rfl (fun ls hl => ?_)
  refine lv_goto (tgt := 4) hx hb dX3_allReviews_22 (by decide) ?_
  refine lv_iload_n hx hb dX3_allReviews_4 rfl (lv_at hl 0 rfl) ?_
  refine lv_bipush (v := 12) hx hb dX3_allReviews_5 (by decide) ?_
  refine lv_icmp_ge (tgt := 25) hx hb dX3_allReviews_7 (by decide) (fun c7_4 => by exfalso; exact absurd c7_4 (by decide)) (fun c7_4 => ?_)
  refine lv_iload_n hx hb dX3_allReviews_10 rfl (lv_at hl 1 rfl) ?_
  refine lv_aload_n hx hb dX3_allReviews_11 rfl (lv_at hl 2 rfl) ?_
  refine va_get (D := (dC, dI)) (ci := 2) (v := .ref (f 3)) (C := RX3) (T := TX3) (N := 6) hx hb hts inlX3 hown hK hP 0 rfl rfl 3 (by decide) (hts (.fieldLink RX3 21 "ClosedUntil$State" "reviews" "[I") qw_132) (fun _ h9 => h9) rfl dX3_allReviews_12 ?_
  refine lv_iload_n hx hb dX3_allReviews_15 rfl (lv_at hl 0 rfl) ?_
  refine va_iald hx hb hK hP 1 0 rfl rfl (vin0 (by decide)) dX3_allReviews_16 ?_
  refine cst (v := 0) (by rw [show (3 : Int32).toNatClampNeg = 3 by decide]; exact hz 3 (by omega)) ?_
  refine lv_iadd hx hb dX3_allReviews_17 ?_
  refine cst (v := 0) (by decide) ?_
  refine lv_istore_n (lv' := [(1, .int 0), (2, .int 3), (0, .ref h0)]) hx hb dX3_allReviews_18 rfl hl (by decide) rfl (fun ls hl => ?_)
  refine lv_iinc (v := 4) (lv' := [(2, .int 4), (1, .int 0), (0, .ref h0)]) hx hb dX3_allReviews_19 hl (k := 1) rfl (by decide) (by decide) rfl (fun ls hl => ?_)
  refine lv_goto (tgt := 4) hx hb dX3_allReviews_22 (by decide) ?_
  refine lv_iload_n hx hb dX3_allReviews_4 rfl (lv_at hl 0 rfl) ?_
  refine lv_bipush (v := 12) hx hb dX3_allReviews_5 (by decide) ?_
  refine lv_icmp_ge (tgt := 25) hx hb dX3_allReviews_7 (by decide) (fun c7_5 => by exfalso; exact absurd c7_5 (by decide)) (fun c7_5 => ?_)
  refine lv_iload_n hx hb dX3_allReviews_10 rfl (lv_at hl 1 rfl) ?_
  refine lv_aload_n hx hb dX3_allReviews_11 rfl (lv_at hl 2 rfl) ?_
  refine va_get (D := (dC, dI)) (ci := 2) (v := .ref (f 3)) (C := RX3) (T := TX3) (N := 6) hx hb hts inlX3 hown hK hP 0 rfl rfl 3 (by decide) (hts (.fieldLink RX3 21 "ClosedUntil$State" "reviews" "[I") qw_132) (fun _ h9 => h9) rfl dX3_allReviews_12 ?_
  refine lv_iload_n hx hb dX3_allReviews_15 rfl (lv_at hl 0 rfl) ?_
  refine va_iald hx hb hK hP 1 0 rfl rfl (vin0 (by decide)) dX3_allReviews_16 ?_
  refine cst (v := 0) (by rw [show (4 : Int32).toNatClampNeg = 4 by decide]; exact hz 4 (by omega)) ?_
  refine lv_iadd hx hb dX3_allReviews_17 ?_
  refine cst (v := 0) (by decide) ?_
  refine lv_istore_n (lv' := [(1, .int 0), (2, .int 4), (0, .ref h0)]) hx hb dX3_allReviews_18 rfl hl (by decide) rfl (fun ls hl => ?_)
  refine lv_iinc (v := 5) (lv' := [(2, .int 5), (1, .int 0), (0, .ref h0)]) hx hb dX3_allReviews_19 hl (k := 1) rfl (by decide) (by decide) rfl (fun ls hl => ?_)
  refine lv_goto (tgt := 4) hx hb dX3_allReviews_22 (by decide) ?_
  refine lv_iload_n hx hb dX3_allReviews_4 rfl (lv_at hl 0 rfl) ?_
  refine lv_bipush (v := 12) hx hb dX3_allReviews_5 (by decide) ?_
  refine lv_icmp_ge (tgt := 25) hx hb dX3_allReviews_7 (by decide) (fun c7_6 => by exfalso; exact absurd c7_6 (by decide)) (fun c7_6 => ?_)
  refine lv_iload_n hx hb dX3_allReviews_10 rfl (lv_at hl 1 rfl) ?_
  refine lv_aload_n hx hb dX3_allReviews_11 rfl (lv_at hl 2 rfl) ?_
  refine va_get (D := (dC, dI)) (ci := 2) (v := .ref (f 3)) (C := RX3) (T := TX3) (N := 6) hx hb hts inlX3 hown hK hP 0 rfl rfl 3 (by decide) (hts (.fieldLink RX3 21 "ClosedUntil$State" "reviews" "[I") qw_132) (fun _ h9 => h9) rfl dX3_allReviews_12 ?_
  refine lv_iload_n hx hb dX3_allReviews_15 rfl (lv_at hl 0 rfl) ?_
  refine va_iald hx hb hK hP 1 0 rfl rfl (vin0 (by decide)) dX3_allReviews_16 ?_
  refine cst (v := 0) (by rw [show (5 : Int32).toNatClampNeg = 5 by decide]; exact hz 5 (by omega)) ?_
  refine lv_iadd hx hb dX3_allReviews_17 ?_
  refine cst (v := 0) (by decide) ?_
  refine lv_istore_n (lv' := [(1, .int 0), (2, .int 5), (0, .ref h0)]) hx hb dX3_allReviews_18 rfl hl (by decide) rfl (fun ls hl => ?_)
  refine lv_iinc (v := 6) (lv' := [(2, .int 6), (1, .int 0), (0, .ref h0)]) hx hb dX3_allReviews_19 hl (k := 1) rfl (by decide) (by decide) rfl (fun ls hl => ?_)
  refine lv_goto (tgt := 4) hx hb dX3_allReviews_22 (by decide) ?_
  refine lv_iload_n hx hb dX3_allReviews_4 rfl (lv_at hl 0 rfl) ?_
  refine lv_bipush (v := 12) hx hb dX3_allReviews_5 (by decide) ?_
  refine lv_icmp_ge (tgt := 25) hx hb dX3_allReviews_7 (by decide) (fun c7_7 => by exfalso; exact absurd c7_7 (by decide)) (fun c7_7 => ?_)
  refine lv_iload_n hx hb dX3_allReviews_10 rfl (lv_at hl 1 rfl) ?_
  refine lv_aload_n hx hb dX3_allReviews_11 rfl (lv_at hl 2 rfl) ?_
  refine va_get (D := (dC, dI)) (ci := 2) (v := .ref (f 3)) (C := RX3) (T := TX3) (N := 6) hx hb hts inlX3 hown hK hP 0 rfl rfl 3 (by decide) (hts (.fieldLink RX3 21 "ClosedUntil$State" "reviews" "[I") qw_132) (fun _ h9 => h9) rfl dX3_allReviews_12 ?_
  refine lv_iload_n hx hb dX3_allReviews_15 rfl (lv_at hl 0 rfl) ?_
  refine va_iald hx hb hK hP 1 0 rfl rfl (vin0 (by decide)) dX3_allReviews_16 ?_
  refine cst (v := 0) (by rw [show (6 : Int32).toNatClampNeg = 6 by decide]; exact hz 6 (by omega)) ?_
  refine lv_iadd hx hb dX3_allReviews_17 ?_
  refine cst (v := 0) (by decide) ?_
  refine lv_istore_n (lv' := [(1, .int 0), (2, .int 6), (0, .ref h0)]) hx hb dX3_allReviews_18 rfl hl (by decide) rfl (fun ls hl => ?_)
  refine lv_iinc (v := 7) (lv' := [(2, .int 7), (1, .int 0), (0, .ref h0)]) hx hb dX3_allReviews_19 hl (k := 1) rfl (by decide) (by decide) rfl (fun ls hl => ?_)
  refine lv_goto (tgt := 4) hx hb dX3_allReviews_22 (by decide) ?_
  refine lv_iload_n hx hb dX3_allReviews_4 rfl (lv_at hl 0 rfl) ?_
  refine lv_bipush (v := 12) hx hb dX3_allReviews_5 (by decide) ?_
  refine lv_icmp_ge (tgt := 25) hx hb dX3_allReviews_7 (by decide) (fun c7_8 => by exfalso; exact absurd c7_8 (by decide)) (fun c7_8 => ?_)
  refine lv_iload_n hx hb dX3_allReviews_10 rfl (lv_at hl 1 rfl) ?_
  refine lv_aload_n hx hb dX3_allReviews_11 rfl (lv_at hl 2 rfl) ?_
  refine va_get (D := (dC, dI)) (ci := 2) (v := .ref (f 3)) (C := RX3) (T := TX3) (N := 6) hx hb hts inlX3 hown hK hP 0 rfl rfl 3 (by decide) (hts (.fieldLink RX3 21 "ClosedUntil$State" "reviews" "[I") qw_132) (fun _ h9 => h9) rfl dX3_allReviews_12 ?_
  refine lv_iload_n hx hb dX3_allReviews_15 rfl (lv_at hl 0 rfl) ?_
  refine va_iald hx hb hK hP 1 0 rfl rfl (vin0 (by decide)) dX3_allReviews_16 ?_
  refine cst (v := 0) (by rw [show (7 : Int32).toNatClampNeg = 7 by decide]; exact hz 7 (by omega)) ?_
  refine lv_iadd hx hb dX3_allReviews_17 ?_
  refine cst (v := 0) (by decide) ?_
  refine lv_istore_n (lv' := [(1, .int 0), (2, .int 7), (0, .ref h0)]) hx hb dX3_allReviews_18 rfl hl (by decide) rfl (fun ls hl => ?_)
  refine lv_iinc (v := 8) (lv' := [(2, .int 8), (1, .int 0), (0, .ref h0)]) hx hb dX3_allReviews_19 hl (k := 1) rfl (by decide) (by decide) rfl (fun ls hl => ?_)
  refine lv_goto (tgt := 4) hx hb dX3_allReviews_22 (by decide) ?_
  refine lv_iload_n hx hb dX3_allReviews_4 rfl (lv_at hl 0 rfl) ?_
  refine lv_bipush (v := 12) hx hb dX3_allReviews_5 (by decide) ?_
  refine lv_icmp_ge (tgt := 25) hx hb dX3_allReviews_7 (by decide) (fun c7_9 => by exfalso; exact absurd c7_9 (by decide)) (fun c7_9 => ?_)
  refine lv_iload_n hx hb dX3_allReviews_10 rfl (lv_at hl 1 rfl) ?_
  refine lv_aload_n hx hb dX3_allReviews_11 rfl (lv_at hl 2 rfl) ?_
  refine va_get (D := (dC, dI)) (ci := 2) (v := .ref (f 3)) (C := RX3) (T := TX3) (N := 6) hx hb hts inlX3 hown hK hP 0 rfl rfl 3 (by decide) (hts (.fieldLink RX3 21 "ClosedUntil$State" "reviews" "[I") qw_132) (fun _ h9 => h9) rfl dX3_allReviews_12 ?_
  refine lv_iload_n hx hb dX3_allReviews_15 rfl (lv_at hl 0 rfl) ?_
  refine va_iald hx hb hK hP 1 0 rfl rfl (vin0 (by decide)) dX3_allReviews_16 ?_
  refine cst (v := 0) (by rw [show (8 : Int32).toNatClampNeg = 8 by decide]; exact hz 8 (by omega)) ?_
  refine lv_iadd hx hb dX3_allReviews_17 ?_
  refine cst (v := 0) (by decide) ?_
  refine lv_istore_n (lv' := [(1, .int 0), (2, .int 8), (0, .ref h0)]) hx hb dX3_allReviews_18 rfl hl (by decide) rfl (fun ls hl => ?_)
  refine lv_iinc (v := 9) (lv' := [(2, .int 9), (1, .int 0), (0, .ref h0)]) hx hb dX3_allReviews_19 hl (k := 1) rfl (by decide) (by decide) rfl (fun ls hl => ?_)
  refine lv_goto (tgt := 4) hx hb dX3_allReviews_22 (by decide) ?_
  refine lv_iload_n hx hb dX3_allReviews_4 rfl (lv_at hl 0 rfl) ?_
  refine lv_bipush (v := 12) hx hb dX3_allReviews_5 (by decide) ?_
  refine lv_icmp_ge (tgt := 25) hx hb dX3_allReviews_7 (by decide) (fun c7_10 => by exfalso; exact absurd c7_10 (by decide)) (fun c7_10 => ?_)
  refine lv_iload_n hx hb dX3_allReviews_10 rfl (lv_at hl 1 rfl) ?_
  refine lv_aload_n hx hb dX3_allReviews_11 rfl (lv_at hl 2 rfl) ?_
  refine va_get (D := (dC, dI)) (ci := 2) (v := .ref (f 3)) (C := RX3) (T := TX3) (N := 6) hx hb hts inlX3 hown hK hP 0 rfl rfl 3 (by decide) (hts (.fieldLink RX3 21 "ClosedUntil$State" "reviews" "[I") qw_132) (fun _ h9 => h9) rfl dX3_allReviews_12 ?_
  refine lv_iload_n hx hb dX3_allReviews_15 rfl (lv_at hl 0 rfl) ?_
  refine va_iald hx hb hK hP 1 0 rfl rfl (vin0 (by decide)) dX3_allReviews_16 ?_
  refine cst (v := 0) (by rw [show (9 : Int32).toNatClampNeg = 9 by decide]; exact hz 9 (by omega)) ?_
  refine lv_iadd hx hb dX3_allReviews_17 ?_
  refine cst (v := 0) (by decide) ?_
  refine lv_istore_n (lv' := [(1, .int 0), (2, .int 9), (0, .ref h0)]) hx hb dX3_allReviews_18 rfl hl (by decide) rfl (fun ls hl => ?_)
  refine lv_iinc (v := 10) (lv' := [(2, .int 10), (1, .int 0), (0, .ref h0)]) hx hb dX3_allReviews_19 hl (k := 1) rfl (by decide) (by decide) rfl (fun ls hl => ?_)
  refine lv_goto (tgt := 4) hx hb dX3_allReviews_22 (by decide) ?_
  refine lv_iload_n hx hb dX3_allReviews_4 rfl (lv_at hl 0 rfl) ?_
  refine lv_bipush (v := 12) hx hb dX3_allReviews_5 (by decide) ?_
  refine lv_icmp_ge (tgt := 25) hx hb dX3_allReviews_7 (by decide) (fun c7_11 => by exfalso; exact absurd c7_11 (by decide)) (fun c7_11 => ?_)
  refine lv_iload_n hx hb dX3_allReviews_10 rfl (lv_at hl 1 rfl) ?_
  refine lv_aload_n hx hb dX3_allReviews_11 rfl (lv_at hl 2 rfl) ?_
  refine va_get (D := (dC, dI)) (ci := 2) (v := .ref (f 3)) (C := RX3) (T := TX3) (N := 6) hx hb hts inlX3 hown hK hP 0 rfl rfl 3 (by decide) (hts (.fieldLink RX3 21 "ClosedUntil$State" "reviews" "[I") qw_132) (fun _ h9 => h9) rfl dX3_allReviews_12 ?_
  refine lv_iload_n hx hb dX3_allReviews_15 rfl (lv_at hl 0 rfl) ?_
  refine va_iald hx hb hK hP 1 0 rfl rfl (vin0 (by decide)) dX3_allReviews_16 ?_
  refine cst (v := 0) (by rw [show (10 : Int32).toNatClampNeg = 10 by decide]; exact hz 10 (by omega)) ?_
  refine lv_iadd hx hb dX3_allReviews_17 ?_
  refine cst (v := 0) (by decide) ?_
  refine lv_istore_n (lv' := [(1, .int 0), (2, .int 10), (0, .ref h0)]) hx hb dX3_allReviews_18 rfl hl (by decide) rfl (fun ls hl => ?_)
  refine lv_iinc (v := 11) (lv' := [(2, .int 11), (1, .int 0), (0, .ref h0)]) hx hb dX3_allReviews_19 hl (k := 1) rfl (by decide) (by decide) rfl (fun ls hl => ?_)
  refine lv_goto (tgt := 4) hx hb dX3_allReviews_22 (by decide) ?_
  refine lv_iload_n hx hb dX3_allReviews_4 rfl (lv_at hl 0 rfl) ?_
  refine lv_bipush (v := 12) hx hb dX3_allReviews_5 (by decide) ?_
  refine lv_icmp_ge (tgt := 25) hx hb dX3_allReviews_7 (by decide) (fun c7_12 => by exfalso; exact absurd c7_12 (by decide)) (fun c7_12 => ?_)
  refine lv_iload_n hx hb dX3_allReviews_10 rfl (lv_at hl 1 rfl) ?_
  refine lv_aload_n hx hb dX3_allReviews_11 rfl (lv_at hl 2 rfl) ?_
  refine va_get (D := (dC, dI)) (ci := 2) (v := .ref (f 3)) (C := RX3) (T := TX3) (N := 6) hx hb hts inlX3 hown hK hP 0 rfl rfl 3 (by decide) (hts (.fieldLink RX3 21 "ClosedUntil$State" "reviews" "[I") qw_132) (fun _ h9 => h9) rfl dX3_allReviews_12 ?_
  refine lv_iload_n hx hb dX3_allReviews_15 rfl (lv_at hl 0 rfl) ?_
  refine va_iald hx hb hK hP 1 0 rfl rfl (vin0 (by decide)) dX3_allReviews_16 ?_
  refine cst (v := 0) (by rw [show (11 : Int32).toNatClampNeg = 11 by decide]; exact hz 11 (by omega)) ?_
  refine lv_iadd hx hb dX3_allReviews_17 ?_
  refine cst (v := 0) (by decide) ?_
  refine lv_istore_n (lv' := [(1, .int 0), (2, .int 11), (0, .ref h0)]) hx hb dX3_allReviews_18 rfl hl (by decide) rfl (fun ls hl => ?_)
  refine lv_iinc (v := 12) (lv' := [(2, .int 12), (1, .int 0), (0, .ref h0)]) hx hb dX3_allReviews_19 hl (k := 1) rfl (by decide) (by decide) rfl (fun ls hl => ?_)
  refine lv_goto (tgt := 4) hx hb dX3_allReviews_22 (by decide) ?_
  refine lv_iload_n hx hb dX3_allReviews_4 rfl (lv_at hl 0 rfl) ?_
  refine lv_bipush (v := 12) hx hb dX3_allReviews_5 (by decide) ?_
  refine lv_icmp_ge (tgt := 25) hx hb dX3_allReviews_7 (by decide) (fun c7_13 => ?_) (fun c7_13 => by exfalso; exact absurd c7_13 (by decide))
  refine lv_iload_n hx hb dX3_allReviews_25 rfl (lv_at hl 1 rfl) ?_
  exact W.iret (v := 0) hx hb hr (fun t ht hW => ⟨0, rfl, (rfl), ht⟩) (fun _ h => absurd h List.not_mem_nil) dX3_allReviews_26
set_option maxHeartbeats 4000000 in
set_option maxRecDepth 100000 in
theorem c_all (l : Launch) (dC : Nat → ClassId) (dI : Nat → Nat → Nat) (g : Gv) (h0 : Nat) (f : Nat → Nat) (cf : Nat → ClassId) (lf : Nat → Int32) (hz : ∀ j, j < 12 → lf j = -1) : Met l yX3_allLifted (.code yX3_allLifted cX3_allLifted 3 (some .int) :: TBL) ({ frames := 0, cells := 0, slots := 0, locals := 0 }) (va_Pc [.ref h0] (fun U => va_P (dC, dI) vwCl [(h0, .inr (2, [.ref (f 0), .ref (f 1), .ref (f 2), .ref (f 3), .ref (f 4), .ref (f 5)])), ((f 2), .inl ((cf 2), 12, .inl lf))] U.heap ∧ va_K (dC, dI) vwCl [((cf 2), .int)] U ∧ Ev g (fun _ => False) U)) (vp_Si (fun r => r = 0)) 0 0 (fun _ => False) := by
  refine Met.ofW (cc := cX3_allLifted) (maxL := 3) (ret := (some .int)) (by decide) rfl ?_
  intro p e s m args below meth c s₁ B hml hv
  obtain ⟨rfl, hP, hK, hE⟩ := hv
  have hx := B.exec
  have hb := B.bytes
  have hr := B.returns
  have hts0 := atoms_spec (ws := (.code yX3_allLifted cX3_allLifted 3 (some .int) :: TBL)) B.pre
  have hts := fun (w : Cond) (h : w ∈ TBL) => hts0 w (List.mem_cons_of_mem _ h)
  have hown : s.vm.findClass RX3 = some m.cls := findClass_of_methodNamed B.named
  have hlocks := B.notSynchronized
  have hN := hE.1
  have hS : va_S (fun _ => False) s.heap s.heap [] := va_S.rf
  have hP : va_P (dC, dI) vwCl [(h0, .inr (2, [.ref (f 0), .ref (f 1), .ref (f 2), .ref (f 3), .ref (f 4), .ref (f 5)])), ((f 2), .inl ((cf 2), 12, .inl lf))] s.heap := hP
  have hl := lv_entry ([.ref h0]) (n := 3) (Nat.le_of_ble_eq_true rfl)
  rw [lg_entry_eq]
  generalize (lg_sl ([.ref h0]) ++ List.replicate (3 - (lg_sl ([.ref h0])).length) Slot.unset).toArray = ls at hl ⊢
  have hl : lv_has ls 3 [(0, .ref h0)] := hl
  refine lv_iconst (v := 0) hx hb dX3_allLifted_0 (by decide) ?_
  refine lv_istore_n (lv' := [(1, .int 0), (0, .ref h0)]) hx hb dX3_allLifted_1 rfl hl (by decide) rfl (fun ls hl => ?_)
  refine lv_iconst (v := 0) hx hb dX3_allLifted_2 (by decide) ?_
  refine lv_istore_n (lv' := [(2, .int 0), (1, .int 0), (0, .ref h0)]) hx hb dX3_allLifted_3 rfl hl (by decide) rfl (fun ls hl => ?_)
  refine lv_iload_n hx hb dX3_allLifted_4 rfl (lv_at hl 0 rfl) ?_
  refine lv_bipush (v := 12) hx hb dX3_allLifted_5 (by decide) ?_
  refine lv_icmp_ge (tgt := 32) hx hb dX3_allLifted_7 (by decide) (fun c7_1 => by exfalso; exact absurd c7_1 (by decide)) (fun c7_1 => ?_)
  refine lv_aload_n hx hb dX3_allLifted_10 rfl (lv_at hl 2 rfl) ?_
  refine va_get (D := (dC, dI)) (ci := 2) (v := .ref (f 2)) (C := RX3) (T := TX3) (N := 6) hx hb hts inlX3 hown hK hP 0 rfl rfl 2 (by decide) (hts (.fieldLink RX3 18 "ClosedUntil$State" "lifted" "[I") qw_131) (fun _ h9 => h9) rfl dX3_allLifted_11 ?_
  refine lv_iload_n hx hb dX3_allLifted_14 rfl (lv_at hl 0 rfl) ?_
  refine va_iald hx hb hK hP 1 0 rfl rfl (vin0 (by decide)) dX3_allLifted_15 ?_
  refine cst (v := (-1)) (by rw [show (0 : Int32).toNatClampNeg = 0 by decide]; exact hz 0 (by omega)) ?_
  refine lv_iconst (v := (-1)) hx hb dX3_allLifted_16 (by decide) ?_
  refine lv_icmp_eq (tgt := 26) hx hb dX3_allLifted_17 (by decide) (fun c17_2 => ?_) (fun c17_2 => by exfalso; exact absurd c17_2 (by decide))
  refine lv_iinc (v := 1) (lv' := [(2, .int 1), (1, .int 0), (0, .ref h0)]) hx hb dX3_allLifted_26 hl (k := 0) rfl (by decide) (by decide) rfl (fun ls hl => ?_)
  refine lv_goto (tgt := 4) hx hb dX3_allLifted_29 (by decide) ?_
  refine lv_iload_n hx hb dX3_allLifted_4 rfl (lv_at hl 0 rfl) ?_
  refine lv_bipush (v := 12) hx hb dX3_allLifted_5 (by decide) ?_
  refine lv_icmp_ge (tgt := 32) hx hb dX3_allLifted_7 (by decide) (fun c7_3 => by exfalso; exact absurd c7_3 (by decide)) (fun c7_3 => ?_)
  refine lv_aload_n hx hb dX3_allLifted_10 rfl (lv_at hl 2 rfl) ?_
  refine va_get (D := (dC, dI)) (ci := 2) (v := .ref (f 2)) (C := RX3) (T := TX3) (N := 6) hx hb hts inlX3 hown hK hP 0 rfl rfl 2 (by decide) (hts (.fieldLink RX3 18 "ClosedUntil$State" "lifted" "[I") qw_131) (fun _ h9 => h9) rfl dX3_allLifted_11 ?_
  refine lv_iload_n hx hb dX3_allLifted_14 rfl (lv_at hl 0 rfl) ?_
  refine va_iald hx hb hK hP 1 0 rfl rfl (vin0 (by decide)) dX3_allLifted_15 ?_
  refine cst (v := (-1)) (by rw [show (1 : Int32).toNatClampNeg = 1 by decide]; exact hz 1 (by omega)) ?_
  refine lv_iconst (v := (-1)) hx hb dX3_allLifted_16 (by decide) ?_
  refine lv_icmp_eq (tgt := 26) hx hb dX3_allLifted_17 (by decide) (fun c17_4 => ?_) (fun c17_4 => by exfalso; exact absurd c17_4 (by decide))
  refine lv_iinc (v := 2) (lv' := [(2, .int 2), (1, .int 0), (0, .ref h0)]) hx hb dX3_allLifted_26 hl (k := 0) rfl (by decide) (by decide) rfl (fun ls hl => ?_)
  refine lv_goto (tgt := 4) hx hb dX3_allLifted_29 (by decide) ?_
  refine lv_iload_n hx hb dX3_allLifted_4 rfl (lv_at hl 0 rfl) ?_
  refine lv_bipush (v := 12) hx hb dX3_allLifted_5 (by decide) ?_
  refine lv_icmp_ge (tgt := 32) hx hb dX3_allLifted_7 (by decide) (fun c7_5 => by exfalso; exact absurd c7_5 (by decide)) (fun c7_5 => ?_)
  refine lv_aload_n hx hb dX3_allLifted_10 rfl (lv_at hl 2 rfl) ?_
  refine va_get (D := (dC, dI)) (ci := 2) (v := .ref (f 2)) (C := RX3) (T := TX3) (N := 6) hx hb hts inlX3 hown hK hP 0 rfl rfl 2 (by decide) (hts (.fieldLink RX3 18 "ClosedUntil$State" "lifted" "[I") qw_131) (fun _ h9 => h9) rfl dX3_allLifted_11 ?_
  refine lv_iload_n hx hb dX3_allLifted_14 rfl (lv_at hl 0 rfl) ?_
  refine va_iald hx hb hK hP 1 0 rfl rfl (vin0 (by decide)) dX3_allLifted_15 ?_
  refine cst (v := (-1)) (by rw [show (2 : Int32).toNatClampNeg = 2 by decide]; exact hz 2 (by omega)) ?_
  refine lv_iconst (v := (-1)) hx hb dX3_allLifted_16 (by decide) ?_
  refine lv_icmp_eq (tgt := 26) hx hb dX3_allLifted_17 (by decide) (fun c17_6 => ?_) (fun c17_6 => by exfalso; exact absurd c17_6 (by decide))
  refine lv_iinc (v := 3) (lv' := [(2, .int 3), (1, .int 0), (0, .ref h0)]) hx hb dX3_allLifted_26 hl (k := 0) rfl (by decide) (by decide) rfl (fun ls hl => ?_)
  refine lv_goto (tgt := 4) hx hb dX3_allLifted_29 (by decide) ?_
  refine lv_iload_n hx hb dX3_allLifted_4 rfl (lv_at hl 0 rfl) ?_
  refine lv_bipush (v := 12) hx hb dX3_allLifted_5 (by decide) ?_
  refine lv_icmp_ge (tgt := 32) hx hb dX3_allLifted_7 (by decide) (fun c7_7 => by exfalso; exact absurd c7_7 (by decide)) (fun c7_7 => ?_)
  refine lv_aload_n hx hb dX3_allLifted_10 rfl (lv_at hl 2 rfl) ?_
  refine va_get (D := (dC, dI)) (ci := 2) (v := .ref (f 2)) (C := RX3) (T := TX3) (N := 6) hx hb hts inlX3 hown hK hP 0 rfl rfl 2 (by decide) (hts (.fieldLink RX3 18 "ClosedUntil$State" "lifted" "[I") qw_131) (fun _ h9 => h9) rfl dX3_allLifted_11 ?_
  refine lv_iload_n hx hb dX3_allLifted_14 rfl (lv_at hl 0 rfl) ?_
  refine va_iald hx hb hK hP 1 0 rfl rfl (vin0 (by decide)) dX3_allLifted_15 ?_
  refine cst (v := (-1)) (by rw [show (3 : Int32).toNatClampNeg = 3 by decide]; exact hz 3 (by omega)) ?_
  refine lv_iconst (v := (-1)) hx hb dX3_allLifted_16 (by decide) ?_
  refine lv_icmp_eq (tgt := 26) hx hb dX3_allLifted_17 (by decide) (fun c17_8 => ?_) (fun c17_8 => by exfalso; exact absurd c17_8 (by decide))
  refine lv_iinc (v := 4) (lv' := [(2, .int 4), (1, .int 0), (0, .ref h0)]) hx hb dX3_allLifted_26 hl (k := 0) rfl (by decide) (by decide) rfl (fun ls hl => ?_)
  refine lv_goto (tgt := 4) hx hb dX3_allLifted_29 (by decide) ?_
  refine lv_iload_n hx hb dX3_allLifted_4 rfl (lv_at hl 0 rfl) ?_
  refine lv_bipush (v := 12) hx hb dX3_allLifted_5 (by decide) ?_
  refine lv_icmp_ge (tgt := 32) hx hb dX3_allLifted_7 (by decide) (fun c7_9 => by exfalso; exact absurd c7_9 (by decide)) (fun c7_9 => ?_)
  refine lv_aload_n hx hb dX3_allLifted_10 rfl (lv_at hl 2 rfl) ?_
  refine va_get (D := (dC, dI)) (ci := 2) (v := .ref (f 2)) (C := RX3) (T := TX3) (N := 6) hx hb hts inlX3 hown hK hP 0 rfl rfl 2 (by decide) (hts (.fieldLink RX3 18 "ClosedUntil$State" "lifted" "[I") qw_131) (fun _ h9 => h9) rfl dX3_allLifted_11 ?_
  refine lv_iload_n hx hb dX3_allLifted_14 rfl (lv_at hl 0 rfl) ?_
  refine va_iald hx hb hK hP 1 0 rfl rfl (vin0 (by decide)) dX3_allLifted_15 ?_
  refine cst (v := (-1)) (by rw [show (4 : Int32).toNatClampNeg = 4 by decide]; exact hz 4 (by omega)) ?_
  refine lv_iconst (v := (-1)) hx hb dX3_allLifted_16 (by decide) ?_
  refine lv_icmp_eq (tgt := 26) hx hb dX3_allLifted_17 (by decide) (fun c17_10 => ?_) (fun c17_10 => by exfalso; exact absurd c17_10 (by decide))
  refine lv_iinc (v := 5) (lv' := [(2, .int 5), (1, .int 0), (0, .ref h0)]) hx hb dX3_allLifted_26 hl (k := 0) rfl (by decide) (by decide) rfl (fun ls hl => ?_)
  refine lv_goto (tgt := 4) hx hb dX3_allLifted_29 (by decide) ?_
  refine lv_iload_n hx hb dX3_allLifted_4 rfl (lv_at hl 0 rfl) ?_
  refine lv_bipush (v := 12) hx hb dX3_allLifted_5 (by decide) ?_
  refine lv_icmp_ge (tgt := 32) hx hb dX3_allLifted_7 (by decide) (fun c7_11 => by exfalso; exact absurd c7_11 (by decide)) (fun c7_11 => ?_)
  refine lv_aload_n hx hb dX3_allLifted_10 rfl (lv_at hl 2 rfl) ?_
  refine va_get (D := (dC, dI)) (ci := 2) (v := .ref (f 2)) (C := RX3) (T := TX3) (N := 6) hx hb hts inlX3 hown hK hP 0 rfl rfl 2 (by decide) (hts (.fieldLink RX3 18 "ClosedUntil$State" "lifted" "[I") qw_131) (fun _ h9 => h9) rfl dX3_allLifted_11 ?_
  refine lv_iload_n hx hb dX3_allLifted_14 rfl (lv_at hl 0 rfl) ?_
  refine va_iald hx hb hK hP 1 0 rfl rfl (vin0 (by decide)) dX3_allLifted_15 ?_
  refine cst (v := (-1)) (by rw [show (5 : Int32).toNatClampNeg = 5 by decide]; exact hz 5 (by omega)) ?_
  refine lv_iconst (v := (-1)) hx hb dX3_allLifted_16 (by decide) ?_
  refine lv_icmp_eq (tgt := 26) hx hb dX3_allLifted_17 (by decide) (fun c17_12 => ?_) (fun c17_12 => by exfalso; exact absurd c17_12 (by decide))
  refine lv_iinc (v := 6) (lv' := [(2, .int 6), (1, .int 0), (0, .ref h0)]) hx hb dX3_allLifted_26 hl (k := 0) rfl (by decide) (by decide) rfl (fun ls hl => ?_)
  refine lv_goto (tgt := 4) hx hb dX3_allLifted_29 (by decide) ?_
  refine lv_iload_n hx hb dX3_allLifted_4 rfl (lv_at hl 0 rfl) ?_
  refine lv_bipush (v := 12) hx hb dX3_allLifted_5 (by decide) ?_
  refine lv_icmp_ge (tgt := 32) hx hb dX3_allLifted_7 (by decide) (fun c7_13 => by exfalso; exact absurd c7_13 (by decide)) (fun c7_13 => ?_)
  refine lv_aload_n hx hb dX3_allLifted_10 rfl (lv_at hl 2 rfl) ?_
  refine va_get (D := (dC, dI)) (ci := 2) (v := .ref (f 2)) (C := RX3) (T := TX3) (N := 6) hx hb hts inlX3 hown hK hP 0 rfl rfl 2 (by decide) (hts (.fieldLink RX3 18 "ClosedUntil$State" "lifted" "[I") qw_131) (fun _ h9 => h9) rfl dX3_allLifted_11 ?_
  refine lv_iload_n hx hb dX3_allLifted_14 rfl (lv_at hl 0 rfl) ?_
  refine va_iald hx hb hK hP 1 0 rfl rfl (vin0 (by decide)) dX3_allLifted_15 ?_
  refine cst (v := (-1)) (by rw [show (6 : Int32).toNatClampNeg = 6 by decide]; exact hz 6 (by omega)) ?_
  refine lv_iconst (v := (-1)) hx hb dX3_allLifted_16 (by decide) ?_
  refine lv_icmp_eq (tgt := 26) hx hb dX3_allLifted_17 (by decide) (fun c17_14 => ?_) (fun c17_14 => by exfalso; exact absurd c17_14 (by decide))
  refine lv_iinc (v := 7) (lv' := [(2, .int 7), (1, .int 0), (0, .ref h0)]) hx hb dX3_allLifted_26 hl (k := 0) rfl (by decide) (by decide) rfl (fun ls hl => ?_)
  refine lv_goto (tgt := 4) hx hb dX3_allLifted_29 (by decide) ?_
  refine lv_iload_n hx hb dX3_allLifted_4 rfl (lv_at hl 0 rfl) ?_
  refine lv_bipush (v := 12) hx hb dX3_allLifted_5 (by decide) ?_
  refine lv_icmp_ge (tgt := 32) hx hb dX3_allLifted_7 (by decide) (fun c7_15 => by exfalso; exact absurd c7_15 (by decide)) (fun c7_15 => ?_)
  refine lv_aload_n hx hb dX3_allLifted_10 rfl (lv_at hl 2 rfl) ?_
  refine va_get (D := (dC, dI)) (ci := 2) (v := .ref (f 2)) (C := RX3) (T := TX3) (N := 6) hx hb hts inlX3 hown hK hP 0 rfl rfl 2 (by decide) (hts (.fieldLink RX3 18 "ClosedUntil$State" "lifted" "[I") qw_131) (fun _ h9 => h9) rfl dX3_allLifted_11 ?_
  refine lv_iload_n hx hb dX3_allLifted_14 rfl (lv_at hl 0 rfl) ?_
  refine va_iald hx hb hK hP 1 0 rfl rfl (vin0 (by decide)) dX3_allLifted_15 ?_
  refine cst (v := (-1)) (by rw [show (7 : Int32).toNatClampNeg = 7 by decide]; exact hz 7 (by omega)) ?_
  refine lv_iconst (v := (-1)) hx hb dX3_allLifted_16 (by decide) ?_
  refine lv_icmp_eq (tgt := 26) hx hb dX3_allLifted_17 (by decide) (fun c17_16 => ?_) (fun c17_16 => by exfalso; exact absurd c17_16 (by decide))
  refine lv_iinc (v := 8) (lv' := [(2, .int 8), (1, .int 0), (0, .ref h0)]) hx hb dX3_allLifted_26 hl (k := 0) rfl (by decide) (by decide) rfl (fun ls hl => ?_)
  refine lv_goto (tgt := 4) hx hb dX3_allLifted_29 (by decide) ?_
  refine lv_iload_n hx hb dX3_allLifted_4 rfl (lv_at hl 0 rfl) ?_
  refine lv_bipush (v := 12) hx hb dX3_allLifted_5 (by decide) ?_
  refine lv_icmp_ge (tgt := 32) hx hb dX3_allLifted_7 (by decide) (fun c7_17 => by exfalso; exact absurd c7_17 (by decide)) (fun c7_17 => ?_)
  refine lv_aload_n hx hb dX3_allLifted_10 rfl (lv_at hl 2 rfl) ?_
  refine va_get (D := (dC, dI)) (ci := 2) (v := .ref (f 2)) (C := RX3) (T := TX3) (N := 6) hx hb hts inlX3 hown hK hP 0 rfl rfl 2 (by decide) (hts (.fieldLink RX3 18 "ClosedUntil$State" "lifted" "[I") qw_131) (fun _ h9 => h9) rfl dX3_allLifted_11 ?_
  refine lv_iload_n hx hb dX3_allLifted_14 rfl (lv_at hl 0 rfl) ?_
  refine va_iald hx hb hK hP 1 0 rfl rfl (vin0 (by decide)) dX3_allLifted_15 ?_
  refine cst (v := (-1)) (by rw [show (8 : Int32).toNatClampNeg = 8 by decide]; exact hz 8 (by omega)) ?_
  refine lv_iconst (v := (-1)) hx hb dX3_allLifted_16 (by decide) ?_
  refine lv_icmp_eq (tgt := 26) hx hb dX3_allLifted_17 (by decide) (fun c17_18 => ?_) (fun c17_18 => by exfalso; exact absurd c17_18 (by decide))
  refine lv_iinc (v := 9) (lv' := [(2, .int 9), (1, .int 0), (0, .ref h0)]) hx hb dX3_allLifted_26 hl (k := 0) rfl (by decide) (by decide) rfl (fun ls hl => ?_)
  refine lv_goto (tgt := 4) hx hb dX3_allLifted_29 (by decide) ?_
  refine lv_iload_n hx hb dX3_allLifted_4 rfl (lv_at hl 0 rfl) ?_
  refine lv_bipush (v := 12) hx hb dX3_allLifted_5 (by decide) ?_
  refine lv_icmp_ge (tgt := 32) hx hb dX3_allLifted_7 (by decide) (fun c7_19 => by exfalso; exact absurd c7_19 (by decide)) (fun c7_19 => ?_)
  refine lv_aload_n hx hb dX3_allLifted_10 rfl (lv_at hl 2 rfl) ?_
  refine va_get (D := (dC, dI)) (ci := 2) (v := .ref (f 2)) (C := RX3) (T := TX3) (N := 6) hx hb hts inlX3 hown hK hP 0 rfl rfl 2 (by decide) (hts (.fieldLink RX3 18 "ClosedUntil$State" "lifted" "[I") qw_131) (fun _ h9 => h9) rfl dX3_allLifted_11 ?_
  refine lv_iload_n hx hb dX3_allLifted_14 rfl (lv_at hl 0 rfl) ?_
  refine va_iald hx hb hK hP 1 0 rfl rfl (vin0 (by decide)) dX3_allLifted_15 ?_
  refine cst (v := (-1)) (by rw [show (9 : Int32).toNatClampNeg = 9 by decide]; exact hz 9 (by omega)) ?_
  refine lv_iconst (v := (-1)) hx hb dX3_allLifted_16 (by decide) ?_
  refine lv_icmp_eq (tgt := 26) hx hb dX3_allLifted_17 (by decide) (fun c17_20 => ?_) (fun c17_20 => by exfalso; exact absurd c17_20 (by decide))
  refine lv_iinc (v := 10) (lv' := [(2, .int 10), (1, .int 0), (0, .ref h0)]) hx hb dX3_allLifted_26 hl (k := 0) rfl (by decide) (by decide) rfl (fun ls hl => ?_)
  refine lv_goto (tgt := 4) hx hb dX3_allLifted_29 (by decide) ?_
  refine lv_iload_n hx hb dX3_allLifted_4 rfl (lv_at hl 0 rfl) ?_
  refine lv_bipush (v := 12) hx hb dX3_allLifted_5 (by decide) ?_
  refine lv_icmp_ge (tgt := 32) hx hb dX3_allLifted_7 (by decide) (fun c7_21 => by exfalso; exact absurd c7_21 (by decide)) (fun c7_21 => ?_)
  refine lv_aload_n hx hb dX3_allLifted_10 rfl (lv_at hl 2 rfl) ?_
  refine va_get (D := (dC, dI)) (ci := 2) (v := .ref (f 2)) (C := RX3) (T := TX3) (N := 6) hx hb hts inlX3 hown hK hP 0 rfl rfl 2 (by decide) (hts (.fieldLink RX3 18 "ClosedUntil$State" "lifted" "[I") qw_131) (fun _ h9 => h9) rfl dX3_allLifted_11 ?_
  refine lv_iload_n hx hb dX3_allLifted_14 rfl (lv_at hl 0 rfl) ?_
  refine va_iald hx hb hK hP 1 0 rfl rfl (vin0 (by decide)) dX3_allLifted_15 ?_
  refine cst (v := (-1)) (by rw [show (10 : Int32).toNatClampNeg = 10 by decide]; exact hz 10 (by omega)) ?_
  refine lv_iconst (v := (-1)) hx hb dX3_allLifted_16 (by decide) ?_
  refine lv_icmp_eq (tgt := 26) hx hb dX3_allLifted_17 (by decide) (fun c17_22 => ?_) (fun c17_22 => by exfalso; exact absurd c17_22 (by decide))
  refine lv_iinc (v := 11) (lv' := [(2, .int 11), (1, .int 0), (0, .ref h0)]) hx hb dX3_allLifted_26 hl (k := 0) rfl (by decide) (by decide) rfl (fun ls hl => ?_)
  refine lv_goto (tgt := 4) hx hb dX3_allLifted_29 (by decide) ?_
  refine lv_iload_n hx hb dX3_allLifted_4 rfl (lv_at hl 0 rfl) ?_
  refine lv_bipush (v := 12) hx hb dX3_allLifted_5 (by decide) ?_
  refine lv_icmp_ge (tgt := 32) hx hb dX3_allLifted_7 (by decide) (fun c7_23 => by exfalso; exact absurd c7_23 (by decide)) (fun c7_23 => ?_)
  refine lv_aload_n hx hb dX3_allLifted_10 rfl (lv_at hl 2 rfl) ?_
  refine va_get (D := (dC, dI)) (ci := 2) (v := .ref (f 2)) (C := RX3) (T := TX3) (N := 6) hx hb hts inlX3 hown hK hP 0 rfl rfl 2 (by decide) (hts (.fieldLink RX3 18 "ClosedUntil$State" "lifted" "[I") qw_131) (fun _ h9 => h9) rfl dX3_allLifted_11 ?_
  refine lv_iload_n hx hb dX3_allLifted_14 rfl (lv_at hl 0 rfl) ?_
  refine va_iald hx hb hK hP 1 0 rfl rfl (vin0 (by decide)) dX3_allLifted_15 ?_
  refine cst (v := (-1)) (by rw [show (11 : Int32).toNatClampNeg = 11 by decide]; exact hz 11 (by omega)) ?_
  refine lv_iconst (v := (-1)) hx hb dX3_allLifted_16 (by decide) ?_
  refine lv_icmp_eq (tgt := 26) hx hb dX3_allLifted_17 (by decide) (fun c17_24 => ?_) (fun c17_24 => by exfalso; exact absurd c17_24 (by decide))
  refine lv_iinc (v := 12) (lv' := [(2, .int 12), (1, .int 0), (0, .ref h0)]) hx hb dX3_allLifted_26 hl (k := 0) rfl (by decide) (by decide) rfl (fun ls hl => ?_)
  refine lv_goto (tgt := 4) hx hb dX3_allLifted_29 (by decide) ?_
  refine lv_iload_n hx hb dX3_allLifted_4 rfl (lv_at hl 0 rfl) ?_
  refine lv_bipush (v := 12) hx hb dX3_allLifted_5 (by decide) ?_
  refine lv_icmp_ge (tgt := 32) hx hb dX3_allLifted_7 (by decide) (fun c7_25 => ?_) (fun c7_25 => by exfalso; exact absurd c7_25 (by decide))
  refine lv_iload_n hx hb dX3_allLifted_32 rfl (lv_at hl 1 rfl) ?_
  exact W.iret (v := 0) hx hb hr (fun t ht hW => ⟨0, rfl, (rfl), ht⟩) (fun _ h => absurd h List.not_mem_nil) dX3_allLifted_33
set_option maxHeartbeats 4000000 in
set_option maxRecDepth 100000 in
theorem c_8count0 (l : Launch) (dC : Nat → ClassId) (dI : Nat → Nat → Nat) (g : Gv) (x0 : Nat) (b : Nat → Nat) (f4 : Nat → Nat) (c4 : ClassId) (f5 : Nat → Nat) (f7 : Nat → Nat) (f6 : Nat → Nat) (f2 : Nat → Nat) (cK : ClassId) (kf : Nat → Option Nat) (cZ : ClassId) (fT : Nat → Nat) (fU : Nat → Nat) (sa : Nat → Nat) (sf : Nat → Nat → Nat) (sc : Nat → Nat → ClassId) (spf : Nat → Nat → Int32) (sdf : Nat → Nat → Int32) (slf : Nat → Nat → Int32) (srf : Nat → Nat → Int32) (sga : Nat → Nat → Option Nat) (sgb : Nat → Nat → Option Nat) (rows : va_W)  : Met l yX8_count (.code yX8_count cX8_count 2 (some .int) :: TBL) ({ frames := 1, cells := 0, slots := 0, locals := 40 }) (va_Pc [.ref x0, .int 0] (fun U => va_P (dC, dI) vwCl [(x0, .inr (7, [.ref (b 0), .ref (b 1), .ref (b 2), .ref (b 3), .ref (b 4), .ref (b 5), .ref (b 6), .ref (b 7), .ref (b 8), .ref (b 9), .int 1])), ((b 6), .inr (0, [.int 0, .ref (fT 1), .int 0, .ref (fT 3), .int 0, .ref (fT 5), .ref (fT 6), .ref (fT 7), .int 0, .ref (fT 9), .ref (fT 10), .ref (fT 11), .ref (fT 12), .ref (fT 13)]))] U.heap ∧ va_K (dC, dI) vwCl [] U ∧ Ev g (fun _ => False) U)) (vp_Si (fun r => r = 0)) 0 0 (fun _ => False) := by
  refine Met.ofW (cc := cX8_count) (maxL := 2) (ret := (some .int)) (by decide) rfl ?_
  intro p e s m args below meth c s₁ B hml hv
  obtain ⟨rfl, hP, hK, hE⟩ := hv
  have hx := B.exec
  have hb := B.bytes
  have hr := B.returns
  have hts0 := atoms_spec (ws := (.code yX8_count cX8_count 2 (some .int) :: TBL)) B.pre
  have hts := fun (w : Cond) (h : w ∈ TBL) => hts0 w (List.mem_cons_of_mem _ h)
  have hown : s.vm.findClass RX8 = some m.cls := findClass_of_methodNamed B.named
  have hlocks := B.notSynchronized
  have hN := hE.1
  have hS : va_S (fun _ => False) s.heap s.heap [] := va_S.rf
  have hP : va_P (dC, dI) vwCl [(x0, .inr (7, [.ref (b 0), .ref (b 1), .ref (b 2), .ref (b 3), .ref (b 4), .ref (b 5), .ref (b 6), .ref (b 7), .ref (b 8), .ref (b 9), .int 1])), ((b 6), .inr (0, [.int 0, .ref (fT 1), .int 0, .ref (fT 3), .int 0, .ref (fT 5), .ref (fT 6), .ref (fT 7), .int 0, .ref (fT 9), .ref (fT 10), .ref (fT 11), .ref (fT 12), .ref (fT 13)]))] s.heap := hP
  have hl := lv_entry ([.ref x0, .int 0]) (n := 2) (Nat.le_of_ble_eq_true rfl)
  rw [lg_entry_eq]
  generalize (lg_sl ([.ref x0, .int 0]) ++ List.replicate (2 - (lg_sl ([.ref x0, .int 0])).length) Slot.unset).toArray = ls at hl ⊢
  have hl : lv_has ls 2 [(0, .ref x0), (1, .int 0)] := hl
  refine lv_iload_n hx hb dX8_count_0 rfl (lv_at hl 1 rfl) ?_
  refine lv_tableIn (tgt := 48) hx hb dX8_count_1 (by decide) (by decide) rfl (by decide) ?_
  refine lv_aload_n hx hb dX8_count_48 rfl (lv_at hl 0 rfl) ?_
  refine va_get (D := (dC, dI)) (ci := 7) (v := .ref (b 6)) (C := RX8) (T := TX8) (N := 11) hx hb hts inlX8 hown hK hP 0 rfl rfl 6 (by decide) (hts (.fieldLink RX8 51 "ClosedUntil" "told" "LClosedUntil$Holdings;") qw_205) (fun _ h9 => h9) rfl dX8_count_49 ?_
  refine va_getN (D := (dC, dI)) (ci := 0) (v := .int 0) (C := RX1) (T := TX1) (N := 14) hx hb hts inlX1 hown hK hP 1 rfl rfl 4 (by decide) (va_Nw.use rfl (nf_37 hN)) (fun _ h9 => h9) rfl dX8_count_52 ?_
  exact W.iret (v := 0) hx hb hr (fun t ht hW => ⟨0, rfl, (rfl), ht⟩) (fun _ h => absurd h List.not_mem_nil) dX8_count_55
set_option maxHeartbeats 4000000 in
set_option maxRecDepth 100000 in
theorem c_8count1 (l : Launch) (dC : Nat → ClassId) (dI : Nat → Nat → Nat) (g : Gv) (x0 : Nat) (b : Nat → Nat) (f4 : Nat → Nat) (c4 : ClassId) (f5 : Nat → Nat) (f7 : Nat → Nat) (f6 : Nat → Nat) (f2 : Nat → Nat) (cK : ClassId) (kf : Nat → Option Nat) (cZ : ClassId) (fT : Nat → Nat) (fU : Nat → Nat) (sa : Nat → Nat) (sf : Nat → Nat → Nat) (sc : Nat → Nat → ClassId) (spf : Nat → Nat → Int32) (sdf : Nat → Nat → Int32) (slf : Nat → Nat → Int32) (srf : Nat → Nat → Int32) (sga : Nat → Nat → Option Nat) (sgb : Nat → Nat → Option Nat) (rows : va_W)  : Met l yX8_count (.code yX8_count cX8_count 2 (some .int) :: TBL) ({ frames := 1, cells := 0, slots := 0, locals := 40 }) (va_Pc [.ref x0, .int 1] (fun U => va_P (dC, dI) vwCl [(x0, .inr (7, [.ref (b 0), .ref (b 1), .ref (b 2), .ref (b 3), .ref (b 4), .ref (b 5), .ref (b 6), .ref (b 7), .ref (b 8), .ref (b 9), .int 1])), ((b 6), .inr (0, [.int 0, .ref (fT 1), .int 0, .ref (fT 3), .int 0, .ref (fT 5), .ref (fT 6), .ref (fT 7), .int 0, .ref (fT 9), .ref (fT 10), .ref (fT 11), .ref (fT 12), .ref (fT 13)]))] U.heap ∧ va_K (dC, dI) vwCl [] U ∧ Ev g (fun _ => False) U)) (vp_Si (fun r => r = 0)) 0 0 (fun _ => False) := by
  refine Met.ofW (cc := cX8_count) (maxL := 2) (ret := (some .int)) (by decide) rfl ?_
  intro p e s m args below meth c s₁ B hml hv
  obtain ⟨rfl, hP, hK, hE⟩ := hv
  have hx := B.exec
  have hb := B.bytes
  have hr := B.returns
  have hts0 := atoms_spec (ws := (.code yX8_count cX8_count 2 (some .int) :: TBL)) B.pre
  have hts := fun (w : Cond) (h : w ∈ TBL) => hts0 w (List.mem_cons_of_mem _ h)
  have hown : s.vm.findClass RX8 = some m.cls := findClass_of_methodNamed B.named
  have hlocks := B.notSynchronized
  have hN := hE.1
  have hS : va_S (fun _ => False) s.heap s.heap [] := va_S.rf
  have hP : va_P (dC, dI) vwCl [(x0, .inr (7, [.ref (b 0), .ref (b 1), .ref (b 2), .ref (b 3), .ref (b 4), .ref (b 5), .ref (b 6), .ref (b 7), .ref (b 8), .ref (b 9), .int 1])), ((b 6), .inr (0, [.int 0, .ref (fT 1), .int 0, .ref (fT 3), .int 0, .ref (fT 5), .ref (fT 6), .ref (fT 7), .int 0, .ref (fT 9), .ref (fT 10), .ref (fT 11), .ref (fT 12), .ref (fT 13)]))] s.heap := hP
  have hl := lv_entry ([.ref x0, .int 1]) (n := 2) (Nat.le_of_ble_eq_true rfl)
  rw [lg_entry_eq]
  generalize (lg_sl ([.ref x0, .int 1]) ++ List.replicate (2 - (lg_sl ([.ref x0, .int 1])).length) Slot.unset).toArray = ls at hl ⊢
  have hl : lv_has ls 2 [(0, .ref x0), (1, .int 1)] := hl
  refine lv_iload_n hx hb dX8_count_0 rfl (lv_at hl 1 rfl) ?_
  refine lv_tableIn (tgt := 56) hx hb dX8_count_1 (by decide) (by decide) rfl (by decide) ?_
  refine lv_aload_n hx hb dX8_count_56 rfl (lv_at hl 0 rfl) ?_
  refine va_get (D := (dC, dI)) (ci := 7) (v := .ref (b 6)) (C := RX8) (T := TX8) (N := 11) hx hb hts inlX8 hown hK hP 0 rfl rfl 6 (by decide) (hts (.fieldLink RX8 51 "ClosedUntil" "told" "LClosedUntil$Holdings;") qw_205) (fun _ h9 => h9) rfl dX8_count_57 ?_
  refine va_getN (D := (dC, dI)) (ci := 0) (v := .int 0) (C := RX1) (T := TX1) (N := 14) hx hb hts inlX1 hown hK hP 1 rfl rfl 0 (by decide) (va_Nw.use rfl (nf_27 hN)) (fun _ h9 => h9) rfl dX8_count_60 ?_
  exact W.iret (v := 0) hx hb hr (fun t ht hW => ⟨0, rfl, (rfl), ht⟩) (fun _ h => absurd h List.not_mem_nil) dX8_count_63
set_option maxHeartbeats 4000000 in
set_option maxRecDepth 100000 in
theorem c_8count2 (l : Launch) (dC : Nat → ClassId) (dI : Nat → Nat → Nat) (g : Gv) (x0 : Nat) (b : Nat → Nat) (f4 : Nat → Nat) (c4 : ClassId) (f5 : Nat → Nat) (f7 : Nat → Nat) (f6 : Nat → Nat) (f2 : Nat → Nat) (cK : ClassId) (kf : Nat → Option Nat) (cZ : ClassId) (fT : Nat → Nat) (fU : Nat → Nat) (sa : Nat → Nat) (sf : Nat → Nat → Nat) (sc : Nat → Nat → ClassId) (spf : Nat → Nat → Int32) (sdf : Nat → Nat → Int32) (slf : Nat → Nat → Int32) (srf : Nat → Nat → Int32) (sga : Nat → Nat → Option Nat) (sgb : Nat → Nat → Option Nat) (rows : va_W)  : Met l yX8_count (.code yX8_count cX8_count 2 (some .int) :: TBL) ({ frames := 1, cells := 0, slots := 0, locals := 40 }) (va_Pc [.ref x0, .int 2] (fun U => va_P (dC, dI) vwCl [(x0, .inr (7, [.ref (b 0), .ref (b 1), .ref (b 2), .ref (b 3), .ref (b 4), .ref (b 5), .ref (b 6), .ref (b 7), .ref (b 8), .ref (b 9), .int 1])), ((b 6), .inr (0, [.int 0, .ref (fT 1), .int 0, .ref (fT 3), .int 0, .ref (fT 5), .ref (fT 6), .ref (fT 7), .int 0, .ref (fT 9), .ref (fT 10), .ref (fT 11), .ref (fT 12), .ref (fT 13)]))] U.heap ∧ va_K (dC, dI) vwCl [] U ∧ Ev g (fun _ => False) U)) (vp_Si (fun r => r = 0)) 0 0 (fun _ => False) := by
  refine Met.ofW (cc := cX8_count) (maxL := 2) (ret := (some .int)) (by decide) rfl ?_
  intro p e s m args below meth c s₁ B hml hv
  obtain ⟨rfl, hP, hK, hE⟩ := hv
  have hx := B.exec
  have hb := B.bytes
  have hr := B.returns
  have hts0 := atoms_spec (ws := (.code yX8_count cX8_count 2 (some .int) :: TBL)) B.pre
  have hts := fun (w : Cond) (h : w ∈ TBL) => hts0 w (List.mem_cons_of_mem _ h)
  have hown : s.vm.findClass RX8 = some m.cls := findClass_of_methodNamed B.named
  have hlocks := B.notSynchronized
  have hN := hE.1
  have hS : va_S (fun _ => False) s.heap s.heap [] := va_S.rf
  have hP : va_P (dC, dI) vwCl [(x0, .inr (7, [.ref (b 0), .ref (b 1), .ref (b 2), .ref (b 3), .ref (b 4), .ref (b 5), .ref (b 6), .ref (b 7), .ref (b 8), .ref (b 9), .int 1])), ((b 6), .inr (0, [.int 0, .ref (fT 1), .int 0, .ref (fT 3), .int 0, .ref (fT 5), .ref (fT 6), .ref (fT 7), .int 0, .ref (fT 9), .ref (fT 10), .ref (fT 11), .ref (fT 12), .ref (fT 13)]))] s.heap := hP
  have hl := lv_entry ([.ref x0, .int 2]) (n := 2) (Nat.le_of_ble_eq_true rfl)
  rw [lg_entry_eq]
  generalize (lg_sl ([.ref x0, .int 2]) ++ List.replicate (2 - (lg_sl ([.ref x0, .int 2])).length) Slot.unset).toArray = ls at hl ⊢
  have hl : lv_has ls 2 [(0, .ref x0), (1, .int 2)] := hl
  refine lv_iload_n hx hb dX8_count_0 rfl (lv_at hl 1 rfl) ?_
  refine lv_tableIn (tgt := 64) hx hb dX8_count_1 (by decide) (by decide) rfl (by decide) ?_
  refine lv_aload_n hx hb dX8_count_64 rfl (lv_at hl 0 rfl) ?_
  refine va_get (D := (dC, dI)) (ci := 7) (v := .ref (b 6)) (C := RX8) (T := TX8) (N := 11) hx hb hts inlX8 hown hK hP 0 rfl rfl 6 (by decide) (hts (.fieldLink RX8 51 "ClosedUntil" "told" "LClosedUntil$Holdings;") qw_205) (fun _ h9 => h9) rfl dX8_count_65 ?_
  refine va_getN (D := (dC, dI)) (ci := 0) (v := .int 0) (C := RX1) (T := TX1) (N := 14) hx hb hts inlX1 hown hK hP 1 rfl rfl 2 (by decide) (va_Nw.use rfl (nf_32 hN)) (fun _ h9 => h9) rfl dX8_count_68 ?_
  exact W.iret (v := 0) hx hb hr (fun t ht hW => ⟨0, rfl, (rfl), ht⟩) (fun _ h => absurd h List.not_mem_nil) dX8_count_71
set_option maxHeartbeats 4000000 in
set_option maxRecDepth 100000 in
theorem c_8count3 (l : Launch) (dC : Nat → ClassId) (dI : Nat → Nat → Nat) (g : Gv) (x0 : Nat) (b : Nat → Nat) (f4 : Nat → Nat) (c4 : ClassId) (f5 : Nat → Nat) (f7 : Nat → Nat) (f6 : Nat → Nat) (f2 : Nat → Nat) (cK : ClassId) (kf : Nat → Option Nat) (cZ : ClassId) (fT : Nat → Nat) (fU : Nat → Nat) (sa : Nat → Nat) (sf : Nat → Nat → Nat) (sc : Nat → Nat → ClassId) (spf : Nat → Nat → Int32) (sdf : Nat → Nat → Int32) (slf : Nat → Nat → Int32) (srf : Nat → Nat → Int32) (sga : Nat → Nat → Option Nat) (sgb : Nat → Nat → Option Nat) (rows : va_W)  : Met l yX8_count (.code yX8_count cX8_count 2 (some .int) :: TBL) ({ frames := 1, cells := 0, slots := 0, locals := 40 }) (va_Pc [.ref x0, .int 3] (fun U => va_P (dC, dI) vwCl [(x0, .inr (7, [.ref (b 0), .ref (b 1), .ref (b 2), .ref (b 3), .ref (b 4), .ref (b 5), .ref (b 6), .ref (b 7), .ref (b 8), .ref (b 9), .int 1])), ((b 6), .inr (0, [.int 0, .ref (fT 1), .int 0, .ref (fT 3), .int 0, .ref (fT 5), .ref (fT 6), .ref (fT 7), .int 0, .ref (fT 9), .ref (fT 10), .ref (fT 11), .ref (fT 12), .ref (fT 13)]))] U.heap ∧ va_K (dC, dI) vwCl [] U ∧ Ev g (fun _ => False) U)) (vp_Si (fun r => r = 0)) 0 0 (fun _ => False) := by
  refine Met.ofW (cc := cX8_count) (maxL := 2) (ret := (some .int)) (by decide) rfl ?_
  intro p e s m args below meth c s₁ B hml hv
  obtain ⟨rfl, hP, hK, hE⟩ := hv
  have hx := B.exec
  have hb := B.bytes
  have hr := B.returns
  have hts0 := atoms_spec (ws := (.code yX8_count cX8_count 2 (some .int) :: TBL)) B.pre
  have hts := fun (w : Cond) (h : w ∈ TBL) => hts0 w (List.mem_cons_of_mem _ h)
  have hown : s.vm.findClass RX8 = some m.cls := findClass_of_methodNamed B.named
  have hlocks := B.notSynchronized
  have hN := hE.1
  have hS : va_S (fun _ => False) s.heap s.heap [] := va_S.rf
  have hP : va_P (dC, dI) vwCl [(x0, .inr (7, [.ref (b 0), .ref (b 1), .ref (b 2), .ref (b 3), .ref (b 4), .ref (b 5), .ref (b 6), .ref (b 7), .ref (b 8), .ref (b 9), .int 1])), ((b 6), .inr (0, [.int 0, .ref (fT 1), .int 0, .ref (fT 3), .int 0, .ref (fT 5), .ref (fT 6), .ref (fT 7), .int 0, .ref (fT 9), .ref (fT 10), .ref (fT 11), .ref (fT 12), .ref (fT 13)]))] s.heap := hP
  have hl := lv_entry ([.ref x0, .int 3]) (n := 2) (Nat.le_of_ble_eq_true rfl)
  rw [lg_entry_eq]
  generalize (lg_sl ([.ref x0, .int 3]) ++ List.replicate (2 - (lg_sl ([.ref x0, .int 3])).length) Slot.unset).toArray = ls at hl ⊢
  have hl : lv_has ls 2 [(0, .ref x0), (1, .int 3)] := hl
  refine lv_iload_n hx hb dX8_count_0 rfl (lv_at hl 1 rfl) ?_
  refine lv_tableIn (tgt := 72) hx hb dX8_count_1 (by decide) (by decide) rfl (by decide) ?_
  refine lv_aload_n hx hb dX8_count_72 rfl (lv_at hl 0 rfl) ?_
  refine va_get (D := (dC, dI)) (ci := 7) (v := .ref (b 6)) (C := RX8) (T := TX8) (N := 11) hx hb hts inlX8 hown hK hP 0 rfl rfl 6 (by decide) (hts (.fieldLink RX8 51 "ClosedUntil" "told" "LClosedUntil$Holdings;") qw_205) (fun _ h9 => h9) rfl dX8_count_73 ?_
  refine va_getN (D := (dC, dI)) (ci := 0) (v := .int 0) (C := RX1) (T := TX1) (N := 14) hx hb hts inlX1 hown hK hP 1 rfl rfl 8 (by decide) (va_Nw.use rfl (nf_47 hN)) (fun _ h9 => h9) rfl dX8_count_76 ?_
  exact W.iret (v := 0) hx hb hr (fun t ht hW => ⟨0, rfl, (rfl), ht⟩) (fun _ h => absurd h List.not_mem_nil) dX8_count_79
set_option maxHeartbeats 4000000 in
set_option maxRecDepth 100000 in
theorem c_8count4 (l : Launch) (dC : Nat → ClassId) (dI : Nat → Nat → Nat) (g : Gv) (x0 : Nat) (b : Nat → Nat) (f4 : Nat → Nat) (c4 : ClassId) (f5 : Nat → Nat) (f7 : Nat → Nat) (f6 : Nat → Nat) (f2 : Nat → Nat) (cK : ClassId) (kf : Nat → Option Nat) (cZ : ClassId) (fT : Nat → Nat) (fU : Nat → Nat) (sa : Nat → Nat) (sf : Nat → Nat → Nat) (sc : Nat → Nat → ClassId) (spf : Nat → Nat → Int32) (sdf : Nat → Nat → Int32) (slf : Nat → Nat → Int32) (srf : Nat → Nat → Int32) (sga : Nat → Nat → Option Nat) (sgb : Nat → Nat → Option Nat) (rows : va_W) (hz : ∀ j, j < 12 → srf 2 j = 0) : Met l yX8_count (.code yX8_count cX8_count 2 (some .int) :: TBL) ({ frames := 1, cells := 0, slots := 0, locals := 40 }) (va_Pc [.ref x0, .int 4] (fun U => va_P (dC, dI) vwCl [(x0, .inr (7, [.ref (b 0), .ref (b 1), .ref (b 2), .ref (b 3), .ref (b 4), .ref (b 5), .ref (b 6), .ref (b 7), .ref (b 8), .ref (b 9), .int 1])), ((b 8), .inr (2, [.ref ((sf 2) 0), .ref ((sf 2) 1), .ref ((sf 2) 2), .ref ((sf 2) 3), .ref ((sf 2) 4), .ref ((sf 2) 5)])), (((sf 2) 3), .inl (((sc 2) 3), 12, .inl (srf 2)))] U.heap ∧ va_K (dC, dI) vwCl [(((sc 2) 3), .int)] U ∧ Ev g (fun _ => False) U)) (vp_Si (fun r => r = 0)) 0 0 (fun _ => False) := by
  refine Met.ofW (cc := cX8_count) (maxL := 2) (ret := (some .int)) (by decide) rfl ?_
  intro p e s m args below meth c s₁ B hml hv
  obtain ⟨rfl, hP, hK, hE⟩ := hv
  have hx := B.exec
  have hb := B.bytes
  have hr := B.returns
  have hts0 := atoms_spec (ws := (.code yX8_count cX8_count 2 (some .int) :: TBL)) B.pre
  have hts := fun (w : Cond) (h : w ∈ TBL) => hts0 w (List.mem_cons_of_mem _ h)
  have hown : s.vm.findClass RX8 = some m.cls := findClass_of_methodNamed B.named
  have hlocks := B.notSynchronized
  have hN := hE.1
  have hS : va_S (fun _ => False) s.heap s.heap [] := va_S.rf
  have hP : va_P (dC, dI) vwCl [(x0, .inr (7, [.ref (b 0), .ref (b 1), .ref (b 2), .ref (b 3), .ref (b 4), .ref (b 5), .ref (b 6), .ref (b 7), .ref (b 8), .ref (b 9), .int 1])), ((b 8), .inr (2, [.ref ((sf 2) 0), .ref ((sf 2) 1), .ref ((sf 2) 2), .ref ((sf 2) 3), .ref ((sf 2) 4), .ref ((sf 2) 5)])), (((sf 2) 3), .inl (((sc 2) 3), 12, .inl (srf 2)))] s.heap := hP
  have hl := lv_entry ([.ref x0, .int 4]) (n := 2) (Nat.le_of_ble_eq_true rfl)
  rw [lg_entry_eq]
  generalize (lg_sl ([.ref x0, .int 4]) ++ List.replicate (2 - (lg_sl ([.ref x0, .int 4])).length) Slot.unset).toArray = ls at hl ⊢
  have hl : lv_has ls 2 [(0, .ref x0), (1, .int 4)] := hl
  refine lv_iload_n hx hb dX8_count_0 rfl (lv_at hl 1 rfl) ?_
  refine lv_tableIn (tgt := 80) hx hb dX8_count_1 (by decide) (by decide) rfl (by decide) ?_
  refine lv_aload_n hx hb dX8_count_80 rfl (lv_at hl 0 rfl) ?_
  refine va_get (D := (dC, dI)) (ci := 7) (v := .ref (b 8)) (C := RX8) (T := TX8) (N := 11) hx hb hts inlX8 hown hK hP 0 rfl rfl 8 (by decide) (hts (.fieldLink RX8 58 "ClosedUntil" "now" "LClosedUntil$State;") qw_207) (fun _ h9 => h9) rfl dX8_count_81 ?_
  have hPc := hP.sub (ws' := [((b 8), .inr (2, [.ref ((sf 2) 0), .ref ((sf 2) 1), .ref ((sf 2) 2), .ref ((sf 2) 3), .ref ((sf 2) 4), .ref ((sf 2) 5)])), (((sf 2) 3), .inl (((sc 2) 3), 12, .inl (srf 2)))]) [1, 2] rfl
  have hKc := hK.sub (tys' := [(((sc 2) 3), .int)]) [0] rfl
  refine vp_callSi ((va_runVN (As := []) (rest := []) ⟨hx, hb, hml, hown, hts⟩ (c_alr l dC dI g ((b 8)) ((sf 2)) ((sc 2)) ((srf 2)) hz) ⟨va_cnB 0 hts (gwC qw_260) rfl rfl rfl (nm_48 hN) (hts (.initialized RX3) qw_165) (by decide +kernel) ⟨Nat.le_of_ble_eq_true rfl, Nat.le_of_ble_eq_true rfl⟩, (hts (.instanceMethod yX3_allReviews) qw_261), (hts (.selects RX3 yX3_allReviews yX3_allReviews) qw_262)⟩ ⟨fun a U g9 mk q => ⟨q.1, q.2.1, va_K.moved (u := U) (U := U.calling g9 mk a) (Vm.Alike.refl U.vm) q.2.2.1, Ev.bl q.2.2.2⟩, va_recv hK hP (ci := 2) (q0 := 1) rfl rfl, fun U hU hW => ⟨rfl, by rw [hU]; exact hPc, va_K.moved hW.alike hKc, hE.go hS (fun _ h => h.elim) hU hW⟩⟩ rfl rfl hl.1 rfl (lv_room (Nat.le_of_ble_eq_true rfl)) dX8_count_84 ⟨Nat.le_of_ble_eq_true rfl, Nat.le_of_ble_eq_true rfl⟩)).run (fun r1 h_r1 => ?_)
  have h_r1 : r1 = 0 := h_r1
  subst h_r1
  exact W.iret (v := 0) hx hb hr (fun t ht hW => ⟨0, rfl, (rfl), ht⟩) (fun _ h => absurd h List.not_mem_nil) dX8_count_87
set_option maxHeartbeats 4000000 in
set_option maxRecDepth 100000 in
theorem c_8count5 (l : Launch) (dC : Nat → ClassId) (dI : Nat → Nat → Nat) (g : Gv) (x0 : Nat) (b : Nat → Nat) (f4 : Nat → Nat) (c4 : ClassId) (f5 : Nat → Nat) (f7 : Nat → Nat) (f6 : Nat → Nat) (f2 : Nat → Nat) (cK : ClassId) (kf : Nat → Option Nat) (cZ : ClassId) (fT : Nat → Nat) (fU : Nat → Nat) (sa : Nat → Nat) (sf : Nat → Nat → Nat) (sc : Nat → Nat → ClassId) (spf : Nat → Nat → Int32) (sdf : Nat → Nat → Int32) (slf : Nat → Nat → Int32) (srf : Nat → Nat → Int32) (sga : Nat → Nat → Option Nat) (sgb : Nat → Nat → Option Nat) (rows : va_W) (hz : ∀ j, j < 12 → slf 2 j = -1) : Met l yX8_count (.code yX8_count cX8_count 2 (some .int) :: TBL) ({ frames := 1, cells := 0, slots := 0, locals := 40 }) (va_Pc [.ref x0, .int 5] (fun U => va_P (dC, dI) vwCl [(x0, .inr (7, [.ref (b 0), .ref (b 1), .ref (b 2), .ref (b 3), .ref (b 4), .ref (b 5), .ref (b 6), .ref (b 7), .ref (b 8), .ref (b 9), .int 1])), ((b 8), .inr (2, [.ref ((sf 2) 0), .ref ((sf 2) 1), .ref ((sf 2) 2), .ref ((sf 2) 3), .ref ((sf 2) 4), .ref ((sf 2) 5)])), (((sf 2) 2), .inl (((sc 2) 2), 12, .inl (slf 2)))] U.heap ∧ va_K (dC, dI) vwCl [(((sc 2) 2), .int)] U ∧ Ev g (fun _ => False) U)) (vp_Si (fun r => r = 0)) 0 0 (fun _ => False) := by
  refine Met.ofW (cc := cX8_count) (maxL := 2) (ret := (some .int)) (by decide) rfl ?_
  intro p e s m args below meth c s₁ B hml hv
  obtain ⟨rfl, hP, hK, hE⟩ := hv
  have hx := B.exec
  have hb := B.bytes
  have hr := B.returns
  have hts0 := atoms_spec (ws := (.code yX8_count cX8_count 2 (some .int) :: TBL)) B.pre
  have hts := fun (w : Cond) (h : w ∈ TBL) => hts0 w (List.mem_cons_of_mem _ h)
  have hown : s.vm.findClass RX8 = some m.cls := findClass_of_methodNamed B.named
  have hlocks := B.notSynchronized
  have hN := hE.1
  have hS : va_S (fun _ => False) s.heap s.heap [] := va_S.rf
  have hP : va_P (dC, dI) vwCl [(x0, .inr (7, [.ref (b 0), .ref (b 1), .ref (b 2), .ref (b 3), .ref (b 4), .ref (b 5), .ref (b 6), .ref (b 7), .ref (b 8), .ref (b 9), .int 1])), ((b 8), .inr (2, [.ref ((sf 2) 0), .ref ((sf 2) 1), .ref ((sf 2) 2), .ref ((sf 2) 3), .ref ((sf 2) 4), .ref ((sf 2) 5)])), (((sf 2) 2), .inl (((sc 2) 2), 12, .inl (slf 2)))] s.heap := hP
  have hl := lv_entry ([.ref x0, .int 5]) (n := 2) (Nat.le_of_ble_eq_true rfl)
  rw [lg_entry_eq]
  generalize (lg_sl ([.ref x0, .int 5]) ++ List.replicate (2 - (lg_sl ([.ref x0, .int 5])).length) Slot.unset).toArray = ls at hl ⊢
  have hl : lv_has ls 2 [(0, .ref x0), (1, .int 5)] := hl
  refine lv_iload_n hx hb dX8_count_0 rfl (lv_at hl 1 rfl) ?_
  refine lv_tableIn (tgt := 88) hx hb dX8_count_1 (by decide) (by decide) rfl (by decide) ?_
  refine lv_aload_n hx hb dX8_count_88 rfl (lv_at hl 0 rfl) ?_
  refine va_get (D := (dC, dI)) (ci := 7) (v := .ref (b 8)) (C := RX8) (T := TX8) (N := 11) hx hb hts inlX8 hown hK hP 0 rfl rfl 8 (by decide) (hts (.fieldLink RX8 58 "ClosedUntil" "now" "LClosedUntil$State;") qw_207) (fun _ h9 => h9) rfl dX8_count_89 ?_
  have hPc := hP.sub (ws' := [((b 8), .inr (2, [.ref ((sf 2) 0), .ref ((sf 2) 1), .ref ((sf 2) 2), .ref ((sf 2) 3), .ref ((sf 2) 4), .ref ((sf 2) 5)])), (((sf 2) 2), .inl (((sc 2) 2), 12, .inl (slf 2)))]) [1, 2] rfl
  have hKc := hK.sub (tys' := [(((sc 2) 2), .int)]) [0] rfl
  refine vp_callSi ((va_runVN (As := []) (rest := []) ⟨hx, hb, hml, hown, hts⟩ (c_all l dC dI g ((b 8)) ((sf 2)) ((sc 2)) ((slf 2)) hz) ⟨va_cnB 0 hts (gwC qw_263) rfl rfl rfl (nm_49 hN) (hts (.initialized RX3) qw_165) (by decide +kernel) ⟨Nat.le_of_ble_eq_true rfl, Nat.le_of_ble_eq_true rfl⟩, (hts (.instanceMethod yX3_allLifted) qw_264), (hts (.selects RX3 yX3_allLifted yX3_allLifted) qw_265)⟩ ⟨fun a U g9 mk q => ⟨q.1, q.2.1, va_K.moved (u := U) (U := U.calling g9 mk a) (Vm.Alike.refl U.vm) q.2.2.1, Ev.bl q.2.2.2⟩, va_recv hK hP (ci := 2) (q0 := 1) rfl rfl, fun U hU hW => ⟨rfl, by rw [hU]; exact hPc, va_K.moved hW.alike hKc, hE.go hS (fun _ h => h.elim) hU hW⟩⟩ rfl rfl hl.1 rfl (lv_room (Nat.le_of_ble_eq_true rfl)) dX8_count_92 ⟨Nat.le_of_ble_eq_true rfl, Nat.le_of_ble_eq_true rfl⟩)).run (fun r1 h_r1 => ?_)
  have h_r1 : r1 = 0 := h_r1
  subst h_r1
  exact W.iret (v := 0) hx hb hr (fun t ht hW => ⟨0, rfl, (rfl), ht⟩) (fun _ h => absurd h List.not_mem_nil) dX8_count_95
set_option maxHeartbeats 4000000 in
set_option maxRecDepth 100000 in
theorem c_8count6 (l : Launch) (dC : Nat → ClassId) (dI : Nat → Nat → Nat) (g : Gv) (x0 : Nat) (b : Nat → Nat) (f4 : Nat → Nat) (c4 : ClassId) (f5 : Nat → Nat) (f7 : Nat → Nat) (f6 : Nat → Nat) (f2 : Nat → Nat) (cK : ClassId) (kf : Nat → Option Nat) (cZ : ClassId) (fT : Nat → Nat) (fU : Nat → Nat) (sa : Nat → Nat) (sf : Nat → Nat → Nat) (sc : Nat → Nat → ClassId) (spf : Nat → Nat → Int32) (sdf : Nat → Nat → Int32) (slf : Nat → Nat → Int32) (srf : Nat → Nat → Int32) (sga : Nat → Nat → Option Nat) (sgb : Nat → Nat → Option Nat) (rows : va_W)  : Met l yX8_count (.code yX8_count cX8_count 2 (some .int) :: TBL) ({ frames := 1, cells := 0, slots := 0, locals := 40 }) (va_Pc [.ref x0, .int 6] (fun U => va_P (dC, dI) vwCl [(x0, .inr (7, [.ref (b 0), .ref (b 1), .ref (b 2), .ref (b 3), .ref (b 4), .ref (b 5), .ref (b 6), .ref (b 7), .ref (b 8), .ref (b 9), .int 1])), ((b 3), .inr (1, [.ref (f2 0), .ref (f2 1), .ref (f2 2), .int 0]))] U.heap ∧ va_K (dC, dI) vwCl [] U ∧ Ev g (fun _ => False) U)) (vp_Si (fun r => r = 0)) 0 0 (fun _ => False) := by
  refine Met.ofW (cc := cX8_count) (maxL := 2) (ret := (some .int)) (by decide) rfl ?_
  intro p e s m args below meth c s₁ B hml hv
  obtain ⟨rfl, hP, hK, hE⟩ := hv
  have hx := B.exec
  have hb := B.bytes
  have hr := B.returns
  have hts0 := atoms_spec (ws := (.code yX8_count cX8_count 2 (some .int) :: TBL)) B.pre
  have hts := fun (w : Cond) (h : w ∈ TBL) => hts0 w (List.mem_cons_of_mem _ h)
  have hown : s.vm.findClass RX8 = some m.cls := findClass_of_methodNamed B.named
  have hlocks := B.notSynchronized
  have hN := hE.1
  have hS : va_S (fun _ => False) s.heap s.heap [] := va_S.rf
  have hP : va_P (dC, dI) vwCl [(x0, .inr (7, [.ref (b 0), .ref (b 1), .ref (b 2), .ref (b 3), .ref (b 4), .ref (b 5), .ref (b 6), .ref (b 7), .ref (b 8), .ref (b 9), .int 1])), ((b 3), .inr (1, [.ref (f2 0), .ref (f2 1), .ref (f2 2), .int 0]))] s.heap := hP
  have hl := lv_entry ([.ref x0, .int 6]) (n := 2) (Nat.le_of_ble_eq_true rfl)
  rw [lg_entry_eq]
  generalize (lg_sl ([.ref x0, .int 6]) ++ List.replicate (2 - (lg_sl ([.ref x0, .int 6])).length) Slot.unset).toArray = ls at hl ⊢
  have hl : lv_has ls 2 [(0, .ref x0), (1, .int 6)] := hl
  refine lv_iload_n hx hb dX8_count_0 rfl (lv_at hl 1 rfl) ?_
  refine lv_tableIn (tgt := 96) hx hb dX8_count_1 (by decide) (by decide) rfl (by decide) ?_
  refine lv_aload_n hx hb dX8_count_96 rfl (lv_at hl 0 rfl) ?_
  refine va_get (D := (dC, dI)) (ci := 7) (v := .ref (b 3)) (C := RX8) (T := TX8) (N := 11) hx hb hts inlX8 hown hK hP 0 rfl rfl 3 (by decide) (hts (.fieldLink RX8 33 "ClosedUntil" "journal" "LClosedUntil$Journal;") qw_193) (fun _ h9 => h9) rfl dX8_count_97 ?_
  refine va_getN (D := (dC, dI)) (ci := 1) (v := .int 0) (C := RX2) (T := TX2) (N := 4) hx hb hts inlX2 hown hK hP 1 rfl rfl 3 (by decide) (va_Nw.use rfl (nf_10 hN)) (fun _ h9 => h9) rfl dX8_count_100 ?_
  exact W.iret (v := 0) hx hb hr (fun t ht hW => ⟨0, rfl, (rfl), ht⟩) (fun _ h => absurd h List.not_mem_nil) dX8_count_103
set_option maxHeartbeats 4000000 in
set_option maxRecDepth 100000 in
theorem c_8count7 (l : Launch) (dC : Nat → ClassId) (dI : Nat → Nat → Nat) (g : Gv) (x0 : Nat) (b : Nat → Nat) (f4 : Nat → Nat) (c4 : ClassId) (f5 : Nat → Nat) (f7 : Nat → Nat) (f6 : Nat → Nat) (f2 : Nat → Nat) (cK : ClassId) (kf : Nat → Option Nat) (cZ : ClassId) (fT : Nat → Nat) (fU : Nat → Nat) (sa : Nat → Nat) (sf : Nat → Nat → Nat) (sc : Nat → Nat → ClassId) (spf : Nat → Nat → Int32) (sdf : Nat → Nat → Int32) (slf : Nat → Nat → Int32) (srf : Nat → Nat → Int32) (sga : Nat → Nat → Option Nat) (sgb : Nat → Nat → Option Nat) (rows : va_W)  : Met l yX8_count (.code yX8_count cX8_count 2 (some .int) :: TBL) ({ frames := 1, cells := 0, slots := 0, locals := 40 }) (va_Pc [.ref x0, .int 7] (fun U => va_P (dC, dI) vwCl [(x0, .inr (7, [.ref (b 0), .ref (b 1), .ref (b 2), .ref (b 3), .ref (b 4), .ref (b 5), .ref (b 6), .ref (b 7), .ref (b 8), .ref (b 9), .int 1])), ((b 0), .inr (3, [.ref (f4 0), .int 0]))] U.heap ∧ va_K (dC, dI) vwCl [] U ∧ Ev g (fun _ => False) U)) (vp_Si (fun r => r = 0)) 0 0 (fun _ => False) := by
  refine Met.ofW (cc := cX8_count) (maxL := 2) (ret := (some .int)) (by decide) rfl ?_
  intro p e s m args below meth c s₁ B hml hv
  obtain ⟨rfl, hP, hK, hE⟩ := hv
  have hx := B.exec
  have hb := B.bytes
  have hr := B.returns
  have hts0 := atoms_spec (ws := (.code yX8_count cX8_count 2 (some .int) :: TBL)) B.pre
  have hts := fun (w : Cond) (h : w ∈ TBL) => hts0 w (List.mem_cons_of_mem _ h)
  have hown : s.vm.findClass RX8 = some m.cls := findClass_of_methodNamed B.named
  have hlocks := B.notSynchronized
  have hN := hE.1
  have hS : va_S (fun _ => False) s.heap s.heap [] := va_S.rf
  have hP : va_P (dC, dI) vwCl [(x0, .inr (7, [.ref (b 0), .ref (b 1), .ref (b 2), .ref (b 3), .ref (b 4), .ref (b 5), .ref (b 6), .ref (b 7), .ref (b 8), .ref (b 9), .int 1])), ((b 0), .inr (3, [.ref (f4 0), .int 0]))] s.heap := hP
  have hl := lv_entry ([.ref x0, .int 7]) (n := 2) (Nat.le_of_ble_eq_true rfl)
  rw [lg_entry_eq]
  generalize (lg_sl ([.ref x0, .int 7]) ++ List.replicate (2 - (lg_sl ([.ref x0, .int 7])).length) Slot.unset).toArray = ls at hl ⊢
  have hl : lv_has ls 2 [(0, .ref x0), (1, .int 7)] := hl
  refine lv_iload_n hx hb dX8_count_0 rfl (lv_at hl 1 rfl) ?_
  refine lv_tableIn (tgt := 104) hx hb dX8_count_1 (by decide) (by decide) rfl (by decide) ?_
  refine lv_aload_n hx hb dX8_count_104 rfl (lv_at hl 0 rfl) ?_
  refine va_get (D := (dC, dI)) (ci := 7) (v := .ref (b 0)) (C := RX8) (T := TX8) (N := 11) hx hb hts inlX8 hown hK hP 0 rfl rfl 0 (by decide) (hts (.fieldLink RX8 10 "ClosedUntil" "tape" "LClosedUntil$Tape;") qw_175) (fun _ h9 => h9) rfl dX8_count_105 ?_
  refine va_getN (D := (dC, dI)) (ci := 3) (v := .int 0) (C := RX4) (T := TX4) (N := 2) hx hb hts inlX4 hown hK hP 1 rfl rfl 1 (by decide) (va_Nw.use rfl (nf_1 hN)) (fun _ h9 => h9) rfl dX8_count_108 ?_
  exact W.iret (v := 0) hx hb hr (fun t ht hW => ⟨0, rfl, (rfl), ht⟩) (fun _ h => absurd h List.not_mem_nil) dX8_count_111
set_option maxHeartbeats 4000000 in
set_option maxRecDepth 100000 in
theorem c_8countO (l : Launch) (dC : Nat → ClassId) (dI : Nat → Nat → Nat) (g : Gv) (x0 : Nat) (b : Nat → Nat) (f4 : Nat → Nat) (c4 : ClassId) (f5 : Nat → Nat) (f7 : Nat → Nat) (f6 : Nat → Nat) (f2 : Nat → Nat) (cK : ClassId) (kf : Nat → Option Nat) (cZ : ClassId) (fT : Nat → Nat) (fU : Nat → Nat) (sa : Nat → Nat) (sf : Nat → Nat → Nat) (sc : Nat → Nat → ClassId) (spf : Nat → Nat → Int32) (sdf : Nat → Nat → Int32) (slf : Nat → Nat → Int32) (srf : Nat → Nat → Int32) (sga : Nat → Nat → Option Nat) (sgb : Nat → Nat → Option Nat) (rows : va_W) (wh : Int32) (hw : ¬ (0 ≤ wh.toInt ∧ wh.toInt ≤ 7)) : Met l yX8_count (.code yX8_count cX8_count 2 (some .int) :: TBL) ({ frames := 1, cells := 0, slots := 0, locals := 40 }) (va_Pc [.ref x0, .int wh] (fun U => va_P (dC, dI) vwCl [(x0, .inr (7, [.ref (b 0), .ref (b 1), .ref (b 2), .ref (b 3), .ref (b 4), .ref (b 5), .ref (b 6), .ref (b 7), .ref (b 8), .ref (b 9), .int 1]))] U.heap ∧ va_K (dC, dI) vwCl [] U ∧ Ev g (fun _ => False) U)) (vp_Si (fun r => r = (-1))) 0 0 (fun _ => False) := by
  refine Met.ofW (cc := cX8_count) (maxL := 2) (ret := (some .int)) (by decide) rfl ?_
  intro p e s m args below meth c s₁ B hml hv
  obtain ⟨rfl, hP, hK, hE⟩ := hv
  have hx := B.exec
  have hb := B.bytes
  have hr := B.returns
  have hts0 := atoms_spec (ws := (.code yX8_count cX8_count 2 (some .int) :: TBL)) B.pre
  have hts := fun (w : Cond) (h : w ∈ TBL) => hts0 w (List.mem_cons_of_mem _ h)
  have hown : s.vm.findClass RX8 = some m.cls := findClass_of_methodNamed B.named
  have hlocks := B.notSynchronized
  have hN := hE.1
  have hS : va_S (fun _ => False) s.heap s.heap [] := va_S.rf
  have hP : va_P (dC, dI) vwCl [(x0, .inr (7, [.ref (b 0), .ref (b 1), .ref (b 2), .ref (b 3), .ref (b 4), .ref (b 5), .ref (b 6), .ref (b 7), .ref (b 8), .ref (b 9), .int 1]))] s.heap := hP
  have hl := lv_entry ([.ref x0, .int wh]) (n := 2) (Nat.le_of_ble_eq_true rfl)
  rw [lg_entry_eq]
  generalize (lg_sl ([.ref x0, .int wh]) ++ List.replicate (2 - (lg_sl ([.ref x0, .int wh])).length) Slot.unset).toArray = ls at hl ⊢
  have hl : lv_has ls 2 [(0, .ref x0), (1, .int wh)] := hl
  refine lv_iload_n hx hb dX8_count_0 rfl (lv_at hl 1 rfl) ?_
  refine lv_tableOut (tgt := 112) hx hb dX8_count_1 (by omega) (by decide) ?_
  refine lv_iconst (v := (-1)) hx hb dX8_count_112 (by decide) ?_
  exact W.iret (v := (-1)) hx hb hr (fun t ht hW => ⟨(-1), rfl, (rfl), ht⟩) (fun _ h => absurd h List.not_mem_nil) dX8_count_113
