set_option maxRecDepth 20000 in
theorem nwF_in : ∀ q ∈ nwF, (Cond.fieldLinkNest q.1 q.2.1 q.2.2.1 q.2.2.2.1 q.2.2.2.2.1 q.2.2.2.2.2) ∈ lw_tbl := by unfold nwF; exact (List.forall_mem_cons.mpr ⟨List.mem_of_getElem? (i := 140) (by decide +kernel), (List.forall_mem_cons.mpr ⟨List.mem_of_getElem? (i := 142) (by decide +kernel), (List.forall_mem_cons.mpr ⟨List.mem_of_getElem? (i := 219) (by decide +kernel), (List.forall_mem_cons.mpr ⟨List.mem_of_getElem? (i := 221) (by decide +kernel), (List.forall_mem_cons.mpr ⟨List.mem_of_getElem? (i := 224) (by decide +kernel), (List.forall_mem_cons.mpr ⟨List.mem_of_getElem? (i := 226) (by decide +kernel), (List.forall_mem_cons.mpr ⟨List.mem_of_getElem? (i := 274) (by decide +kernel), (List.forall_mem_cons.mpr ⟨List.mem_of_getElem? (i := 276) (by decide +kernel), (List.forall_mem_cons.mpr ⟨List.mem_of_getElem? (i := 278) (by decide +kernel), (List.forall_mem_cons.mpr ⟨List.mem_of_getElem? (i := 280) (by decide +kernel), (List.forall_mem_cons.mpr ⟨List.mem_of_getElem? (i := 312) (by decide +kernel), (List.forall_mem_cons.mpr ⟨List.mem_of_getElem? (i := 335) (by decide +kernel), (List.forall_mem_cons.mpr ⟨List.mem_of_getElem? (i := 336) (by decide +kernel), (List.forall_mem_cons.mpr ⟨List.mem_of_getElem? (i := 337) (by decide +kernel), (List.forall_mem_cons.mpr ⟨List.mem_of_getElem? (i := 338) (by decide +kernel), (List.forall_mem_cons.mpr ⟨List.mem_of_getElem? (i := 340) (by decide +kernel), (List.forall_mem_cons.mpr ⟨List.mem_of_getElem? (i := 341) (by decide +kernel), (List.forall_mem_cons.mpr ⟨List.mem_of_getElem? (i := 342) (by decide +kernel), (List.forall_mem_cons.mpr ⟨List.mem_of_getElem? (i := 343) (by decide +kernel), (List.forall_mem_cons.mpr ⟨List.mem_of_getElem? (i := 345) (by decide +kernel), (List.forall_mem_cons.mpr ⟨List.mem_of_getElem? (i := 346) (by decide +kernel), (List.forall_mem_cons.mpr ⟨List.mem_of_getElem? (i := 347) (by decide +kernel), (List.forall_mem_cons.mpr ⟨List.mem_of_getElem? (i := 349) (by decide +kernel), (List.forall_mem_cons.mpr ⟨List.mem_of_getElem? (i := 350) (by decide +kernel), (List.forall_mem_cons.mpr ⟨List.mem_of_getElem? (i := 352) (by decide +kernel), (List.forall_mem_cons.mpr ⟨List.mem_of_getElem? (i := 354) (by decide +kernel), (List.forall_mem_cons.mpr ⟨List.mem_of_getElem? (i := 376) (by decide +kernel), (List.forall_mem_cons.mpr ⟨List.mem_of_getElem? (i := 377) (by decide +kernel), (List.forall_mem_cons.mpr ⟨List.mem_of_getElem? (i := 379) (by decide +kernel), (List.forall_mem_cons.mpr ⟨List.mem_of_getElem? (i := 380) (by decide +kernel), (List.forall_mem_cons.mpr ⟨List.mem_of_getElem? (i := 381) (by decide +kernel), (List.forall_mem_cons.mpr ⟨List.mem_of_getElem? (i := 383) (by decide +kernel), (List.forall_mem_cons.mpr ⟨List.mem_of_getElem? (i := 384) (by decide +kernel), (List.forall_mem_cons.mpr ⟨List.mem_of_getElem? (i := 386) (by decide +kernel), (List.forall_mem_cons.mpr ⟨List.mem_of_getElem? (i := 387) (by decide +kernel), (List.forall_mem_cons.mpr ⟨List.mem_of_getElem? (i := 388) (by decide +kernel), (List.forall_mem_cons.mpr ⟨List.mem_of_getElem? (i := 390) (by decide +kernel), (List.forall_mem_cons.mpr ⟨List.mem_of_getElem? (i := 391) (by decide +kernel), (List.forall_mem_cons.mpr ⟨List.mem_of_getElem? (i := 393) (by decide +kernel), (List.forall_mem_cons.mpr ⟨List.mem_of_getElem? (i := 394) (by decide +kernel), (List.forall_mem_cons.mpr ⟨List.mem_of_getElem? (i := 395) (by decide +kernel), (List.forall_mem_cons.mpr ⟨List.mem_of_getElem? (i := 397) (by decide +kernel), (List.forall_mem_cons.mpr ⟨List.mem_of_getElem? (i := 398) (by decide +kernel), (List.forall_mem_cons.mpr ⟨List.mem_of_getElem? (i := 400) (by decide +kernel), (List.forall_mem_cons.mpr ⟨List.mem_of_getElem? (i := 401) (by decide +kernel), (List.forall_mem_cons.mpr ⟨List.mem_of_getElem? (i := 402) (by decide +kernel), (List.forall_mem_cons.mpr ⟨List.mem_of_getElem? (i := 404) (by decide +kernel), (List.forall_mem_cons.mpr ⟨List.mem_of_getElem? (i := 405) (by decide +kernel), (List.forall_mem_cons.mpr ⟨List.mem_of_getElem? (i := 407) (by decide +kernel), (List.forall_mem_cons.mpr ⟨List.mem_of_getElem? (i := 408) (by decide +kernel), (List.forall_mem_cons.mpr ⟨List.mem_of_getElem? (i := 409) (by decide +kernel), (List.forall_mem_cons.mpr ⟨List.mem_of_getElem? (i := 411) (by decide +kernel), (List.forall_mem_cons.mpr ⟨List.mem_of_getElem? (i := 412) (by decide +kernel), (List.forall_mem_cons.mpr ⟨List.mem_of_getElem? (i := 413) (by decide +kernel), (List.forall_mem_cons.mpr ⟨List.mem_of_getElem? (i := 415) (by decide +kernel), (List.forall_mem_cons.mpr ⟨List.mem_of_getElem? (i := 416) (by decide +kernel), (List.forall_mem_cons.mpr ⟨List.mem_of_getElem? (i := 417) (by decide +kernel), (List.forall_mem_cons.mpr ⟨List.mem_of_getElem? (i := 419) (by decide +kernel), (List.forall_mem_cons.mpr ⟨List.mem_of_getElem? (i := 420) (by decide +kernel), (List.forall_mem_cons.mpr ⟨List.mem_of_getElem? (i := 422) (by decide +kernel), (List.forall_mem_cons.mpr ⟨List.mem_of_getElem? (i := 423) (by decide +kernel), (List.forall_mem_cons.mpr ⟨List.mem_of_getElem? (i := 571) (by decide +kernel), (fun _ h => absurd h List.not_mem_nil)⟩)⟩)⟩)⟩)⟩)⟩)⟩)⟩)⟩)⟩)⟩)⟩)⟩)⟩)⟩)⟩)⟩)⟩)⟩)⟩)⟩)⟩)⟩)⟩)⟩)⟩)⟩)⟩)⟩)⟩)⟩)⟩)⟩)⟩)⟩)⟩)⟩)⟩)⟩)⟩)⟩)⟩)⟩)⟩)⟩)⟩)⟩)⟩)⟩)⟩)⟩)⟩)⟩)⟩)⟩)⟩)⟩)⟩)⟩)⟩)⟩)⟩)
set_option maxRecDepth 20000 in
theorem nwM_in : ∀ q ∈ nwM, (Cond.methodLinkNest q.1 q.2.1 q.2.2.1 q.2.2.2) ∈ lw_tbl := by unfold nwM; exact (List.forall_mem_cons.mpr ⟨List.mem_of_getElem? (i := 135) (by decide +kernel), (List.forall_mem_cons.mpr ⟨List.mem_of_getElem? (i := 151) (by decide +kernel), (List.forall_mem_cons.mpr ⟨List.mem_of_getElem? (i := 157) (by decide +kernel), (List.forall_mem_cons.mpr ⟨List.mem_of_getElem? (i := 267) (by decide +kernel), (List.forall_mem_cons.mpr ⟨List.mem_of_getElem? (i := 304) (by decide +kernel), (List.forall_mem_cons.mpr ⟨List.mem_of_getElem? (i := 325) (by decide +kernel), (List.forall_mem_cons.mpr ⟨List.mem_of_getElem? (i := 370) (by decide +kernel), (List.forall_mem_cons.mpr ⟨List.mem_of_getElem? (i := 492) (by decide +kernel), (List.forall_mem_cons.mpr ⟨List.mem_of_getElem? (i := 496) (by decide +kernel), (List.forall_mem_cons.mpr ⟨List.mem_of_getElem? (i := 504) (by decide +kernel), (List.forall_mem_cons.mpr ⟨List.mem_of_getElem? (i := 508) (by decide +kernel), (List.forall_mem_cons.mpr ⟨List.mem_of_getElem? (i := 512) (by decide +kernel), (List.forall_mem_cons.mpr ⟨List.mem_of_getElem? (i := 513) (by decide +kernel), (List.forall_mem_cons.mpr ⟨List.mem_of_getElem? (i := 550) (by decide +kernel), (List.forall_mem_cons.mpr ⟨List.mem_of_getElem? (i := 573) (by decide +kernel), (List.forall_mem_cons.mpr ⟨List.mem_of_getElem? (i := 577) (by decide +kernel), (List.forall_mem_cons.mpr ⟨List.mem_of_getElem? (i := 608) (by decide +kernel), (List.forall_mem_cons.mpr ⟨List.mem_of_getElem? (i := 628) (by decide +kernel), (List.forall_mem_cons.mpr ⟨List.mem_of_getElem? (i := 636) (by decide +kernel), (List.forall_mem_cons.mpr ⟨List.mem_of_getElem? (i := 641) (by decide +kernel), (List.forall_mem_cons.mpr ⟨List.mem_of_getElem? (i := 645) (by decide +kernel), (List.forall_mem_cons.mpr ⟨List.mem_of_getElem? (i := 648) (by decide +kernel), (List.forall_mem_cons.mpr ⟨List.mem_of_getElem? (i := 655) (by decide +kernel), (List.forall_mem_cons.mpr ⟨List.mem_of_getElem? (i := 658) (by decide +kernel), (List.forall_mem_cons.mpr ⟨List.mem_of_getElem? (i := 669) (by decide +kernel), (List.forall_mem_cons.mpr ⟨List.mem_of_getElem? (i := 678) (by decide +kernel), (List.forall_mem_cons.mpr ⟨List.mem_of_getElem? (i := 686) (by decide +kernel), (List.forall_mem_cons.mpr ⟨List.mem_of_getElem? (i := 694) (by decide +kernel), (List.forall_mem_cons.mpr ⟨List.mem_of_getElem? (i := 698) (by decide +kernel), (List.forall_mem_cons.mpr ⟨List.mem_of_getElem? (i := 705) (by decide +kernel), (List.forall_mem_cons.mpr ⟨List.mem_of_getElem? (i := 706) (by decide +kernel), (List.forall_mem_cons.mpr ⟨List.mem_of_getElem? (i := 723) (by decide +kernel), (List.forall_mem_cons.mpr ⟨List.mem_of_getElem? (i := 727) (by decide +kernel), (List.forall_mem_cons.mpr ⟨List.mem_of_getElem? (i := 735) (by decide +kernel), (List.forall_mem_cons.mpr ⟨List.mem_of_getElem? (i := 739) (by decide +kernel), (List.forall_mem_cons.mpr ⟨List.mem_of_getElem? (i := 747) (by decide +kernel), (List.forall_mem_cons.mpr ⟨List.mem_of_getElem? (i := 766) (by decide +kernel), (List.forall_mem_cons.mpr ⟨List.mem_of_getElem? (i := 770) (by decide +kernel), (List.forall_mem_cons.mpr ⟨List.mem_of_getElem? (i := 774) (by decide +kernel), (List.forall_mem_cons.mpr ⟨List.mem_of_getElem? (i := 789) (by decide +kernel), (List.forall_mem_cons.mpr ⟨List.mem_of_getElem? (i := 797) (by decide +kernel), (List.forall_mem_cons.mpr ⟨List.mem_of_getElem? (i := 810) (by decide +kernel), (List.forall_mem_cons.mpr ⟨List.mem_of_getElem? (i := 827) (by decide +kernel), (List.forall_mem_cons.mpr ⟨List.mem_of_getElem? (i := 856) (by decide +kernel), (List.forall_mem_cons.mpr ⟨List.mem_of_getElem? (i := 864) (by decide +kernel), (List.forall_mem_cons.mpr ⟨List.mem_of_getElem? (i := 891) (by decide +kernel), (List.forall_mem_cons.mpr ⟨List.mem_of_getElem? (i := 895) (by decide +kernel), (List.forall_mem_cons.mpr ⟨List.mem_of_getElem? (i := 903) (by decide +kernel), (List.forall_mem_cons.mpr ⟨List.mem_of_getElem? (i := 912) (by decide +kernel), (List.forall_mem_cons.mpr ⟨List.mem_of_getElem? (i := 916) (by decide +kernel), (fun _ h => absurd h List.not_mem_nil)⟩)⟩)⟩)⟩)⟩)⟩)⟩)⟩)⟩)⟩)⟩)⟩)⟩)⟩)⟩)⟩)⟩)⟩)⟩)⟩)⟩)⟩)⟩)⟩)⟩)⟩)⟩)⟩)⟩)⟩)⟩)⟩)⟩)⟩)⟩)⟩)⟩)⟩)⟩)⟩)⟩)⟩)⟩)⟩)⟩)⟩)⟩)⟩)⟩)⟩)
set_option maxRecDepth 100000 in
theorem st_ma {args : Array Value} {s : State} (h : (Jvm.Cond.and given_1 narrow_1).before args s = true) : ((.arrayOf (.static "ClosedUntil$Calendar" "MONTH_LENGTHS" "[I") .int : Cond)).before args s = true := flat_of_before _ h _ (by decide +kernel)
set_option maxRecDepth 100000 in
theorem st_ml {args : Array Value} {s : State} (h : (Jvm.Cond.and given_1 narrow_1).before args s = true) : ((.eq (.length (.static "ClosedUntil$Calendar" "MONTH_LENGTHS" "[I")) (.int 12) : Cond)).before args s = true := flat_of_before _ h _ (by decide +kernel)
set_option maxRecDepth 100000 in
theorem st_m0 {args : Array Value} {s : State} (h : (Jvm.Cond.and given_1 narrow_1).before args s = true) : ((.eq (.elem (.static "ClosedUntil$Calendar" "MONTH_LENGTHS" "[I") (.int 0)) (.int 31) : Cond)).before args s = true := flat_of_before _ h _ (by decide +kernel)
set_option maxRecDepth 100000 in
theorem st_m1 {args : Array Value} {s : State} (h : (Jvm.Cond.and given_1 narrow_1).before args s = true) : ((.eq (.elem (.static "ClosedUntil$Calendar" "MONTH_LENGTHS" "[I") (.int 1)) (.int 28) : Cond)).before args s = true := flat_of_before _ h _ (by decide +kernel)
set_option maxRecDepth 100000 in
theorem st_m2 {args : Array Value} {s : State} (h : (Jvm.Cond.and given_1 narrow_1).before args s = true) : ((.eq (.elem (.static "ClosedUntil$Calendar" "MONTH_LENGTHS" "[I") (.int 2)) (.int 31) : Cond)).before args s = true := flat_of_before _ h _ (by decide +kernel)
set_option maxRecDepth 100000 in
theorem st_m3 {args : Array Value} {s : State} (h : (Jvm.Cond.and given_1 narrow_1).before args s = true) : ((.eq (.elem (.static "ClosedUntil$Calendar" "MONTH_LENGTHS" "[I") (.int 3)) (.int 30) : Cond)).before args s = true := flat_of_before _ h _ (by decide +kernel)
set_option maxRecDepth 100000 in
theorem st_m4 {args : Array Value} {s : State} (h : (Jvm.Cond.and given_1 narrow_1).before args s = true) : ((.eq (.elem (.static "ClosedUntil$Calendar" "MONTH_LENGTHS" "[I") (.int 4)) (.int 31) : Cond)).before args s = true := flat_of_before _ h _ (by decide +kernel)
set_option maxRecDepth 100000 in
theorem st_m5 {args : Array Value} {s : State} (h : (Jvm.Cond.and given_1 narrow_1).before args s = true) : ((.eq (.elem (.static "ClosedUntil$Calendar" "MONTH_LENGTHS" "[I") (.int 5)) (.int 30) : Cond)).before args s = true := flat_of_before _ h _ (by decide +kernel)
set_option maxRecDepth 100000 in
theorem st_m6 {args : Array Value} {s : State} (h : (Jvm.Cond.and given_1 narrow_1).before args s = true) : ((.eq (.elem (.static "ClosedUntil$Calendar" "MONTH_LENGTHS" "[I") (.int 6)) (.int 31) : Cond)).before args s = true := flat_of_before _ h _ (by decide +kernel)
set_option maxRecDepth 100000 in
theorem st_m7 {args : Array Value} {s : State} (h : (Jvm.Cond.and given_1 narrow_1).before args s = true) : ((.eq (.elem (.static "ClosedUntil$Calendar" "MONTH_LENGTHS" "[I") (.int 7)) (.int 31) : Cond)).before args s = true := flat_of_before _ h _ (by decide +kernel)
set_option maxRecDepth 100000 in
theorem st_m8 {args : Array Value} {s : State} (h : (Jvm.Cond.and given_1 narrow_1).before args s = true) : ((.eq (.elem (.static "ClosedUntil$Calendar" "MONTH_LENGTHS" "[I") (.int 8)) (.int 30) : Cond)).before args s = true := flat_of_before _ h _ (by decide +kernel)
set_option maxRecDepth 100000 in
theorem st_m9 {args : Array Value} {s : State} (h : (Jvm.Cond.and given_1 narrow_1).before args s = true) : ((.eq (.elem (.static "ClosedUntil$Calendar" "MONTH_LENGTHS" "[I") (.int 9)) (.int 31) : Cond)).before args s = true := flat_of_before _ h _ (by decide +kernel)
set_option maxRecDepth 100000 in
theorem st_m10 {args : Array Value} {s : State} (h : (Jvm.Cond.and given_1 narrow_1).before args s = true) : ((.eq (.elem (.static "ClosedUntil$Calendar" "MONTH_LENGTHS" "[I") (.int 10)) (.int 30) : Cond)).before args s = true := flat_of_before _ h _ (by decide +kernel)
set_option maxRecDepth 100000 in
theorem st_m11 {args : Array Value} {s : State} (h : (Jvm.Cond.and given_1 narrow_1).before args s = true) : ((.eq (.elem (.static "ClosedUntil$Calendar" "MONTH_LENGTHS" "[I") (.int 11)) (.int 31) : Cond)).before args s = true := flat_of_before _ h _ (by decide +kernel)
set_option maxRecDepth 100000 in
theorem st_kx {args : Array Value} {s : State} (h : (Jvm.Cond.and given_1 narrow_1).before args s = true) : ((.exactly (.string "ClosedUntil$Tokens" 17) "java/lang/String" : Cond)).before args s = true := flat_of_before _ h _ (by decide +kernel)
set_option maxRecDepth 100000 in
theorem st_kc {args : Array Value} {s : State} (h : (Jvm.Cond.and given_1 narrow_1).before args s = true) : ((.eq (.field (.string "ClosedUntil$Tokens" 17) "java/lang/String" "coder" "B") (.int 0) : Cond)).before args s = true := flat_of_before _ h _ (by decide +kernel)
set_option maxRecDepth 100000 in
theorem st_ka {args : Array Value} {s : State} (h : (Jvm.Cond.and given_1 narrow_1).before args s = true) : ((.arrayOf (.field (.string "ClosedUntil$Tokens" 17) "java/lang/String" "value" "[B") .byte : Cond)).before args s = true := flat_of_before _ h _ (by decide +kernel)
set_option maxRecDepth 100000 in
theorem st_kl {args : Array Value} {s : State} (h : (Jvm.Cond.and given_1 narrow_1).before args s = true) : ((.eq (.length (.field (.string "ClosedUntil$Tokens" 17) "java/lang/String" "value" "[B")) (.int 68) : Cond)).before args s = true := flat_of_before _ h _ (by decide +kernel)
set_option maxRecDepth 100000 in
theorem st_k0 {args : Array Value} {s : State} (h : (Jvm.Cond.and given_1 narrow_1).before args s = true) : ((.eq (.elem (.field (.string "ClosedUntil$Tokens" 17) "java/lang/String" "value" "[B") (.int 0)) (.int 112) : Cond)).before args s = true := flat_of_before _ h _ (by decide +kernel)
set_option maxRecDepth 100000 in
theorem st_k1 {args : Array Value} {s : State} (h : (Jvm.Cond.and given_1 narrow_1).before args s = true) : ((.eq (.elem (.field (.string "ClosedUntil$Tokens" 17) "java/lang/String" "value" "[B") (.int 1)) (.int 101) : Cond)).before args s = true := flat_of_before _ h _ (by decide +kernel)
set_option maxRecDepth 100000 in
theorem st_k2 {args : Array Value} {s : State} (h : (Jvm.Cond.and given_1 narrow_1).before args s = true) : ((.eq (.elem (.field (.string "ClosedUntil$Tokens" 17) "java/lang/String" "value" "[B") (.int 2)) (.int 114) : Cond)).before args s = true := flat_of_before _ h _ (by decide +kernel)
set_option maxRecDepth 100000 in
theorem st_k3 {args : Array Value} {s : State} (h : (Jvm.Cond.and given_1 narrow_1).before args s = true) : ((.eq (.elem (.field (.string "ClosedUntil$Tokens" 17) "java/lang/String" "value" "[B") (.int 3)) (.int 115) : Cond)).before args s = true := flat_of_before _ h _ (by decide +kernel)
set_option maxRecDepth 100000 in
theorem st_k4 {args : Array Value} {s : State} (h : (Jvm.Cond.and given_1 narrow_1).before args s = true) : ((.eq (.elem (.field (.string "ClosedUntil$Tokens" 17) "java/lang/String" "value" "[B") (.int 4)) (.int 111) : Cond)).before args s = true := flat_of_before _ h _ (by decide +kernel)
set_option maxRecDepth 100000 in
theorem st_k5 {args : Array Value} {s : State} (h : (Jvm.Cond.and given_1 narrow_1).before args s = true) : ((.eq (.elem (.field (.string "ClosedUntil$Tokens" 17) "java/lang/String" "value" "[B") (.int 5)) (.int 110) : Cond)).before args s = true := flat_of_before _ h _ (by decide +kernel)
set_option maxRecDepth 100000 in
theorem st_k6 {args : Array Value} {s : State} (h : (Jvm.Cond.and given_1 narrow_1).before args s = true) : ((.eq (.elem (.field (.string "ClosedUntil$Tokens" 17) "java/lang/String" "value" "[B") (.int 6)) (.int 32) : Cond)).before args s = true := flat_of_before _ h _ (by decide +kernel)
set_option maxRecDepth 100000 in
theorem st_k7 {args : Array Value} {s : State} (h : (Jvm.Cond.and given_1 narrow_1).before args s = true) : ((.eq (.elem (.field (.string "ClosedUntil$Tokens" 17) "java/lang/String" "value" "[B") (.int 7)) (.int 98) : Cond)).before args s = true := flat_of_before _ h _ (by decide +kernel)
set_option maxRecDepth 100000 in
theorem st_k8 {args : Array Value} {s : State} (h : (Jvm.Cond.and given_1 narrow_1).before args s = true) : ((.eq (.elem (.field (.string "ClosedUntil$Tokens" 17) "java/lang/String" "value" "[B") (.int 8)) (.int 111) : Cond)).before args s = true := flat_of_before _ h _ (by decide +kernel)
set_option maxRecDepth 100000 in
theorem st_k9 {args : Array Value} {s : State} (h : (Jvm.Cond.and given_1 narrow_1).before args s = true) : ((.eq (.elem (.field (.string "ClosedUntil$Tokens" 17) "java/lang/String" "value" "[B") (.int 9)) (.int 114) : Cond)).before args s = true := flat_of_before _ h _ (by decide +kernel)
set_option maxRecDepth 100000 in
theorem st_k10 {args : Array Value} {s : State} (h : (Jvm.Cond.and given_1 narrow_1).before args s = true) : ((.eq (.elem (.field (.string "ClosedUntil$Tokens" 17) "java/lang/String" "value" "[B") (.int 10)) (.int 110) : Cond)).before args s = true := flat_of_before _ h _ (by decide +kernel)
set_option maxRecDepth 100000 in
theorem st_k11 {args : Array Value} {s : State} (h : (Jvm.Cond.and given_1 narrow_1).before args s = true) : ((.eq (.elem (.field (.string "ClosedUntil$Tokens" 17) "java/lang/String" "value" "[B") (.int 11)) (.int 32) : Cond)).before args s = true := flat_of_before _ h _ (by decide +kernel)
set_option maxRecDepth 100000 in
theorem st_k12 {args : Array Value} {s : State} (h : (Jvm.Cond.and given_1 narrow_1).before args s = true) : ((.eq (.elem (.field (.string "ClosedUntil$Tokens" 17) "java/lang/String" "value" "[B") (.int 12)) (.int 100) : Cond)).before args s = true := flat_of_before _ h _ (by decide +kernel)
set_option maxRecDepth 100000 in
theorem st_k13 {args : Array Value} {s : State} (h : (Jvm.Cond.and given_1 narrow_1).before args s = true) : ((.eq (.elem (.field (.string "ClosedUntil$Tokens" 17) "java/lang/String" "value" "[B") (.int 13)) (.int 105) : Cond)).before args s = true := flat_of_before _ h _ (by decide +kernel)
set_option maxRecDepth 100000 in
theorem st_k14 {args : Array Value} {s : State} (h : (Jvm.Cond.and given_1 narrow_1).before args s = true) : ((.eq (.elem (.field (.string "ClosedUntil$Tokens" 17) "java/lang/String" "value" "[B") (.int 14)) (.int 101) : Cond)).before args s = true := flat_of_before _ h _ (by decide +kernel)
set_option maxRecDepth 100000 in
theorem st_k15 {args : Array Value} {s : State} (h : (Jvm.Cond.and given_1 narrow_1).before args s = true) : ((.eq (.elem (.field (.string "ClosedUntil$Tokens" 17) "java/lang/String" "value" "[B") (.int 15)) (.int 100) : Cond)).before args s = true := flat_of_before _ h _ (by decide +kernel)
set_option maxRecDepth 100000 in
theorem st_k16 {args : Array Value} {s : State} (h : (Jvm.Cond.and given_1 narrow_1).before args s = true) : ((.eq (.elem (.field (.string "ClosedUntil$Tokens" 17) "java/lang/String" "value" "[B") (.int 16)) (.int 32) : Cond)).before args s = true := flat_of_before _ h _ (by decide +kernel)
set_option maxRecDepth 100000 in
theorem st_k17 {args : Array Value} {s : State} (h : (Jvm.Cond.and given_1 narrow_1).before args s = true) : ((.eq (.elem (.field (.string "ClosedUntil$Tokens" 17) "java/lang/String" "value" "[B") (.int 17)) (.int 100) : Cond)).before args s = true := flat_of_before _ h _ (by decide +kernel)
set_option maxRecDepth 100000 in
theorem st_k18 {args : Array Value} {s : State} (h : (Jvm.Cond.and given_1 narrow_1).before args s = true) : ((.eq (.elem (.field (.string "ClosedUntil$Tokens" 17) "java/lang/String" "value" "[B") (.int 18)) (.int 101) : Cond)).before args s = true := flat_of_before _ h _ (by decide +kernel)
set_option maxRecDepth 100000 in
theorem st_k19 {args : Array Value} {s : State} (h : (Jvm.Cond.and given_1 narrow_1).before args s = true) : ((.eq (.elem (.field (.string "ClosedUntil$Tokens" 17) "java/lang/String" "value" "[B") (.int 19)) (.int 112) : Cond)).before args s = true := flat_of_before _ h _ (by decide +kernel)
set_option maxRecDepth 100000 in
theorem st_k20 {args : Array Value} {s : State} (h : (Jvm.Cond.and given_1 narrow_1).before args s = true) : ((.eq (.elem (.field (.string "ClosedUntil$Tokens" 17) "java/lang/String" "value" "[B") (.int 20)) (.int 111) : Cond)).before args s = true := flat_of_before _ h _ (by decide +kernel)
set_option maxRecDepth 100000 in
theorem st_k21 {args : Array Value} {s : State} (h : (Jvm.Cond.and given_1 narrow_1).before args s = true) : ((.eq (.elem (.field (.string "ClosedUntil$Tokens" 17) "java/lang/String" "value" "[B") (.int 21)) (.int 115) : Cond)).before args s = true := flat_of_before _ h _ (by decide +kernel)
set_option maxRecDepth 100000 in
theorem st_k22 {args : Array Value} {s : State} (h : (Jvm.Cond.and given_1 narrow_1).before args s = true) : ((.eq (.elem (.field (.string "ClosedUntil$Tokens" 17) "java/lang/String" "value" "[B") (.int 22)) (.int 105) : Cond)).before args s = true := flat_of_before _ h _ (by decide +kernel)
set_option maxRecDepth 100000 in
theorem st_k23 {args : Array Value} {s : State} (h : (Jvm.Cond.and given_1 narrow_1).before args s = true) : ((.eq (.elem (.field (.string "ClosedUntil$Tokens" 17) "java/lang/String" "value" "[B") (.int 23)) (.int 116) : Cond)).before args s = true := flat_of_before _ h _ (by decide +kernel)
set_option maxRecDepth 100000 in
theorem st_k24 {args : Array Value} {s : State} (h : (Jvm.Cond.and given_1 narrow_1).before args s = true) : ((.eq (.elem (.field (.string "ClosedUntil$Tokens" 17) "java/lang/String" "value" "[B") (.int 24)) (.int 32) : Cond)).before args s = true := flat_of_before _ h _ (by decide +kernel)
set_option maxRecDepth 100000 in
theorem st_k25 {args : Array Value} {s : State} (h : (Jvm.Cond.and given_1 narrow_1).before args s = true) : ((.eq (.elem (.field (.string "ClosedUntil$Tokens" 17) "java/lang/String" "value" "[B") (.int 25)) (.int 112) : Cond)).before args s = true := flat_of_before _ h _ (by decide +kernel)
set_option maxRecDepth 100000 in
theorem st_k26 {args : Array Value} {s : State} (h : (Jvm.Cond.and given_1 narrow_1).before args s = true) : ((.eq (.elem (.field (.string "ClosedUntil$Tokens" 17) "java/lang/String" "value" "[B") (.int 26)) (.int 105) : Cond)).before args s = true := flat_of_before _ h _ (by decide +kernel)
set_option maxRecDepth 100000 in
theorem st_k27 {args : Array Value} {s : State} (h : (Jvm.Cond.and given_1 narrow_1).before args s = true) : ((.eq (.elem (.field (.string "ClosedUntil$Tokens" 17) "java/lang/String" "value" "[B") (.int 27)) (.int 101) : Cond)).before args s = true := flat_of_before _ h _ (by decide +kernel)
set_option maxRecDepth 100000 in
theorem st_k28 {args : Array Value} {s : State} (h : (Jvm.Cond.and given_1 narrow_1).before args s = true) : ((.eq (.elem (.field (.string "ClosedUntil$Tokens" 17) "java/lang/String" "value" "[B") (.int 28)) (.int 99) : Cond)).before args s = true := flat_of_before _ h _ (by decide +kernel)
set_option maxRecDepth 100000 in
theorem st_k29 {args : Array Value} {s : State} (h : (Jvm.Cond.and given_1 narrow_1).before args s = true) : ((.eq (.elem (.field (.string "ClosedUntil$Tokens" 17) "java/lang/String" "value" "[B") (.int 29)) (.int 101) : Cond)).before args s = true := flat_of_before _ h _ (by decide +kernel)
set_option maxRecDepth 100000 in
theorem st_k30 {args : Array Value} {s : State} (h : (Jvm.Cond.and given_1 narrow_1).before args s = true) : ((.eq (.elem (.field (.string "ClosedUntil$Tokens" 17) "java/lang/String" "value" "[B") (.int 30)) (.int 32) : Cond)).before args s = true := flat_of_before _ h _ (by decide +kernel)
set_option maxRecDepth 100000 in
theorem st_k31 {args : Array Value} {s : State} (h : (Jvm.Cond.and given_1 narrow_1).before args s = true) : ((.eq (.elem (.field (.string "ClosedUntil$Tokens" 17) "java/lang/String" "value" "[B") (.int 31)) (.int 105) : Cond)).before args s = true := flat_of_before _ h _ (by decide +kernel)
set_option maxRecDepth 100000 in
theorem st_k32 {args : Array Value} {s : State} (h : (Jvm.Cond.and given_1 narrow_1).before args s = true) : ((.eq (.elem (.field (.string "ClosedUntil$Tokens" 17) "java/lang/String" "value" "[B") (.int 32)) (.int 110) : Cond)).before args s = true := flat_of_before _ h _ (by decide +kernel)
set_option maxRecDepth 100000 in
theorem st_k33 {args : Array Value} {s : State} (h : (Jvm.Cond.and given_1 narrow_1).before args s = true) : ((.eq (.elem (.field (.string "ClosedUntil$Tokens" 17) "java/lang/String" "value" "[B") (.int 33)) (.int 32) : Cond)).before args s = true := flat_of_before _ h _ (by decide +kernel)
set_option maxRecDepth 100000 in
theorem st_k34 {args : Array Value} {s : State} (h : (Jvm.Cond.and given_1 narrow_1).before args s = true) : ((.eq (.elem (.field (.string "ClosedUntil$Tokens" 17) "java/lang/String" "value" "[B") (.int 34)) (.int 111) : Cond)).before args s = true := flat_of_before _ h _ (by decide +kernel)
set_option maxRecDepth 100000 in
theorem st_k35 {args : Array Value} {s : State} (h : (Jvm.Cond.and given_1 narrow_1).before args s = true) : ((.eq (.elem (.field (.string "ClosedUntil$Tokens" 17) "java/lang/String" "value" "[B") (.int 35)) (.int 102) : Cond)).before args s = true := flat_of_before _ h _ (by decide +kernel)
set_option maxRecDepth 100000 in
theorem st_k36 {args : Array Value} {s : State} (h : (Jvm.Cond.and given_1 narrow_1).before args s = true) : ((.eq (.elem (.field (.string "ClosedUntil$Tokens" 17) "java/lang/String" "value" "[B") (.int 36)) (.int 32) : Cond)).before args s = true := flat_of_before _ h _ (by decide +kernel)
set_option maxRecDepth 100000 in
theorem st_k37 {args : Array Value} {s : State} (h : (Jvm.Cond.and given_1 narrow_1).before args s = true) : ((.eq (.elem (.field (.string "ClosedUntil$Tokens" 17) "java/lang/String" "value" "[B") (.int 37)) (.int 102) : Cond)).before args s = true := flat_of_before _ h _ (by decide +kernel)
set_option maxRecDepth 100000 in
theorem st_k38 {args : Array Value} {s : State} (h : (Jvm.Cond.and given_1 narrow_1).before args s = true) : ((.eq (.elem (.field (.string "ClosedUntil$Tokens" 17) "java/lang/String" "value" "[B") (.int 38)) (.int 114) : Cond)).before args s = true := flat_of_before _ h _ (by decide +kernel)
set_option maxRecDepth 100000 in
theorem st_k39 {args : Array Value} {s : State} (h : (Jvm.Cond.and given_1 narrow_1).before args s = true) : ((.eq (.elem (.field (.string "ClosedUntil$Tokens" 17) "java/lang/String" "value" "[B") (.int 39)) (.int 111) : Cond)).before args s = true := flat_of_before _ h _ (by decide +kernel)
set_option maxRecDepth 100000 in
theorem st_k40 {args : Array Value} {s : State} (h : (Jvm.Cond.and given_1 narrow_1).before args s = true) : ((.eq (.elem (.field (.string "ClosedUntil$Tokens" 17) "java/lang/String" "value" "[B") (.int 40)) (.int 109) : Cond)).before args s = true := flat_of_before _ h _ (by decide +kernel)
set_option maxRecDepth 100000 in
theorem st_k41 {args : Array Value} {s : State} (h : (Jvm.Cond.and given_1 narrow_1).before args s = true) : ((.eq (.elem (.field (.string "ClosedUntil$Tokens" 17) "java/lang/String" "value" "[B") (.int 41)) (.int 32) : Cond)).before args s = true := flat_of_before _ h _ (by decide +kernel)
set_option maxRecDepth 100000 in
theorem st_k42 {args : Array Value} {s : State} (h : (Jvm.Cond.and given_1 narrow_1).before args s = true) : ((.eq (.elem (.field (.string "ClosedUntil$Tokens" 17) "java/lang/String" "value" "[B") (.int 42)) (.int 99) : Cond)).before args s = true := flat_of_before _ h _ (by decide +kernel)
set_option maxRecDepth 100000 in
theorem st_k43 {args : Array Value} {s : State} (h : (Jvm.Cond.and given_1 narrow_1).before args s = true) : ((.eq (.elem (.field (.string "ClosedUntil$Tokens" 17) "java/lang/String" "value" "[B") (.int 43)) (.int 108) : Cond)).before args s = true := flat_of_before _ h _ (by decide +kernel)
set_option maxRecDepth 100000 in
theorem st_k44 {args : Array Value} {s : State} (h : (Jvm.Cond.and given_1 narrow_1).before args s = true) : ((.eq (.elem (.field (.string "ClosedUntil$Tokens" 17) "java/lang/String" "value" "[B") (.int 44)) (.int 111) : Cond)).before args s = true := flat_of_before _ h _ (by decide +kernel)
set_option maxRecDepth 100000 in
theorem st_k45 {args : Array Value} {s : State} (h : (Jvm.Cond.and given_1 narrow_1).before args s = true) : ((.eq (.elem (.field (.string "ClosedUntil$Tokens" 17) "java/lang/String" "value" "[B") (.int 45)) (.int 115) : Cond)).before args s = true := flat_of_before _ h _ (by decide +kernel)
set_option maxRecDepth 100000 in
theorem st_k46 {args : Array Value} {s : State} (h : (Jvm.Cond.and given_1 narrow_1).before args s = true) : ((.eq (.elem (.field (.string "ClosedUntil$Tokens" 17) "java/lang/String" "value" "[B") (.int 46)) (.int 101) : Cond)).before args s = true := flat_of_before _ h _ (by decide +kernel)
set_option maxRecDepth 100000 in
theorem st_k47 {args : Array Value} {s : State} (h : (Jvm.Cond.and given_1 narrow_1).before args s = true) : ((.eq (.elem (.field (.string "ClosedUntil$Tokens" 17) "java/lang/String" "value" "[B") (.int 47)) (.int 32) : Cond)).before args s = true := flat_of_before _ h _ (by decide +kernel)
set_option maxRecDepth 100000 in
theorem st_k48 {args : Array Value} {s : State} (h : (Jvm.Cond.and given_1 narrow_1).before args s = true) : ((.eq (.elem (.field (.string "ClosedUntil$Tokens" 17) "java/lang/String" "value" "[B") (.int 48)) (.int 99) : Cond)).before args s = true := flat_of_before _ h _ (by decide +kernel)
set_option maxRecDepth 100000 in
theorem st_k49 {args : Array Value} {s : State} (h : (Jvm.Cond.and given_1 narrow_1).before args s = true) : ((.eq (.elem (.field (.string "ClosedUntil$Tokens" 17) "java/lang/String" "value" "[B") (.int 49)) (.int 111) : Cond)).before args s = true := flat_of_before _ h _ (by decide +kernel)
set_option maxRecDepth 100000 in
theorem st_k50 {args : Array Value} {s : State} (h : (Jvm.Cond.and given_1 narrow_1).before args s = true) : ((.eq (.elem (.field (.string "ClosedUntil$Tokens" 17) "java/lang/String" "value" "[B") (.int 50)) (.int 110) : Cond)).before args s = true := flat_of_before _ h _ (by decide +kernel)
set_option maxRecDepth 100000 in
theorem st_k51 {args : Array Value} {s : State} (h : (Jvm.Cond.and given_1 narrow_1).before args s = true) : ((.eq (.elem (.field (.string "ClosedUntil$Tokens" 17) "java/lang/String" "value" "[B") (.int 51)) (.int 116) : Cond)).before args s = true := flat_of_before _ h _ (by decide +kernel)
set_option maxRecDepth 100000 in
theorem st_k52 {args : Array Value} {s : State} (h : (Jvm.Cond.and given_1 narrow_1).before args s = true) : ((.eq (.elem (.field (.string "ClosedUntil$Tokens" 17) "java/lang/String" "value" "[B") (.int 52)) (.int 101) : Cond)).before args s = true := flat_of_before _ h _ (by decide +kernel)
set_option maxRecDepth 100000 in
theorem st_k53 {args : Array Value} {s : State} (h : (Jvm.Cond.and given_1 narrow_1).before args s = true) : ((.eq (.elem (.field (.string "ClosedUntil$Tokens" 17) "java/lang/String" "value" "[B") (.int 53)) (.int 110) : Cond)).before args s = true := flat_of_before _ h _ (by decide +kernel)
set_option maxRecDepth 100000 in
theorem st_k54 {args : Array Value} {s : State} (h : (Jvm.Cond.and given_1 narrow_1).before args s = true) : ((.eq (.elem (.field (.string "ClosedUntil$Tokens" 17) "java/lang/String" "value" "[B") (.int 54)) (.int 116) : Cond)).before args s = true := flat_of_before _ h _ (by decide +kernel)
set_option maxRecDepth 100000 in
theorem st_k55 {args : Array Value} {s : State} (h : (Jvm.Cond.and given_1 narrow_1).before args s = true) : ((.eq (.elem (.field (.string "ClosedUntil$Tokens" 17) "java/lang/String" "value" "[B") (.int 55)) (.int 32) : Cond)).before args s = true := flat_of_before _ h _ (by decide +kernel)
set_option maxRecDepth 100000 in
theorem st_k56 {args : Array Value} {s : State} (h : (Jvm.Cond.and given_1 narrow_1).before args s = true) : ((.eq (.elem (.field (.string "ClosedUntil$Tokens" 17) "java/lang/String" "value" "[B") (.int 56)) (.int 117) : Cond)).before args s = true := flat_of_before _ h _ (by decide +kernel)
set_option maxRecDepth 100000 in
theorem st_k57 {args : Array Value} {s : State} (h : (Jvm.Cond.and given_1 narrow_1).before args s = true) : ((.eq (.elem (.field (.string "ClosedUntil$Tokens" 17) "java/lang/String" "value" "[B") (.int 57)) (.int 110) : Cond)).before args s = true := flat_of_before _ h _ (by decide +kernel)
set_option maxRecDepth 100000 in
theorem st_k58 {args : Array Value} {s : State} (h : (Jvm.Cond.and given_1 narrow_1).before args s = true) : ((.eq (.elem (.field (.string "ClosedUntil$Tokens" 17) "java/lang/String" "value" "[B") (.int 58)) (.int 116) : Cond)).before args s = true := flat_of_before _ h _ (by decide +kernel)
set_option maxRecDepth 100000 in
theorem st_k59 {args : Array Value} {s : State} (h : (Jvm.Cond.and given_1 narrow_1).before args s = true) : ((.eq (.elem (.field (.string "ClosedUntil$Tokens" 17) "java/lang/String" "value" "[B") (.int 59)) (.int 105) : Cond)).before args s = true := flat_of_before _ h _ (by decide +kernel)
set_option maxRecDepth 100000 in
theorem st_k60 {args : Array Value} {s : State} (h : (Jvm.Cond.and given_1 narrow_1).before args s = true) : ((.eq (.elem (.field (.string "ClosedUntil$Tokens" 17) "java/lang/String" "value" "[B") (.int 60)) (.int 108) : Cond)).before args s = true := flat_of_before _ h _ (by decide +kernel)
set_option maxRecDepth 100000 in
theorem st_k61 {args : Array Value} {s : State} (h : (Jvm.Cond.and given_1 narrow_1).before args s = true) : ((.eq (.elem (.field (.string "ClosedUntil$Tokens" 17) "java/lang/String" "value" "[B") (.int 61)) (.int 32) : Cond)).before args s = true := flat_of_before _ h _ (by decide +kernel)
set_option maxRecDepth 100000 in
theorem st_k62 {args : Array Value} {s : State} (h : (Jvm.Cond.and given_1 narrow_1).before args s = true) : ((.eq (.elem (.field (.string "ClosedUntil$Tokens" 17) "java/lang/String" "value" "[B") (.int 62)) (.int 119) : Cond)).before args s = true := flat_of_before _ h _ (by decide +kernel)
set_option maxRecDepth 100000 in
theorem st_k63 {args : Array Value} {s : State} (h : (Jvm.Cond.and given_1 narrow_1).before args s = true) : ((.eq (.elem (.field (.string "ClosedUntil$Tokens" 17) "java/lang/String" "value" "[B") (.int 63)) (.int 104) : Cond)).before args s = true := flat_of_before _ h _ (by decide +kernel)
set_option maxRecDepth 100000 in
theorem st_k64 {args : Array Value} {s : State} (h : (Jvm.Cond.and given_1 narrow_1).before args s = true) : ((.eq (.elem (.field (.string "ClosedUntil$Tokens" 17) "java/lang/String" "value" "[B") (.int 64)) (.int 111) : Cond)).before args s = true := flat_of_before _ h _ (by decide +kernel)
set_option maxRecDepth 100000 in
theorem st_k65 {args : Array Value} {s : State} (h : (Jvm.Cond.and given_1 narrow_1).before args s = true) : ((.eq (.elem (.field (.string "ClosedUntil$Tokens" 17) "java/lang/String" "value" "[B") (.int 65)) (.int 108) : Cond)).before args s = true := flat_of_before _ h _ (by decide +kernel)
set_option maxRecDepth 100000 in
theorem st_k66 {args : Array Value} {s : State} (h : (Jvm.Cond.and given_1 narrow_1).before args s = true) : ((.eq (.elem (.field (.string "ClosedUntil$Tokens" 17) "java/lang/String" "value" "[B") (.int 66)) (.int 101) : Cond)).before args s = true := flat_of_before _ h _ (by decide +kernel)
set_option maxRecDepth 100000 in
theorem st_k67 {args : Array Value} {s : State} (h : (Jvm.Cond.and given_1 narrow_1).before args s = true) : ((.eq (.elem (.field (.string "ClosedUntil$Tokens" 17) "java/lang/String" "value" "[B") (.int 67)) (.int 32) : Cond)).before args s = true := flat_of_before _ h _ (by decide +kernel)
set_option maxRecDepth 100000 in
theorem st_cs {args : Array Value} {s : State} (h : (Jvm.Cond.and given_1 narrow_1).before args s = true) : ((.eq (.static "java/lang/String" "COMPACT_STRINGS" "Z") (.int 1) : Cond)).before args s = true := flat_of_before _ h _ (by decide +kernel)
set_option maxRecDepth 100000 in
theorem st_si {args : Array Value} {s : State} (h : (Jvm.Cond.and given_1 narrow_1).before args s = true) : ((.isRef (.static "jdk/internal/util/Preconditions" "SIOOBE_FORMATTER" "Ljava/util/function/BiFunction;") : Cond)).before args s = true := flat_of_before _ h _ (by decide +kernel)
set_option maxHeartbeats 4000000 in
set_option maxRecDepth 100000 in
theorem Ev_start {p : Program} {s : State} {m : MethodId} {meth : Method} {c : Code} {b L : Nat} {xs : Nat → Int32} (C0 : lw_At p s m meth c b L xs) : ∃ g : Gv, Ev g (fun q : Nat => s.heap.size ≤ q) s := by
  obtain ⟨hx, hb, hr, hml, hown, hts, hX, hbl, hlocks, hgv⟩ := id C0
  have hA : ∀ a : Nat, a < s.heap.size → ¬ (fun q : Nat => s.heap.size ≤ q) a := fun _ h => Nat.not_le.mpr h
  have hel : ∀ j : Nat, j < 12 → (Term.elem (.static "ClosedUntil$Calendar" "MONTH_LENGTHS" "[I") (.int (Int32.ofNat j))).eval #[Value.ref b] s none [] s = some (mlf j) := by
    intro j hj
    rcases (show j = 0 ∨ j = 1 ∨ j = 2 ∨ j = 3 ∨ j = 4 ∨ j = 5 ∨ j = 6 ∨ j = 7 ∨ j = 8 ∨ j = 9 ∨ j = 10 ∨ j = 11 by omega) with rfl | rfl | rfl | rfl | rfl | rfl | rfl | rfl | rfl | rfl | rfl | rfl
    · exact va_eqt (st_m0 hgv)
    · exact va_eqt (st_m1 hgv)
    · exact va_eqt (st_m2 hgv)
    · exact va_eqt (st_m3 hgv)
    · exact va_eqt (st_m4 hgv)
    · exact va_eqt (st_m5 hgv)
    · exact va_eqt (st_m6 hgv)
    · exact va_eqt (st_m7 hgv)
    · exact va_eqt (st_m8 hgv)
    · exact va_eqt (st_m9 hgv)
    · exact va_eqt (st_m10 hgv)
    · exact va_eqt (st_m11 hgv)
  obtain ⟨t1, e1, hT1⟩ := va_Tof (tm := .static "ClosedUntil$Calendar" "MONTH_LENGTHS" "[I") (N := 12) (f := mlf) (A := fun q : Nat => s.heap.size ≤ q) (by omega) (st_ma hgv) (va_eqt (st_ml hgv)) hel hA
  have hZ1 := va_Zref (hts (.laysStatic "ClosedUntil$Calendar" "MONTH_LENGTHS" "[I") (List.mem_of_getElem? (i := 572) (by decide +kernel))) (hts (.initialized "ClosedUntil$Calendar") (List.mem_of_getElem? (i := 118) (by decide +kernel))) e1 hA
  have hek : ∀ i : Nat, i < 1 → ∀ j : Nat, j < [68].getD i 0 → (Cond.eq (.elem (.field ((fun _ : Nat => Term.string "ClosedUntil$Tokens" 17) i) "java/lang/String" "value" "[B") (.int (Int32.ofNat j))) (.int (([kwL].getD i []).getD j 0))).before #[Value.ref b] s = true := by
    intro i hi j hj
    obtain rfl : i = 0 := by omega
    have hj : j < 68 := hj
    rcases (show j = 0 ∨ j = 1 ∨ j = 2 ∨ j = 3 ∨ j = 4 ∨ j = 5 ∨ j = 6 ∨ j = 7 ∨ j = 8 ∨ j = 9 ∨ j = 10 ∨ j = 11 ∨ j = 12 ∨ j = 13 ∨ j = 14 ∨ j = 15 ∨ j = 16 ∨ j = 17 ∨ j = 18 ∨ j = 19 ∨ j = 20 ∨ j = 21 ∨ j = 22 ∨ j = 23 ∨ j = 24 ∨ j = 25 ∨ j = 26 ∨ j = 27 ∨ j = 28 ∨ j = 29 ∨ j = 30 ∨ j = 31 ∨ j = 32 ∨ j = 33 ∨ j = 34 ∨ j = 35 ∨ j = 36 ∨ j = 37 ∨ j = 38 ∨ j = 39 ∨ j = 40 ∨ j = 41 ∨ j = 42 ∨ j = 43 ∨ j = 44 ∨ j = 45 ∨ j = 46 ∨ j = 47 ∨ j = 48 ∨ j = 49 ∨ j = 50 ∨ j = 51 ∨ j = 52 ∨ j = 53 ∨ j = 54 ∨ j = 55 ∨ j = 56 ∨ j = 57 ∨ j = 58 ∨ j = 59 ∨ j = 60 ∨ j = 61 ∨ j = 62 ∨ j = 63 ∨ j = 64 ∨ j = 65 ∨ j = 66 ∨ j = 67 by omega) with rfl | rfl | rfl | rfl | rfl | rfl | rfl | rfl | rfl | rfl | rfl | rfl | rfl | rfl | rfl | rfl | rfl | rfl | rfl | rfl | rfl | rfl | rfl | rfl | rfl | rfl | rfl | rfl | rfl | rfl | rfl | rfl | rfl | rfl | rfl | rfl | rfl | rfl | rfl | rfl | rfl | rfl | rfl | rfl | rfl | rfl | rfl | rfl | rfl | rfl | rfl | rfl | rfl | rfl | rfl | rfl | rfl | rfl | rfl | rfl | rfl | rfl | rfl | rfl | rfl | rfl | rfl | rfl
    · exact st_k0 hgv
    · exact st_k1 hgv
    · exact st_k2 hgv
    · exact st_k3 hgv
    · exact st_k4 hgv
    · exact st_k5 hgv
    · exact st_k6 hgv
    · exact st_k7 hgv
    · exact st_k8 hgv
    · exact st_k9 hgv
    · exact st_k10 hgv
    · exact st_k11 hgv
    · exact st_k12 hgv
    · exact st_k13 hgv
    · exact st_k14 hgv
    · exact st_k15 hgv
    · exact st_k16 hgv
    · exact st_k17 hgv
    · exact st_k18 hgv
    · exact st_k19 hgv
    · exact st_k20 hgv
    · exact st_k21 hgv
    · exact st_k22 hgv
    · exact st_k23 hgv
    · exact st_k24 hgv
    · exact st_k25 hgv
    · exact st_k26 hgv
    · exact st_k27 hgv
    · exact st_k28 hgv
    · exact st_k29 hgv
    · exact st_k30 hgv
    · exact st_k31 hgv
    · exact st_k32 hgv
    · exact st_k33 hgv
    · exact st_k34 hgv
    · exact st_k35 hgv
    · exact st_k36 hgv
    · exact st_k37 hgv
    · exact st_k38 hgv
    · exact st_k39 hgv
    · exact st_k40 hgv
    · exact st_k41 hgv
    · exact st_k42 hgv
    · exact st_k43 hgv
    · exact st_k44 hgv
    · exact st_k45 hgv
    · exact st_k46 hgv
    · exact st_k47 hgv
    · exact st_k48 hgv
    · exact st_k49 hgv
    · exact st_k50 hgv
    · exact st_k51 hgv
    · exact st_k52 hgv
    · exact st_k53 hgv
    · exact st_k54 hgv
    · exact st_k55 hgv
    · exact st_k56 hgv
    · exact st_k57 hgv
    · exact st_k58 hgv
    · exact st_k59 hgv
    · exact st_k60 hgv
    · exact st_k61 hgv
    · exact st_k62 hgv
    · exact st_k63 hgv
    · exact st_k64 hgv
    · exact st_k65 hgv
    · exact st_k66 hgv
    · exact st_k67 hgv
  have hN1 : ∀ i : Nat, i < 1 → [68].getD i 0 < 2 ^ 31 := by
    intro i hi
    obtain rfl : i = 0 := by omega
    decide
  have hle1 : ∀ i : Nat, i < 1 → (Cond.eq (.length (.field ((fun _ : Nat => Term.string "ClosedUntil$Tokens" 17) i) "java/lang/String" "value" "[B")) (.int (Int32.ofNat ([68].getD i 0)))).before #[Value.ref b] s = true := by
    intro i hi
    obtain rfl : i = 0 := by omega
    exact st_kl hgv
  obtain ⟨adK, adV, hK, hKe⟩ := vk_Sof (s := s) (args := #[Value.ref b]) (N := 1) (tm := fun _ => .string "ClosedUntil$Tokens" 17) (len := [68]) (byt := [kwL]) (A := fun q : Nat => s.heap.size ≤ q) hN1 (fun _ _ => st_kx hgv) (fun _ _ => st_kc hgv) (fun _ _ => st_ka hgv) hle1 hek (fun i j hi hj hn => absurd (show i = j by omega) hn) hA
  obtain ⟨k1, k2, k3, k4⟩ := hK.1 0 (by omega)
  have hR : vk_R RX7 17 "person born died deposit piece in of from close content until whole " (adK 0) s := vk_R.of (hts (.stringRef "ClosedUntil$Tokens" 17 "person born died deposit piece in of from close content until whole ") (List.mem_of_getElem? (i := 161) (by decide +kernel))) (hKe 0 (by omega))
  have hZ2 := va_Zof (hts (.laysStatic "java/lang/String" "COMPACT_STRINGS" "Z") (List.mem_of_getElem? (i := 171) (by decide +kernel))) (hts (.initialized "java/lang/String") (List.mem_of_getElem? (i := 108) (by decide +kernel))) (va_eqi (st_cs hgv)) hA
  obtain ⟨o, hZ3⟩ : ∃ o : Option Nat, va_Z "jdk/internal/util/Preconditions" "SIOOBE_FORMATTER" "Ljava/util/function/BiFunction;" (va_rf o) (fun q : Nat => s.heap.size ≤ q) s s.heap := by
    rcases va_Zqof (hts (.laysStatic "jdk/internal/util/Preconditions" "SIOOBE_FORMATTER" "Ljava/util/function/BiFunction;") (List.mem_of_getElem? (i := 187) (by decide +kernel))) (hts (.initialized "jdk/internal/util/Preconditions") (List.mem_of_getElem? (i := 110) (by decide +kernel))) (st_si hgv) hA with q | ⟨t, q⟩
    · exact ⟨none, q⟩
    · exact ⟨some t, q⟩
  obtain ⟨cy, ky, comp, hy1, -, -⟩ := Cond.arrayClass_spec (hts (.arrayClass .int) (List.mem_of_getElem? (i := 264) (by decide +kernel)))
  refine ⟨(t1, adK 0, adV 0, o, cy), ⟨⟨fun q hq => va_Nw.of rfl (hts _ (nwF_in q hq)), fun q hq => va_Nw.of rfl (hts _ (nwM_in q hq))⟩, hZ1, hT1, hR, k1, k2, k3, k4, hZ2, hZ3, va_AOA.of (hts (.arrayOver (.array .int)) (List.mem_of_getElem? (i := 272) (by decide +kernel))), va_AO.of (hts (.arrayOver (.object "ClosedUntil$State")) (List.mem_of_getElem? (i := 323) (by decide +kernel))), hy1⟩⟩
