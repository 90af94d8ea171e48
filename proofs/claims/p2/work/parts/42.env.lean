set_option maxRecDepth 20000 in
theorem nwF_in : ∀ q ∈ nwF, (Cond.fieldLinkNest q.1 q.2.1 q.2.2.1 q.2.2.2.1 q.2.2.2.2.1 q.2.2.2.2.2) ∈ lw_tbl := by unfold nwF; exact (List.forall_mem_cons.mpr ⟨List.mem_of_getElem? (i := 140) (by decide +kernel), (List.forall_mem_cons.mpr ⟨List.mem_of_getElem? (i := 142) (by decide +kernel), (List.forall_mem_cons.mpr ⟨List.mem_of_getElem? (i := 219) (by decide +kernel), (List.forall_mem_cons.mpr ⟨List.mem_of_getElem? (i := 221) (by decide +kernel), (List.forall_mem_cons.mpr ⟨List.mem_of_getElem? (i := 224) (by decide +kernel), (List.forall_mem_cons.mpr ⟨List.mem_of_getElem? (i := 226) (by decide +kernel), (List.forall_mem_cons.mpr ⟨List.mem_of_getElem? (i := 274) (by decide +kernel), (List.forall_mem_cons.mpr ⟨List.mem_of_getElem? (i := 276) (by decide +kernel), (List.forall_mem_cons.mpr ⟨List.mem_of_getElem? (i := 278) (by decide +kernel), (List.forall_mem_cons.mpr ⟨List.mem_of_getElem? (i := 280) (by decide +kernel), (List.forall_mem_cons.mpr ⟨List.mem_of_getElem? (i := 312) (by decide +kernel), (List.forall_mem_cons.mpr ⟨List.mem_of_getElem? (i := 335) (by decide +kernel), (List.forall_mem_cons.mpr ⟨List.mem_of_getElem? (i := 336) (by decide +kernel), (List.forall_mem_cons.mpr ⟨List.mem_of_getElem? (i := 337) (by decide +kernel), (List.forall_mem_cons.mpr ⟨List.mem_of_getElem? (i := 338) (by decide +kernel), (List.forall_mem_cons.mpr ⟨List.mem_of_getElem? (i := 340) (by decide +kernel), (List.forall_mem_cons.mpr ⟨List.mem_of_getElem? (i := 341) (by decide +kernel), (List.forall_mem_cons.mpr ⟨List.mem_of_getElem? (i := 342) (by decide +kernel), (List.forall_mem_cons.mpr ⟨List.mem_of_getElem? (i := 343) (by decide +kernel), (List.forall_mem_cons.mpr ⟨List.mem_of_getElem? (i := 345) (by decide +kernel), (List.forall_mem_cons.mpr ⟨List.mem_of_getElem? (i := 346) (by decide +kernel), (List.forall_mem_cons.mpr ⟨List.mem_of_getElem? (i := 347) (by decide +kernel), (List.forall_mem_cons.mpr ⟨List.mem_of_getElem? (i := 349) (by decide +kernel), (List.forall_mem_cons.mpr ⟨List.mem_of_getElem? (i := 350) (by decide +kernel), (List.forall_mem_cons.mpr ⟨List.mem_of_getElem? (i := 352) (by decide +kernel), (List.forall_mem_cons.mpr ⟨List.mem_of_getElem? (i := 354) (by decide +kernel), (List.forall_mem_cons.mpr ⟨List.mem_of_getElem? (i := 376) (by decide +kernel), (List.forall_mem_cons.mpr ⟨List.mem_of_getElem? (i := 377) (by decide +kernel), (List.forall_mem_cons.mpr ⟨List.mem_of_getElem? (i := 379) (by decide +kernel), (List.forall_mem_cons.mpr ⟨List.mem_of_getElem? (i := 380) (by decide +kernel), (List.forall_mem_cons.mpr ⟨List.mem_of_getElem? (i := 381) (by decide +kernel), (List.forall_mem_cons.mpr ⟨List.mem_of_getElem? (i := 383) (by decide +kernel), (List.forall_mem_cons.mpr ⟨List.mem_of_getElem? (i := 384) (by decide +kernel), (List.forall_mem_cons.mpr ⟨List.mem_of_getElem? (i := 386) (by decide +kernel), (List.forall_mem_cons.mpr ⟨List.mem_of_getElem? (i := 387) (by decide +kernel), (List.forall_mem_cons.mpr ⟨List.mem_of_getElem? (i := 388) (by decide +kernel), (List.forall_mem_cons.mpr ⟨List.mem_of_getElem? (i := 390) (by decide +kernel), (List.forall_mem_cons.mpr ⟨List.mem_of_getElem? (i := 391) (by decide +kernel), (List.forall_mem_cons.mpr ⟨List.mem_of_getElem? (i := 393) (by decide +kernel), (List.forall_mem_cons.mpr ⟨List.mem_of_getElem? (i := 394) (by decide +kernel), (List.forall_mem_cons.mpr ⟨List.mem_of_getElem? (i := 395) (by decide +kernel), (List.forall_mem_cons.mpr ⟨List.mem_of_getElem? (i := 397) (by decide +kernel), (List.forall_mem_cons.mpr ⟨List.mem_of_getElem? (i := 398) (by decide +kernel), (List.forall_mem_cons.mpr ⟨List.mem_of_getElem? (i := 400) (by decide +kernel), (List.forall_mem_cons.mpr ⟨List.mem_of_getElem? (i := 401) (by decide +kernel), (List.forall_mem_cons.mpr ⟨List.mem_of_getElem? (i := 402) (by decide +kernel), (List.forall_mem_cons.mpr ⟨List.mem_of_getElem? (i := 404) (by decide +kernel), (List.forall_mem_cons.mpr ⟨List.mem_of_getElem? (i := 405) (by decide +kernel), (List.forall_mem_cons.mpr ⟨List.mem_of_getElem? (i := 407) (by decide +kernel), (List.forall_mem_cons.mpr ⟨List.mem_of_getElem? (i := 408) (by decide +kernel), (List.forall_mem_cons.mpr ⟨List.mem_of_getElem? (i := 409) (by decide +kernel), (List.forall_mem_cons.mpr ⟨List.mem_of_getElem? (i := 411) (by decide +kernel), (List.forall_mem_cons.mpr ⟨List.mem_of_getElem? (i := 412) (by decide +kernel), (List.forall_mem_cons.mpr ⟨List.mem_of_getElem? (i := 413) (by decide +kernel), (List.forall_mem_cons.mpr ⟨List.mem_of_getElem? (i := 415) (by decide +kernel), (List.forall_mem_cons.mpr ⟨List.mem_of_getElem? (i := 416) (by decide +kernel), (List.forall_mem_cons.mpr ⟨List.mem_of_getElem? (i := 417) (by decide +kernel), (List.forall_mem_cons.mpr ⟨List.mem_of_getElem? (i := 419) (by decide +kernel), (List.forall_mem_cons.mpr ⟨List.mem_of_getElem? (i := 420) (by decide +kernel), (List.forall_mem_cons.mpr ⟨List.mem_of_getElem? (i := 422) (by decide +kernel), (List.forall_mem_cons.mpr ⟨List.mem_of_getElem? (i := 423) (by decide +kernel), (List.forall_mem_cons.mpr ⟨List.mem_of_getElem? (i := 571) (by decide +kernel), (fun _ h => absurd h List.not_mem_nil)⟩)⟩)⟩)⟩)⟩)⟩)⟩)⟩)⟩)⟩)⟩)⟩)⟩)⟩)⟩)⟩)⟩)⟩)⟩)⟩)⟩)⟩)⟩)⟩)⟩)⟩)⟩)⟩)⟩)⟩)⟩)⟩)⟩)⟩)⟩)⟩)⟩)⟩)⟩)⟩)⟩)⟩)⟩)⟩)⟩)⟩)⟩)⟩)⟩)⟩)⟩)⟩)⟩)⟩)⟩)⟩)⟩)⟩)⟩)⟩)⟩)⟩)
set_option maxRecDepth 20000 in
theorem nwM_in : ∀ q ∈ nwM, (Cond.methodLinkNest q.1 q.2.1 q.2.2.1 q.2.2.2) ∈ lw_tbl := by unfold nwM; exact (List.forall_mem_cons.mpr ⟨List.mem_of_getElem? (i := 135) (by decide +kernel), (List.forall_mem_cons.mpr ⟨List.mem_of_getElem? (i := 151) (by decide +kernel), (List.forall_mem_cons.mpr ⟨List.mem_of_getElem? (i := 157) (by decide +kernel), (List.forall_mem_cons.mpr ⟨List.mem_of_getElem? (i := 267) (by decide +kernel), (List.forall_mem_cons.mpr ⟨List.mem_of_getElem? (i := 304) (by decide +kernel), (List.forall_mem_cons.mpr ⟨List.mem_of_getElem? (i := 325) (by decide +kernel), (List.forall_mem_cons.mpr ⟨List.mem_of_getElem? (i := 370) (by decide +kernel), (List.forall_mem_cons.mpr ⟨List.mem_of_getElem? (i := 492) (by decide +kernel), (List.forall_mem_cons.mpr ⟨List.mem_of_getElem? (i := 496) (by decide +kernel), (List.forall_mem_cons.mpr ⟨List.mem_of_getElem? (i := 504) (by decide +kernel), (List.forall_mem_cons.mpr ⟨List.mem_of_getElem? (i := 508) (by decide +kernel), (List.forall_mem_cons.mpr ⟨List.mem_of_getElem? (i := 512) (by decide +kernel), (List.forall_mem_cons.mpr ⟨List.mem_of_getElem? (i := 513) (by decide +kernel), (List.forall_mem_cons.mpr ⟨List.mem_of_getElem? (i := 550) (by decide +kernel), (List.forall_mem_cons.mpr ⟨List.mem_of_getElem? (i := 573) (by decide +kernel), (List.forall_mem_cons.mpr ⟨List.mem_of_getElem? (i := 577) (by decide +kernel), (List.forall_mem_cons.mpr ⟨List.mem_of_getElem? (i := 608) (by decide +kernel), (List.forall_mem_cons.mpr ⟨List.mem_of_getElem? (i := 628) (by decide +kernel), (List.forall_mem_cons.mpr ⟨List.mem_of_getElem? (i := 636) (by decide +kernel), (List.forall_mem_cons.mpr ⟨List.mem_of_getElem? (i := 641) (by decide +kernel), (List.forall_mem_cons.mpr ⟨List.mem_of_getElem? (i := 645) (by decide +kernel), (List.forall_mem_cons.mpr ⟨List.mem_of_getElem? (i := 648) (by decide +kernel), (List.forall_mem_cons.mpr ⟨List.mem_of_getElem? (i := 655) (by decide +kernel), (List.forall_mem_cons.mpr ⟨List.mem_of_getElem? (i := 658) (by decide +kernel), (List.forall_mem_cons.mpr ⟨List.mem_of_getElem? (i := 669) (by decide +kernel), (List.forall_mem_cons.mpr ⟨List.mem_of_getElem? (i := 678) (by decide +kernel), (List.forall_mem_cons.mpr ⟨List.mem_of_getElem? (i := 686) (by decide +kernel), (List.forall_mem_cons.mpr ⟨List.mem_of_getElem? (i := 694) (by decide +kernel), (List.forall_mem_cons.mpr ⟨List.mem_of_getElem? (i := 698) (by decide +kernel), (List.forall_mem_cons.mpr ⟨List.mem_of_getElem? (i := 705) (by decide +kernel), (List.forall_mem_cons.mpr ⟨List.mem_of_getElem? (i := 706) (by decide +kernel), (List.forall_mem_cons.mpr ⟨List.mem_of_getElem? (i := 723) (by decide +kernel), (List.forall_mem_cons.mpr ⟨List.mem_of_getElem? (i := 727) (by decide +kernel), (List.forall_mem_cons.mpr ⟨List.mem_of_getElem? (i := 735) (by decide +kernel), (List.forall_mem_cons.mpr ⟨List.mem_of_getElem? (i := 739) (by decide +kernel), (List.forall_mem_cons.mpr ⟨List.mem_of_getElem? (i := 747) (by decide +kernel), (List.forall_mem_cons.mpr ⟨List.mem_of_getElem? (i := 766) (by decide +kernel), (List.forall_mem_cons.mpr ⟨List.mem_of_getElem? (i := 770) (by decide +kernel), (List.forall_mem_cons.mpr ⟨List.mem_of_getElem? (i := 774) (by decide +kernel), (List.forall_mem_cons.mpr ⟨List.mem_of_getElem? (i := 789) (by decide +kernel), (List.forall_mem_cons.mpr ⟨List.mem_of_getElem? (i := 797) (by decide +kernel), (List.forall_mem_cons.mpr ⟨List.mem_of_getElem? (i := 810) (by decide +kernel), (List.forall_mem_cons.mpr ⟨List.mem_of_getElem? (i := 827) (by decide +kernel), (List.forall_mem_cons.mpr ⟨List.mem_of_getElem? (i := 856) (by decide +kernel), (List.forall_mem_cons.mpr ⟨List.mem_of_getElem? (i := 864) (by decide +kernel), (List.forall_mem_cons.mpr ⟨List.mem_of_getElem? (i := 891) (by decide +kernel), (List.forall_mem_cons.mpr ⟨List.mem_of_getElem? (i := 895) (by decide +kernel), (List.forall_mem_cons.mpr ⟨List.mem_of_getElem? (i := 903) (by decide +kernel), (List.forall_mem_cons.mpr ⟨List.mem_of_getElem? (i := 912) (by decide +kernel), (List.forall_mem_cons.mpr ⟨List.mem_of_getElem? (i := 916) (by decide +kernel), (fun _ h => absurd h List.not_mem_nil)⟩)⟩)⟩)⟩)⟩)⟩)⟩)⟩)⟩)⟩)⟩)⟩)⟩)⟩)⟩)⟩)⟩)⟩)⟩)⟩)⟩)⟩)⟩)⟩)⟩)⟩)⟩)⟩)⟩)⟩)⟩)⟩)⟩)⟩)⟩)⟩)⟩)⟩)⟩)⟩)⟩)⟩)⟩)⟩)⟩)⟩)⟩)⟩)⟩)⟩)
set_option maxRecDepth 100000 in
theorem st_ma {args : Array Value} {s : State} (h : (Jvm.Cond.and given_1 narrow_1).before args s = true) : ((.arrayOf (.static "ClosedUntil$Calendar" "MONTH_LENGTHS" "[I") .int : Cond)).before args s = true := flat_of_before _ h _ (by decide +kernel)
set_option maxRecDepth 100000 in
theorem st_ml {args : Array Value} {s : State} (h : (Jvm.Cond.and given_1 narrow_1).before args s = true) : ((.eq (.length (.static "ClosedUntil$Calendar" "MONTH_LENGTHS" "[I")) (.int 12) : Cond)).before args s = true := flat_of_before _ h _ (by decide +kernel)
set_option maxRecDepth 100000 in
theorem st_m0 {args : Array Value} {s : State} (h : (Jvm.Cond.and given_1 narrow_1).before args s = true) : ((.eq (.elem (.static "ClosedUntil$Calendar" "MONTH_LENGTHS" "[I") (.int 0)) (.int 31) : Cond)).before args s = true := flat_of_before _ h _ (by decide +kernel)
set_option maxRecDepth 100000 in
theorem st_m1 {args : Array Value} {s : State} (h : (Jvm.Cond.and given_1 narrow_1).before args s = true) : ((.eq (.elem (.static "ClosedUntil$Calendar" "MONTH_LENGTHS" "[I") (.int 1)) (.int 28) : Cond)).before args s = true := flat_of_before _ h _ (by decide +kernel)
set_option maxRecDepth 100000 in
theorem st_m2 {args : Array Value} {s : State} (h : (Jvm.Cond.and given_1 narrow_1).before args s = true) : ((.eq (.elem (.static "ClosedUntil$Calendar" "MONTH_LENGTHS" "[I") (.int 2)) (.int 31) : Cond)).before args s = true := flat_of_before _ h _ (by decide +kernel)
set_option maxRecDepth 100000 in
theorem st_m3 {args : Array Value} {s : State} (h : (Jvm.Cond.and given_1 narrow_1).before args s = true) : ((.eq (.elem (.static "ClosedUntil$Calendar" "MONTH_LENGTHS" "[I") (.int 3)) (.int 30) : Cond)).before args s = true := flat_of_before _ h _ (by decide +kernel)
set_option maxRecDepth 100000 in
theorem st_m4 {args : Array Value} {s : State} (h : (Jvm.Cond.and given_1 narrow_1).before args s = true) : ((.eq (.elem (.static "ClosedUntil$Calendar" "MONTH_LENGTHS" "[I") (.int 4)) (.int 31) : Cond)).before args s = true := flat_of_before _ h _ (by decide +kernel)
set_option maxRecDepth 100000 in
theorem st_m5 {args : Array Value} {s : State} (h : (Jvm.Cond.and given_1 narrow_1).before args s = true) : ((.eq (.elem (.static "ClosedUntil$Calendar" "MONTH_LENGTHS" "[I") (.int 5)) (.int 30) : Cond)).before args s = true := flat_of_before _ h _ (by decide +kernel)
set_option maxRecDepth 100000 in
theorem st_m6 {args : Array Value} {s : State} (h : (Jvm.Cond.and given_1 narrow_1).before args s = true) : ((.eq (.elem (.static "ClosedUntil$Calendar" "MONTH_LENGTHS" "[I") (.int 6)) (.int 31) : Cond)).before args s = true := flat_of_before _ h _ (by decide +kernel)
set_option maxRecDepth 100000 in
theorem st_m7 {args : Array Value} {s : State} (h : (Jvm.Cond.and given_1 narrow_1).before args s = true) : ((.eq (.elem (.static "ClosedUntil$Calendar" "MONTH_LENGTHS" "[I") (.int 7)) (.int 31) : Cond)).before args s = true := flat_of_before _ h _ (by decide +kernel)
set_option maxRecDepth 100000 in
theorem st_m8 {args : Array Value} {s : State} (h : (Jvm.Cond.and given_1 narrow_1).before args s = true) : ((.eq (.elem (.static "ClosedUntil$Calendar" "MONTH_LENGTHS" "[I") (.int 8)) (.int 30) : Cond)).before args s = true := flat_of_before _ h _ (by decide +kernel)
set_option maxRecDepth 100000 in
theorem st_m9 {args : Array Value} {s : State} (h : (Jvm.Cond.and given_1 narrow_1).before args s = true) : ((.eq (.elem (.static "ClosedUntil$Calendar" "MONTH_LENGTHS" "[I") (.int 9)) (.int 31) : Cond)).before args s = true := flat_of_before _ h _ (by decide +kernel)
set_option maxRecDepth 100000 in
theorem st_m10 {args : Array Value} {s : State} (h : (Jvm.Cond.and given_1 narrow_1).before args s = true) : ((.eq (.elem (.static "ClosedUntil$Calendar" "MONTH_LENGTHS" "[I") (.int 10)) (.int 30) : Cond)).before args s = true := flat_of_before _ h _ (by decide +kernel)
set_option maxRecDepth 100000 in
theorem st_m11 {args : Array Value} {s : State} (h : (Jvm.Cond.and given_1 narrow_1).before args s = true) : ((.eq (.elem (.static "ClosedUntil$Calendar" "MONTH_LENGTHS" "[I") (.int 11)) (.int 31) : Cond)).before args s = true := flat_of_before _ h _ (by decide +kernel)
set_option maxRecDepth 100000 in
theorem st_kx {args : Array Value} {s : State} (h : (Jvm.Cond.and given_1 narrow_1).before args s = true) : ((.exactly (.string "ClosedUntil$Tokens" 17) "java/lang/String" : Cond)).before args s = true := flat_of_before _ h _ (by decide +kernel)
set_option maxRecDepth 100000 in
theorem st_kc {args : Array Value} {s : State} (h : (Jvm.Cond.and given_1 narrow_1).before args s = true) : ((.eq (.field (.string "ClosedUntil$Tokens" 17) "java/lang/String" "coder" "B") (.int 0) : Cond)).before args s = true := flat_of_before _ h _ (by decide +kernel)
set_option maxRecDepth 100000 in
theorem st_ka {args : Array Value} {s : State} (h : (Jvm.Cond.and given_1 narrow_1).before args s = true) : ((.arrayOf (.field (.string "ClosedUntil$Tokens" 17) "java/lang/String" "value" "[B") .byte : Cond)).before args s = true := flat_of_before _ h _ (by decide +kernel)
set_option maxRecDepth 100000 in
theorem st_kl {args : Array Value} {s : State} (h : (Jvm.Cond.and given_1 narrow_1).before args s = true) : ((.eq (.length (.field (.string "ClosedUntil$Tokens" 17) "java/lang/String" "value" "[B")) (.int 68) : Cond)).before args s = true := flat_of_before _ h _ (by decide +kernel)
set_option maxRecDepth 100000 in
theorem st_k0 {args : Array Value} {s : State} (h : (Jvm.Cond.and given_1 narrow_1).before args s = true) : ((.eq (.elem (.field (.string "ClosedUntil$Tokens" 17) "java/lang/String" "value" "[B") (.int 0)) (.int 112) : Cond)).before args s = true := flat_of_before _ h _ (by decide +kernel)
set_option maxRecDepth 100000 in
theorem st_k1 {args : Array Value} {s : State} (h : (Jvm.Cond.and given_1 narrow_1).before args s = true) : ((.eq (.elem (.field (.string "ClosedUntil$Tokens" 17) "java/lang/String" "value" "[B") (.int 1)) (.int 101) : Cond)).before args s = true := flat_of_before _ h _ (by decide +kernel)
set_option maxRecDepth 100000 in
theorem st_k2 {args : Array Value} {s : State} (h : (Jvm.Cond.and given_1 narrow_1).before args s = true) : ((.eq (.elem (.field (.string "ClosedUntil$Tokens" 17) "java/lang/String" "value" "[B") (.int 2)) (.int 114) : Cond)).before args s = true := flat_of_before _ h _ (by decide +kernel)
set_option maxRecDepth 100000 in
theorem st_k3 {args : Array Value} {s : State} (h : (Jvm.Cond.and given_1 narrow_1).before args s = true) : ((.eq (.elem (.field (.string "ClosedUntil$Tokens" 17) "java/lang/String" "value" "[B") (.int 3)) (.int 115) : Cond)).before args s = true := flat_of_before _ h _ (by decide +kernel)
set_option maxRecDepth 100000 in
theorem st_k4 {args : Array Value} {s : State} (h : (Jvm.Cond.and given_1 narrow_1).before args s = true) : ((.eq (.elem (.field (.string "ClosedUntil$Tokens" 17) "java/lang/String" "value" "[B") (.int 4)) (.int 111) : Cond)).before args s = true := flat_of_before _ h _ (by decide +kernel)
set_option maxRecDepth 100000 in
theorem st_k5 {args : Array Value} {s : State} (h : (Jvm.Cond.and given_1 narrow_1).before args s = true) : ((.eq (.elem (.field (.string "ClosedUntil$Tokens" 17) "java/lang/String" "value" "[B") (.int 5)) (.int 110) : Cond)).before args s = true := flat_of_before _ h _ (by decide +kernel)
set_option maxRecDepth 100000 in
theorem st_k6 {args : Array Value} {s : State} (h : (Jvm.Cond.and given_1 narrow_1).before args s = true) : ((.eq (.elem (.field (.string "ClosedUntil$Tokens" 17) "java/lang/String" "value" "[B") (.int 6)) (.int 32) : Cond)).before args s = true := flat_of_before _ h _ (by decide +kernel)
set_option maxRecDepth 100000 in
theorem st_k7 {args : Array Value} {s : State} (h : (Jvm.Cond.and given_1 narrow_1).before args s = true) : ((.eq (.elem (.field (.string "ClosedUntil$Tokens" 17) "java/lang/String" "value" "[B") (.int 7)) (.int 98) : Cond)).before args s = true := flat_of_before _ h _ (by decide +kernel)
set_option maxRecDepth 100000 in
theorem st_k8 {args : Array Value} {s : State} (h : (Jvm.Cond.and given_1 narrow_1).before args s = true) : ((.eq (.elem (.field (.string "ClosedUntil$Tokens" 17) "java/lang/String" "value" "[B") (.int 8)) (.int 111) : Cond)).before args s = true := flat_of_before _ h _ (by decide +kernel)
set_option maxRecDepth 100000 in
theorem st_k9 {args : Array Value} {s : State} (h : (Jvm.Cond.and given_1 narrow_1).before args s = true) : ((.eq (.elem (.field (.string "ClosedUntil$Tokens" 17) "java/lang/String" "value" "[B") (.int 9)) (.int 114) : Cond)).before args s = true := flat_of_before _ h _ (by decide +kernel)
set_option maxRecDepth 100000 in
theorem st_k10 {args : Array Value} {s : State} (h : (Jvm.Cond.and given_1 narrow_1).before args s = true) : ((.eq (.elem (.field (.string "ClosedUntil$Tokens" 17) "java/lang/String" "value" "[B") (.int 10)) (.int 110) : Cond)).before args s = true := flat_of_before _ h _ (by decide +kernel)
set_option maxRecDepth 100000 in
theorem st_k11 {args : Array Value} {s : State} (h : (Jvm.Cond.and given_1 narrow_1).before args s = true) : ((.eq (.elem (.field (.string "ClosedUntil$Tokens" 17) "java/lang/String" "value" "[B") (.int 11)) (.int 32) : Cond)).before args s = true := flat_of_before _ h _ (by decide +kernel)
set_option maxRecDepth 100000 in
theorem st_k12 {args : Array Value} {s : State} (h : (Jvm.Cond.and given_1 narrow_1).before args s = true) : ((.eq (.elem (.field (.string "ClosedUntil$Tokens" 17) "java/lang/String" "value" "[B") (.int 12)) (.int 100) : Cond)).before args s = true := flat_of_before _ h _ (by decide +kernel)
set_option maxRecDepth 100000 in
theorem st_k13 {args : Array Value} {s : State} (h : (Jvm.Cond.and given_1 narrow_1).before args s = true) : ((.eq (.elem (.field (.string "ClosedUntil$Tokens" 17) "java/lang/String" "value" "[B") (.int 13)) (.int 105) : Cond)).before args s = true := flat_of_before _ h _ (by decide +kernel)
set_option maxRecDepth 100000 in
theorem st_k14 {args : Array Value} {s : State} (h : (Jvm.Cond.and given_1 narrow_1).before args s = true) : ((.eq (.elem (.field (.string "ClosedUntil$Tokens" 17) "java/lang/String" "value" "[B") (.int 14)) (.int 101) : Cond)).before args s = true := flat_of_before _ h _ (by decide +kernel)
set_option maxRecDepth 100000 in
theorem st_k15 {args : Array Value} {s : State} (h : (Jvm.Cond.and given_1 narrow_1).before args s = true) : ((.eq (.elem (.field (.string "ClosedUntil$Tokens" 17) "java/lang/String" "value" "[B") (.int 15)) (.int 100) : Cond)).before args s = true := flat_of_before _ h _ (by decide +kernel)
set_option maxRecDepth 100000 in
theorem st_k16 {args : Array Value} {s : State} (h : (Jvm.Cond.and given_1 narrow_1).before args s = true) : ((.eq (.elem (.field (.string "ClosedUntil$Tokens" 17) "java/lang/String" "value" "[B") (.int 16)) (.int 32) : Cond)).before args s = true := flat_of_before _ h _ (by decide +kernel)
set_option maxRecDepth 100000 in
theorem st_k17 {args : Array Value} {s : State} (h : (Jvm.Cond.and given_1 narrow_1).before args s = true) : ((.eq (.elem (.field (.string "ClosedUntil$Tokens" 17) "java/lang/String" "value" "[B") (.int 17)) (.int 100) : Cond)).before args s = true := flat_of_before _ h _ (by decide +kernel)
set_option maxRecDepth 100000 in
theorem st_k18 {args : Array Value} {s : State} (h : (Jvm.Cond.and given_1 narrow_1).before args s = true) : ((.eq (.elem (.field (.string "ClosedUntil$Tokens" 17) "java/lang/String" "value" "[B") (.int 18)) (.int 101) : Cond)).before args s = true := flat_of_before _ h _ (by decide +kernel)
set_option maxRecDepth 100000 in
theorem st_k19 {args : Array Value} {s : State} (h : (Jvm.Cond.and given_1 narrow_1).before args s = true) : ((.eq (.elem (.field (.string "ClosedUntil$Tokens" 17) "java/lang/String" "value" "[B") (.int 19)) (.int 112) : Cond)).before args s = true := flat_of_before _ h _ (by decide +kernel)
set_option maxRecDepth 100000 in
theorem st_k20 {args : Array Value} {s : State} (h : (Jvm.Cond.and given_1 narrow_1).before args s = true) : ((.eq (.elem (.field (.string "ClosedUntil$Tokens" 17) "java/lang/String" "value" "[B") (.int 20)) (.int 111) : Cond)).before args s = true := flat_of_before _ h _ (by decide +kernel)
set_option maxRecDepth 100000 in
theorem st_k21 {args : Array Value} {s : State} (h : (Jvm.Cond.and given_1 narrow_1).before args s = true) : ((.eq (.elem (.field (.string "ClosedUntil$Tokens" 17) "java/lang/String" "value" "[B") (.int 21)) (.int 115) : Cond)).before args s = true := flat_of_before _ h _ (by decide +kernel)
set_option maxRecDepth 100000 in
theorem st_k22 {args : Array Value} {s : State} (h : (Jvm.Cond.and given_1 narrow_1).before args s = true) : ((.eq (.elem (.field (.string "ClosedUntil$Tokens" 17) "java/lang/String" "value" "[B") (.int 22)) (.int 105) : Cond)).before args s = true := flat_of_before _ h _ (by decide +kernel)
set_option maxRecDepth 100000 in
theorem st_k23 {args : Array Value} {s : State} (h : (Jvm.Cond.and given_1 narrow_1).before args s = true) : ((.eq (.elem (.field (.string "ClosedUntil$Tokens" 17) "java/lang/String" "value" "[B") (.int 23)) (.int 116) : Cond)).before args s = true := flat_of_before _ h _ (by decide +kernel)
set_option maxRecDepth 100000 in
theorem st_k24 {args : Array Value} {s : State} (h : (Jvm.Cond.and given_1 narrow_1).before args s = true) : ((.eq (.elem (.field (.string "ClosedUntil$Tokens" 17) "java/lang/String" "value" "[B") (.int 24)) (.int 32) : Cond)).before args s = true := flat_of_before _ h _ (by decide +kernel)
set_option maxRecDepth 100000 in
theorem st_k25 {args : Array Value} {s : State} (h : (Jvm.Cond.and given_1 narrow_1).before args s = true) : ((.eq (.elem (.field (.string "ClosedUntil$Tokens" 17) "java/lang/String" "value" "[B") (.int 25)) (.int 112) : Cond)).before args s = true := flat_of_before _ h _ (by decide +kernel)
set_option maxRecDepth 100000 in
theorem st_k26 {args : Array Value} {s : State} (h : (Jvm.Cond.and given_1 narrow_1).before args s = true) : ((.eq (.elem (.field (.string "ClosedUntil$Tokens" 17) "java/lang/String" "value" "[B") (.int 26)) (.int 105) : Cond)).before args s = true := flat_of_before _ h _ (by decide +kernel)
set_option maxRecDepth 100000 in
theorem st_k27 {args : Array Value} {s : State} (h : (Jvm.Cond.and given_1 narrow_1).before args s = true) : ((.eq (.elem (.field (.string "ClosedUntil$Tokens" 17) "java/lang/String" "value" "[B") (.int 27)) (.int 101) : Cond)).before args s = true := flat_of_before _ h _ (by decide +kernel)
set_option maxRecDepth 100000 in
theorem st_k28 {args : Array Value} {s : State} (h : (Jvm.Cond.and given_1 narrow_1).before args s = true) : ((.eq (.elem (.field (.string "ClosedUntil$Tokens" 17) "java/lang/String" "value" "[B") (.int 28)) (.int 99) : Cond)).before args s = true := flat_of_before _ h _ (by decide +kernel)
set_option maxRecDepth 100000 in
theorem st_k29 {args : Array Value} {s : State} (h : (Jvm.Cond.and given_1 narrow_1).before args s = true) : ((.eq (.elem (.field (.string "ClosedUntil$Tokens" 17) "java/lang/String" "value" "[B") (.int 29)) (.int 101) : Cond)).before args s = true := flat_of_before _ h _ (by decide +kernel)
set_option maxRecDepth 100000 in
theorem st_k30 {args : Array Value} {s : State} (h : (Jvm.Cond.and given_1 narrow_1).before args s = true) : ((.eq (.elem (.field (.string "ClosedUntil$Tokens" 17) "java/lang/String" "value" "[B") (.int 30)) (.int 32) : Cond)).before args s = true := flat_of_before _ h _ (by decide +kernel)
set_option maxRecDepth 100000 in
theorem st_k31 {args : Array Value} {s : State} (h : (Jvm.Cond.and given_1 narrow_1).before args s = true) : ((.eq (.elem (.field (.string "ClosedUntil$Tokens" 17) "java/lang/String" "value" "[B") (.int 31)) (.int 105) : Cond)).before args s = true := flat_of_before _ h _ (by decide +kernel)
set_option maxRecDepth 100000 in
theorem st_k32 {args : Array Value} {s : State} (h : (Jvm.Cond.and given_1 narrow_1).before args s = true) : ((.eq (.elem (.field (.string "ClosedUntil$Tokens" 17) "java/lang/String" "value" "[B") (.int 32)) (.int 110) : Cond)).before args s = true := flat_of_before _ h _ (by decide +kernel)
set_option maxRecDepth 100000 in
theorem st_k33 {args : Array Value} {s : State} (h : (Jvm.Cond.and given_1 narrow_1).before args s = true) : ((.eq (.elem (.field (.string "ClosedUntil$Tokens" 17) "java/lang/String" "value" "[B") (.int 33)) (.int 32) : Cond)).before args s = true := flat_of_before _ h _ (by decide +kernel)
set_option maxRecDepth 100000 in
theorem st_k34 {args : Array Value} {s : State} (h : (Jvm.Cond.and given_1 narrow_1).before args s = true) : ((.eq (.elem (.field (.string "ClosedUntil$Tokens" 17) "java/lang/String" "value" "[B") (.int 34)) (.int 111) : Cond)).before args s = true := flat_of_before _ h _ (by decide +kernel)
set_option maxRecDepth 100000 in
theorem st_k35 {args : Array Value} {s : State} (h : (Jvm.Cond.and given_1 narrow_1).before args s = true) : ((.eq (.elem (.field (.string "ClosedUntil$Tokens" 17) "java/lang/String" "value" "[B") (.int 35)) (.int 102) : Cond)).before args s = true := flat_of_before _ h _ (by decide +kernel)
set_option maxRecDepth 100000 in
theorem st_k36 {args : Array Value} {s : State} (h : (Jvm.Cond.and given_1 narrow_1).before args s = true) : ((.eq (.elem (.field (.string "ClosedUntil$Tokens" 17) "java/lang/String" "value" "[B") (.int 36)) (.int 32) : Cond)).before args s = true := flat_of_before _ h _ (by decide +kernel)
set_option maxRecDepth 100000 in
theorem st_k37 {args : Array Value} {s : State} (h : (Jvm.Cond.and given_1 narrow_1).before args s = true) : ((.eq (.elem (.field (.string "ClosedUntil$Tokens" 17) "java/lang/String" "value" "[B") (.int 37)) (.int 102) : Cond)).before args s = true := flat_of_before _ h _ (by decide +kernel)
set_option maxRecDepth 100000 in
theorem st_k38 {args : Array Value} {s : State} (h : (Jvm.Cond.and given_1 narrow_1).before args s = true) : ((.eq (.elem (.field (.string "ClosedUntil$Tokens" 17) "java/lang/String" "value" "[B") (.int 38)) (.int 114) : Cond)).before args s = true := flat_of_before _ h _ (by decide +kernel)
set_option maxRecDepth 100000 in
theorem st_k39 {args : Array Value} {s : State} (h : (Jvm.Cond.and given_1 narrow_1).before args s = true) : ((.eq (.elem (.field (.string "ClosedUntil$Tokens" 17) "java/lang/String" "value" "[B") (.int 39)) (.int 111) : Cond)).before args s = true := flat_of_before _ h _ (by decide +kernel)
set_option maxRecDepth 100000 in
theorem st_k40 {args : Array Value} {s : State} (h : (Jvm.Cond.and given_1 narrow_1).before args s = true) : ((.eq (.elem (.field (.string "ClosedUntil$Tokens" 17) "java/lang/String" "value" "[B") (.int 40)) (.int 109) : Cond)).before args s = true := flat_of_before _ h _ (by decide +kernel)
set_option maxRecDepth 100000 in
theorem st_k41 {args : Array Value} {s : State} (h : (Jvm.Cond.and given_1 narrow_1).before args s = true) : ((.eq (.elem (.field (.string "ClosedUntil$Tokens" 17) "java/lang/String" "value" "[B") (.int 41)) (.int 32) : Cond)).before args s = true := flat_of_before _ h _ (by decide +kernel)
set_option maxRecDepth 100000 in
theorem st_k42 {args : Array Value} {s : State} (h : (Jvm.Cond.and given_1 narrow_1).before args s = true) : ((.eq (.elem (.field (.string "ClosedUntil$Tokens" 17) "java/lang/String" "value" "[B") (.int 42)) (.int 99) : Cond)).before args s = true := flat_of_before _ h _ (by decide +kernel)
set_option maxRecDepth 100000 in
theorem st_k43 {args : Array Value} {s : State} (h : (Jvm.Cond.and given_1 narrow_1).before args s = true) : ((.eq (.elem (.field (.string "ClosedUntil$Tokens" 17) "java/lang/String" "value" "[B") (.int 43)) (.int 108) : Cond)).before args s = true := flat_of_before _ h _ (by decide +kernel)
set_option maxRecDepth 100000 in
theorem st_k44 {args : Array Value} {s : State} (h : (Jvm.Cond.and given_1 narrow_1).before args s = true) : ((.eq (.elem (.field (.string "ClosedUntil$Tokens" 17) "java/lang/String" "value" "[B") (.int 44)) (.int 111) : Cond)).before args s = true := flat_of_before _ h _ (by decide +kernel)
set_option maxRecDepth 100000 in
theorem st_k45 {args : Array Value} {s : State} (h : (Jvm.Cond.and given_1 narrow_1).before args s = true) : ((.eq (.elem (.field (.string "ClosedUntil$Tokens" 17) "java/lang/String" "value" "[B") (.int 45)) (.int 115) : Cond)).before args s = true := flat_of_before _ h _ (by decide +kernel)
set_option maxRecDepth 100000 in
theorem st_k46 {args : Array Value} {s : State} (h : (Jvm.Cond.and given_1 narrow_1).before args s = true) : ((.eq (.elem (.field (.string "ClosedUntil$Tokens" 17) "java/lang/String" "value" "[B") (.int 46)) (.int 101) : Cond)).before args s = true := flat_of_before _ h _ (by decide +kernel)
set_option maxRecDepth 100000 in
theorem st_k47 {args : Array Value} {s : State} (h : (Jvm.Cond.and given_1 narrow_1).before args s = true) : ((.eq (.elem (.field (.string "ClosedUntil$Tokens" 17) "java/lang/String" "value" "[B") (.int 47)) (.int 32) : Cond)).before args s = true := flat_of_before _ h _ (by decide +kernel)
set_option maxRecDepth 100000 in
theorem st_k48 {args : Array Value} {s : State} (h : (Jvm.Cond.and given_1 narrow_1).before args s = true) : ((.eq (.elem (.field (.string "ClosedUntil$Tokens" 17) "java/lang/String" "value" "[B") (.int 48)) (.int 99) : Cond)).before args s = true := flat_of_before _ h _ (by decide +kernel)
set_option maxRecDepth 100000 in
theorem st_k49 {args : Array Value} {s : State} (h : (Jvm.Cond.and given_1 narrow_1).before args s = true) : ((.eq (.elem (.field (.string "ClosedUntil$Tokens" 17) "java/lang/String" "value" "[B") (.int 49)) (.int 111) : Cond)).before args s = true := flat_of_before _ h _ (by decide +kernel)
set_option maxRecDepth 100000 in
theorem st_k50 {args : Array Value} {s : State} (h : (Jvm.Cond.and given_1 narrow_1).before args s = true) : ((.eq (.elem (.field (.string "ClosedUntil$Tokens" 17) "java/lang/String" "value" "[B") (.int 50)) (.int 110) : Cond)).before args s = true := flat_of_before _ h _ (by decide +kernel)
set_option maxRecDepth 100000 in
theorem st_k51 {args : Array Value} {s : State} (h : (Jvm.Cond.and given_1 narrow_1).before args s = true) : ((.eq (.elem (.field (.string "ClosedUntil$Tokens" 17) "java/lang/String" "value" "[B") (.int 51)) (.int 116) : Cond)).before args s = true := flat_of_before _ h _ (by decide +kernel)
set_option maxRecDepth 100000 in
theorem st_k52 {args : Array Value} {s : State} (h : (Jvm.Cond.and given_1 narrow_1).before args s = true) : ((.eq (.elem (.field (.string "ClosedUntil$Tokens" 17) "java/lang/String" "value" "[B") (.int 52)) (.int 101) : Cond)).before args s = true := flat_of_before _ h _ (by decide +kernel)
set_option maxRecDepth 100000 in
theorem st_k53 {args : Array Value} {s : State} (h : (Jvm.Cond.and given_1 narrow_1).before args s = true) : ((.eq (.elem (.field (.string "ClosedUntil$Tokens" 17) "java/lang/String" "value" "[B") (.int 53)) (.int 110) : Cond)).before args s = true := flat_of_before _ h _ (by decide +kernel)
set_option maxRecDepth 100000 in
theorem st_k54 {args : Array Value} {s : State} (h : (Jvm.Cond.and given_1 narrow_1).before args s = true) : ((.eq (.elem (.field (.string "ClosedUntil$Tokens" 17) "java/lang/String" "value" "[B") (.int 54)) (.int 116) : Cond)).before args s = true := flat_of_before _ h _ (by decide +kernel)
set_option maxRecDepth 100000 in
theorem st_k55 {args : Array Value} {s : State} (h : (Jvm.Cond.and given_1 narrow_1).before args s = true) : ((.eq (.elem (.field (.string "ClosedUntil$Tokens" 17) "java/lang/String" "value" "[B") (.int 55)) (.int 32) : Cond)).before args s = true := flat_of_before _ h _ (by decide +kernel)
set_option maxRecDepth 100000 in
theorem st_k56 {args : Array Value} {s : State} (h : (Jvm.Cond.and given_1 narrow_1).before args s = true) : ((.eq (.elem (.field (.string "ClosedUntil$Tokens" 17) "java/lang/String" "value" "[B") (.int 56)) (.int 117) : Cond)).before args s = true := flat_of_before _ h _ (by decide +kernel)
set_option maxRecDepth 100000 in
theorem st_k57 {args : Array Value} {s : State} (h : (Jvm.Cond.and given_1 narrow_1).before args s = true) : ((.eq (.elem (.field (.string "ClosedUntil$Tokens" 17) "java/lang/String" "value" "[B") (.int 57)) (.int 110) : Cond)).before args s = true := flat_of_before _ h _ (by decide +kernel)
set_option maxRecDepth 100000 in
theorem st_k58 {args : Array Value} {s : State} (h : (Jvm.Cond.and given_1 narrow_1).before args s = true) : ((.eq (.elem (.field (.string "ClosedUntil$Tokens" 17) "java/lang/String" "value" "[B") (.int 58)) (.int 116) : Cond)).before args s = true := flat_of_before _ h _ (by decide +kernel)
set_option maxRecDepth 100000 in
theorem st_k59 {args : Array Value} {s : State} (h : (Jvm.Cond.and given_1 narrow_1).before args s = true) : ((.eq (.elem (.field (.string "ClosedUntil$Tokens" 17) "java/lang/String" "value" "[B") (.int 59)) (.int 105) : Cond)).before args s = true := flat_of_before _ h _ (by decide +kernel)
set_option maxRecDepth 100000 in
theorem st_k60 {args : Array Value} {s : State} (h : (Jvm.Cond.and given_1 narrow_1).before args s = true) : ((.eq (.elem (.field (.string "ClosedUntil$Tokens" 17) "java/lang/String" "value" "[B") (.int 60)) (.int 108) : Cond)).before args s = true := flat_of_before _ h _ (by decide +kernel)
set_option maxRecDepth 100000 in
theorem st_k61 {args : Array Value} {s : State} (h : (Jvm.Cond.and given_1 narrow_1).before args s = true) : ((.eq (.elem (.field (.string "ClosedUntil$Tokens" 17) "java/lang/String" "value" "[B") (.int 61)) (.int 32) : Cond)).before args s = true := flat_of_before _ h _ (by decide +kernel)
set_option maxRecDepth 100000 in
theorem st_k62 {args : Array Value} {s : State} (h : (Jvm.Cond.and given_1 narrow_1).before args s = true) : ((.eq (.elem (.field (.string "ClosedUntil$Tokens" 17) "java/lang/String" "value" "[B") (.int 62)) (.int 119) : Cond)).before args s = true := flat_of_before _ h _ (by decide +kernel)
set_option maxRecDepth 100000 in
theorem st_k63 {args : Array Value} {s : State} (h : (Jvm.Cond.and given_1 narrow_1).before args s = true) : ((.eq (.elem (.field (.string "ClosedUntil$Tokens" 17) "java/lang/String" "value" "[B") (.int 63)) (.int 104) : Cond)).before args s = true := flat_of_before _ h _ (by decide +kernel)
set_option maxRecDepth 100000 in
theorem st_k64 {args : Array Value} {s : State} (h : (Jvm.Cond.and given_1 narrow_1).before args s = true) : ((.eq (.elem (.field (.string "ClosedUntil$Tokens" 17) "java/lang/String" "value" "[B") (.int 64)) (.int 111) : Cond)).before args s = true := flat_of_before _ h _ (by decide +kernel)
set_option maxRecDepth 100000 in
theorem st_k65 {args : Array Value} {s : State} (h : (Jvm.Cond.and given_1 narrow_1).before args s = true) : ((.eq (.elem (.field (.string "ClosedUntil$Tokens" 17) "java/lang/String" "value" "[B") (.int 65)) (.int 108) : Cond)).before args s = true := flat_of_before _ h _ (by decide +kernel)
set_option maxRecDepth 100000 in
theorem st_k66 {args : Array Value} {s : State} (h : (Jvm.Cond.and given_1 narrow_1).before args s = true) : ((.eq (.elem (.field (.string "ClosedUntil$Tokens" 17) "java/lang/String" "value" "[B") (.int 66)) (.int 101) : Cond)).before args s = true := flat_of_before _ h _ (by decide +kernel)
set_option maxRecDepth 100000 in
theorem st_k67 {args : Array Value} {s : State} (h : (Jvm.Cond.and given_1 narrow_1).before args s = true) : ((.eq (.elem (.field (.string "ClosedUntil$Tokens" 17) "java/lang/String" "value" "[B") (.int 67)) (.int 32) : Cond)).before args s = true := flat_of_before _ h _ (by decide +kernel)
set_option maxRecDepth 100000 in
theorem st_cs {args : Array Value} {s : State} (h : (Jvm.Cond.and given_1 narrow_1).before args s = true) : ((.eq (.static "java/lang/String" "COMPACT_STRINGS" "Z") (.int 1) : Cond)).before args s = true := flat_of_before _ h _ (by decide +kernel)
set_option maxRecDepth 100000 in
theorem st_si {args : Array Value} {s : State} (h : (Jvm.Cond.and given_1 narrow_1).before args s = true) : ((.isRef (.static "jdk/internal/util/Preconditions" "SIOOBE_FORMATTER" "Ljava/util/function/BiFunction;") : Cond)).before args s = true := flat_of_before _ h _ (by decide +kernel)
set_option maxRecDepth 100000 in
theorem st_aa {args : Array Value} {s : State} (h : (Jvm.Cond.and given_1 narrow_1).before args s = true) : ((.arrayOf (.static "ClosedUntil$TextReader" "ASKED_OF" "[I") .int : Cond)).before args s = true := flat_of_before _ h _ (by decide +kernel)
set_option maxRecDepth 100000 in
theorem st_al {args : Array Value} {s : State} (h : (Jvm.Cond.and given_1 narrow_1).before args s = true) : ((.eq (.length (.static "ClosedUntil$TextReader" "ASKED_OF" "[I")) (.int 4) : Cond)).before args s = true := flat_of_before _ h _ (by decide +kernel)
set_option maxRecDepth 100000 in
theorem st_a0 {args : Array Value} {s : State} (h : (Jvm.Cond.and given_1 narrow_1).before args s = true) : ((.eq (.elem (.static "ClosedUntil$TextReader" "ASKED_OF" "[I") (.int 0)) (.int 4) : Cond)).before args s = true := flat_of_before _ h _ (by decide +kernel)
set_option maxRecDepth 100000 in
theorem st_a1 {args : Array Value} {s : State} (h : (Jvm.Cond.and given_1 narrow_1).before args s = true) : ((.eq (.elem (.static "ClosedUntil$TextReader" "ASKED_OF" "[I") (.int 1)) (.int 0) : Cond)).before args s = true := flat_of_before _ h _ (by decide +kernel)
set_option maxRecDepth 100000 in
theorem st_a2 {args : Array Value} {s : State} (h : (Jvm.Cond.and given_1 narrow_1).before args s = true) : ((.eq (.elem (.static "ClosedUntil$TextReader" "ASKED_OF" "[I") (.int 2)) (.int 3) : Cond)).before args s = true := flat_of_before _ h _ (by decide +kernel)
set_option maxRecDepth 100000 in
theorem st_a3 {args : Array Value} {s : State} (h : (Jvm.Cond.and given_1 narrow_1).before args s = true) : ((.eq (.elem (.static "ClosedUntil$TextReader" "ASKED_OF" "[I") (.int 3)) (.int 4) : Cond)).before args s = true := flat_of_before _ h _ (by decide +kernel)
set_option maxRecDepth 100000 in
theorem sx0_x {args : Array Value} {s : State} (h : (Jvm.Cond.and given_1 narrow_1).before args s = true) : ((.exactly (.string "ClosedUntilModel" 205) "java/lang/String" : Cond)).before args s = true := flat_of_before _ h _ (by decide +kernel)
set_option maxRecDepth 100000 in
theorem sx0_c {args : Array Value} {s : State} (h : (Jvm.Cond.and given_1 narrow_1).before args s = true) : ((.eq (.field (.string "ClosedUntilModel" 205) "java/lang/String" "coder" "B") (.int 0) : Cond)).before args s = true := flat_of_before _ h _ (by decide +kernel)
set_option maxRecDepth 100000 in
theorem sx0_a {args : Array Value} {s : State} (h : (Jvm.Cond.and given_1 narrow_1).before args s = true) : ((.arrayOf (.field (.string "ClosedUntilModel" 205) "java/lang/String" "value" "[B") .byte : Cond)).before args s = true := flat_of_before _ h _ (by decide +kernel)
set_option maxRecDepth 100000 in
theorem sx0_l {args : Array Value} {s : State} (h : (Jvm.Cond.and given_1 narrow_1).before args s = true) : ((.eq (.length (.field (.string "ClosedUntilModel" 205) "java/lang/String" "value" "[B")) (.int 6) : Cond)).before args s = true := flat_of_before _ h _ (by decide +kernel)
set_option maxRecDepth 100000 in
theorem sx0_0 {args : Array Value} {s : State} (h : (Jvm.Cond.and given_1 narrow_1).before args s = true) : ((.eq (.elem (.field (.string "ClosedUntilModel" 205) "java/lang/String" "value" "[B") (.int 0)) (.int 112) : Cond)).before args s = true := flat_of_before _ h _ (by decide +kernel)
set_option maxRecDepth 100000 in
theorem sx0_1 {args : Array Value} {s : State} (h : (Jvm.Cond.and given_1 narrow_1).before args s = true) : ((.eq (.elem (.field (.string "ClosedUntilModel" 205) "java/lang/String" "value" "[B") (.int 1)) (.int 101) : Cond)).before args s = true := flat_of_before _ h _ (by decide +kernel)
set_option maxRecDepth 100000 in
theorem sx0_2 {args : Array Value} {s : State} (h : (Jvm.Cond.and given_1 narrow_1).before args s = true) : ((.eq (.elem (.field (.string "ClosedUntilModel" 205) "java/lang/String" "value" "[B") (.int 2)) (.int 114) : Cond)).before args s = true := flat_of_before _ h _ (by decide +kernel)
set_option maxRecDepth 100000 in
theorem sx0_3 {args : Array Value} {s : State} (h : (Jvm.Cond.and given_1 narrow_1).before args s = true) : ((.eq (.elem (.field (.string "ClosedUntilModel" 205) "java/lang/String" "value" "[B") (.int 3)) (.int 115) : Cond)).before args s = true := flat_of_before _ h _ (by decide +kernel)
set_option maxRecDepth 100000 in
theorem sx0_4 {args : Array Value} {s : State} (h : (Jvm.Cond.and given_1 narrow_1).before args s = true) : ((.eq (.elem (.field (.string "ClosedUntilModel" 205) "java/lang/String" "value" "[B") (.int 4)) (.int 111) : Cond)).before args s = true := flat_of_before _ h _ (by decide +kernel)
set_option maxRecDepth 100000 in
theorem sx0_5 {args : Array Value} {s : State} (h : (Jvm.Cond.and given_1 narrow_1).before args s = true) : ((.eq (.elem (.field (.string "ClosedUntilModel" 205) "java/lang/String" "value" "[B") (.int 5)) (.int 110) : Cond)).before args s = true := flat_of_before _ h _ (by decide +kernel)
set_option maxRecDepth 100000 in
theorem sx1_x {args : Array Value} {s : State} (h : (Jvm.Cond.and given_1 narrow_1).before args s = true) : ((.exactly (.string "ClosedUntilModel" 211) "java/lang/String" : Cond)).before args s = true := flat_of_before _ h _ (by decide +kernel)
set_option maxRecDepth 100000 in
theorem sx1_c {args : Array Value} {s : State} (h : (Jvm.Cond.and given_1 narrow_1).before args s = true) : ((.eq (.field (.string "ClosedUntilModel" 211) "java/lang/String" "coder" "B") (.int 0) : Cond)).before args s = true := flat_of_before _ h _ (by decide +kernel)
set_option maxRecDepth 100000 in
theorem sx1_a {args : Array Value} {s : State} (h : (Jvm.Cond.and given_1 narrow_1).before args s = true) : ((.arrayOf (.field (.string "ClosedUntilModel" 211) "java/lang/String" "value" "[B") .byte : Cond)).before args s = true := flat_of_before _ h _ (by decide +kernel)
set_option maxRecDepth 100000 in
theorem sx1_l {args : Array Value} {s : State} (h : (Jvm.Cond.and given_1 narrow_1).before args s = true) : ((.eq (.length (.field (.string "ClosedUntilModel" 211) "java/lang/String" "value" "[B")) (.int 4) : Cond)).before args s = true := flat_of_before _ h _ (by decide +kernel)
set_option maxRecDepth 100000 in
theorem sx1_0 {args : Array Value} {s : State} (h : (Jvm.Cond.and given_1 narrow_1).before args s = true) : ((.eq (.elem (.field (.string "ClosedUntilModel" 211) "java/lang/String" "value" "[B") (.int 0)) (.int 98) : Cond)).before args s = true := flat_of_before _ h _ (by decide +kernel)
set_option maxRecDepth 100000 in
theorem sx1_1 {args : Array Value} {s : State} (h : (Jvm.Cond.and given_1 narrow_1).before args s = true) : ((.eq (.elem (.field (.string "ClosedUntilModel" 211) "java/lang/String" "value" "[B") (.int 1)) (.int 111) : Cond)).before args s = true := flat_of_before _ h _ (by decide +kernel)
set_option maxRecDepth 100000 in
theorem sx1_2 {args : Array Value} {s : State} (h : (Jvm.Cond.and given_1 narrow_1).before args s = true) : ((.eq (.elem (.field (.string "ClosedUntilModel" 211) "java/lang/String" "value" "[B") (.int 2)) (.int 114) : Cond)).before args s = true := flat_of_before _ h _ (by decide +kernel)
set_option maxRecDepth 100000 in
theorem sx1_3 {args : Array Value} {s : State} (h : (Jvm.Cond.and given_1 narrow_1).before args s = true) : ((.eq (.elem (.field (.string "ClosedUntilModel" 211) "java/lang/String" "value" "[B") (.int 3)) (.int 110) : Cond)).before args s = true := flat_of_before _ h _ (by decide +kernel)
set_option maxRecDepth 100000 in
theorem sx2_x {args : Array Value} {s : State} (h : (Jvm.Cond.and given_1 narrow_1).before args s = true) : ((.exactly (.string "ClosedUntilModel" 213) "java/lang/String" : Cond)).before args s = true := flat_of_before _ h _ (by decide +kernel)
set_option maxRecDepth 100000 in
theorem sx2_c {args : Array Value} {s : State} (h : (Jvm.Cond.and given_1 narrow_1).before args s = true) : ((.eq (.field (.string "ClosedUntilModel" 213) "java/lang/String" "coder" "B") (.int 0) : Cond)).before args s = true := flat_of_before _ h _ (by decide +kernel)
set_option maxRecDepth 100000 in
theorem sx2_a {args : Array Value} {s : State} (h : (Jvm.Cond.and given_1 narrow_1).before args s = true) : ((.arrayOf (.field (.string "ClosedUntilModel" 213) "java/lang/String" "value" "[B") .byte : Cond)).before args s = true := flat_of_before _ h _ (by decide +kernel)
set_option maxRecDepth 100000 in
theorem sx2_l {args : Array Value} {s : State} (h : (Jvm.Cond.and given_1 narrow_1).before args s = true) : ((.eq (.length (.field (.string "ClosedUntilModel" 213) "java/lang/String" "value" "[B")) (.int 4) : Cond)).before args s = true := flat_of_before _ h _ (by decide +kernel)
set_option maxRecDepth 100000 in
theorem sx2_0 {args : Array Value} {s : State} (h : (Jvm.Cond.and given_1 narrow_1).before args s = true) : ((.eq (.elem (.field (.string "ClosedUntilModel" 213) "java/lang/String" "value" "[B") (.int 0)) (.int 100) : Cond)).before args s = true := flat_of_before _ h _ (by decide +kernel)
set_option maxRecDepth 100000 in
theorem sx2_1 {args : Array Value} {s : State} (h : (Jvm.Cond.and given_1 narrow_1).before args s = true) : ((.eq (.elem (.field (.string "ClosedUntilModel" 213) "java/lang/String" "value" "[B") (.int 1)) (.int 105) : Cond)).before args s = true := flat_of_before _ h _ (by decide +kernel)
set_option maxRecDepth 100000 in
theorem sx2_2 {args : Array Value} {s : State} (h : (Jvm.Cond.and given_1 narrow_1).before args s = true) : ((.eq (.elem (.field (.string "ClosedUntilModel" 213) "java/lang/String" "value" "[B") (.int 2)) (.int 101) : Cond)).before args s = true := flat_of_before _ h _ (by decide +kernel)
set_option maxRecDepth 100000 in
theorem sx2_3 {args : Array Value} {s : State} (h : (Jvm.Cond.and given_1 narrow_1).before args s = true) : ((.eq (.elem (.field (.string "ClosedUntilModel" 213) "java/lang/String" "value" "[B") (.int 3)) (.int 100) : Cond)).before args s = true := flat_of_before _ h _ (by decide +kernel)
set_option maxRecDepth 100000 in
theorem sx3_x {args : Array Value} {s : State} (h : (Jvm.Cond.and given_1 narrow_1).before args s = true) : ((.exactly (.string "ClosedUntilModel" 215) "java/lang/String" : Cond)).before args s = true := flat_of_before _ h _ (by decide +kernel)
set_option maxRecDepth 100000 in
theorem sx3_c {args : Array Value} {s : State} (h : (Jvm.Cond.and given_1 narrow_1).before args s = true) : ((.eq (.field (.string "ClosedUntilModel" 215) "java/lang/String" "coder" "B") (.int 0) : Cond)).before args s = true := flat_of_before _ h _ (by decide +kernel)
set_option maxRecDepth 100000 in
theorem sx3_a {args : Array Value} {s : State} (h : (Jvm.Cond.and given_1 narrow_1).before args s = true) : ((.arrayOf (.field (.string "ClosedUntilModel" 215) "java/lang/String" "value" "[B") .byte : Cond)).before args s = true := flat_of_before _ h _ (by decide +kernel)
set_option maxRecDepth 100000 in
theorem sx3_l {args : Array Value} {s : State} (h : (Jvm.Cond.and given_1 narrow_1).before args s = true) : ((.eq (.length (.field (.string "ClosedUntilModel" 215) "java/lang/String" "value" "[B")) (.int 7) : Cond)).before args s = true := flat_of_before _ h _ (by decide +kernel)
set_option maxRecDepth 100000 in
theorem sx3_0 {args : Array Value} {s : State} (h : (Jvm.Cond.and given_1 narrow_1).before args s = true) : ((.eq (.elem (.field (.string "ClosedUntilModel" 215) "java/lang/String" "value" "[B") (.int 0)) (.int 100) : Cond)).before args s = true := flat_of_before _ h _ (by decide +kernel)
set_option maxRecDepth 100000 in
theorem sx3_1 {args : Array Value} {s : State} (h : (Jvm.Cond.and given_1 narrow_1).before args s = true) : ((.eq (.elem (.field (.string "ClosedUntilModel" 215) "java/lang/String" "value" "[B") (.int 1)) (.int 101) : Cond)).before args s = true := flat_of_before _ h _ (by decide +kernel)
set_option maxRecDepth 100000 in
theorem sx3_2 {args : Array Value} {s : State} (h : (Jvm.Cond.and given_1 narrow_1).before args s = true) : ((.eq (.elem (.field (.string "ClosedUntilModel" 215) "java/lang/String" "value" "[B") (.int 2)) (.int 112) : Cond)).before args s = true := flat_of_before _ h _ (by decide +kernel)
set_option maxRecDepth 100000 in
theorem sx3_3 {args : Array Value} {s : State} (h : (Jvm.Cond.and given_1 narrow_1).before args s = true) : ((.eq (.elem (.field (.string "ClosedUntilModel" 215) "java/lang/String" "value" "[B") (.int 3)) (.int 111) : Cond)).before args s = true := flat_of_before _ h _ (by decide +kernel)
set_option maxRecDepth 100000 in
theorem sx3_4 {args : Array Value} {s : State} (h : (Jvm.Cond.and given_1 narrow_1).before args s = true) : ((.eq (.elem (.field (.string "ClosedUntilModel" 215) "java/lang/String" "value" "[B") (.int 4)) (.int 115) : Cond)).before args s = true := flat_of_before _ h _ (by decide +kernel)
set_option maxRecDepth 100000 in
theorem sx3_5 {args : Array Value} {s : State} (h : (Jvm.Cond.and given_1 narrow_1).before args s = true) : ((.eq (.elem (.field (.string "ClosedUntilModel" 215) "java/lang/String" "value" "[B") (.int 5)) (.int 105) : Cond)).before args s = true := flat_of_before _ h _ (by decide +kernel)
set_option maxRecDepth 100000 in
theorem sx3_6 {args : Array Value} {s : State} (h : (Jvm.Cond.and given_1 narrow_1).before args s = true) : ((.eq (.elem (.field (.string "ClosedUntilModel" 215) "java/lang/String" "value" "[B") (.int 6)) (.int 116) : Cond)).before args s = true := flat_of_before _ h _ (by decide +kernel)
set_option maxRecDepth 100000 in
theorem sx4_x {args : Array Value} {s : State} (h : (Jvm.Cond.and given_1 narrow_1).before args s = true) : ((.exactly (.string "ClosedUntilModel" 217) "java/lang/String" : Cond)).before args s = true := flat_of_before _ h _ (by decide +kernel)
set_option maxRecDepth 100000 in
theorem sx4_c {args : Array Value} {s : State} (h : (Jvm.Cond.and given_1 narrow_1).before args s = true) : ((.eq (.field (.string "ClosedUntilModel" 217) "java/lang/String" "coder" "B") (.int 0) : Cond)).before args s = true := flat_of_before _ h _ (by decide +kernel)
set_option maxRecDepth 100000 in
theorem sx4_a {args : Array Value} {s : State} (h : (Jvm.Cond.and given_1 narrow_1).before args s = true) : ((.arrayOf (.field (.string "ClosedUntilModel" 217) "java/lang/String" "value" "[B") .byte : Cond)).before args s = true := flat_of_before _ h _ (by decide +kernel)
set_option maxRecDepth 100000 in
theorem sx4_l {args : Array Value} {s : State} (h : (Jvm.Cond.and given_1 narrow_1).before args s = true) : ((.eq (.length (.field (.string "ClosedUntilModel" 217) "java/lang/String" "value" "[B")) (.int 5) : Cond)).before args s = true := flat_of_before _ h _ (by decide +kernel)
set_option maxRecDepth 100000 in
theorem sx4_0 {args : Array Value} {s : State} (h : (Jvm.Cond.and given_1 narrow_1).before args s = true) : ((.eq (.elem (.field (.string "ClosedUntilModel" 217) "java/lang/String" "value" "[B") (.int 0)) (.int 112) : Cond)).before args s = true := flat_of_before _ h _ (by decide +kernel)
set_option maxRecDepth 100000 in
theorem sx4_1 {args : Array Value} {s : State} (h : (Jvm.Cond.and given_1 narrow_1).before args s = true) : ((.eq (.elem (.field (.string "ClosedUntilModel" 217) "java/lang/String" "value" "[B") (.int 1)) (.int 105) : Cond)).before args s = true := flat_of_before _ h _ (by decide +kernel)
set_option maxRecDepth 100000 in
theorem sx4_2 {args : Array Value} {s : State} (h : (Jvm.Cond.and given_1 narrow_1).before args s = true) : ((.eq (.elem (.field (.string "ClosedUntilModel" 217) "java/lang/String" "value" "[B") (.int 2)) (.int 101) : Cond)).before args s = true := flat_of_before _ h _ (by decide +kernel)
set_option maxRecDepth 100000 in
theorem sx4_3 {args : Array Value} {s : State} (h : (Jvm.Cond.and given_1 narrow_1).before args s = true) : ((.eq (.elem (.field (.string "ClosedUntilModel" 217) "java/lang/String" "value" "[B") (.int 3)) (.int 99) : Cond)).before args s = true := flat_of_before _ h _ (by decide +kernel)
set_option maxRecDepth 100000 in
theorem sx4_4 {args : Array Value} {s : State} (h : (Jvm.Cond.and given_1 narrow_1).before args s = true) : ((.eq (.elem (.field (.string "ClosedUntilModel" 217) "java/lang/String" "value" "[B") (.int 4)) (.int 101) : Cond)).before args s = true := flat_of_before _ h _ (by decide +kernel)
set_option maxRecDepth 100000 in
theorem sx5_x {args : Array Value} {s : State} (h : (Jvm.Cond.and given_1 narrow_1).before args s = true) : ((.exactly (.string "ClosedUntilModel" 219) "java/lang/String" : Cond)).before args s = true := flat_of_before _ h _ (by decide +kernel)
set_option maxRecDepth 100000 in
theorem sx5_c {args : Array Value} {s : State} (h : (Jvm.Cond.and given_1 narrow_1).before args s = true) : ((.eq (.field (.string "ClosedUntilModel" 219) "java/lang/String" "coder" "B") (.int 0) : Cond)).before args s = true := flat_of_before _ h _ (by decide +kernel)
set_option maxRecDepth 100000 in
theorem sx5_a {args : Array Value} {s : State} (h : (Jvm.Cond.and given_1 narrow_1).before args s = true) : ((.arrayOf (.field (.string "ClosedUntilModel" 219) "java/lang/String" "value" "[B") .byte : Cond)).before args s = true := flat_of_before _ h _ (by decide +kernel)
set_option maxRecDepth 100000 in
theorem sx5_l {args : Array Value} {s : State} (h : (Jvm.Cond.and given_1 narrow_1).before args s = true) : ((.eq (.length (.field (.string "ClosedUntilModel" 219) "java/lang/String" "value" "[B")) (.int 2) : Cond)).before args s = true := flat_of_before _ h _ (by decide +kernel)
set_option maxRecDepth 100000 in
theorem sx5_0 {args : Array Value} {s : State} (h : (Jvm.Cond.and given_1 narrow_1).before args s = true) : ((.eq (.elem (.field (.string "ClosedUntilModel" 219) "java/lang/String" "value" "[B") (.int 0)) (.int 105) : Cond)).before args s = true := flat_of_before _ h _ (by decide +kernel)
set_option maxRecDepth 100000 in
theorem sx5_1 {args : Array Value} {s : State} (h : (Jvm.Cond.and given_1 narrow_1).before args s = true) : ((.eq (.elem (.field (.string "ClosedUntilModel" 219) "java/lang/String" "value" "[B") (.int 1)) (.int 110) : Cond)).before args s = true := flat_of_before _ h _ (by decide +kernel)
set_option maxRecDepth 100000 in
theorem sx6_x {args : Array Value} {s : State} (h : (Jvm.Cond.and given_1 narrow_1).before args s = true) : ((.exactly (.string "ClosedUntilModel" 221) "java/lang/String" : Cond)).before args s = true := flat_of_before _ h _ (by decide +kernel)
set_option maxRecDepth 100000 in
theorem sx6_c {args : Array Value} {s : State} (h : (Jvm.Cond.and given_1 narrow_1).before args s = true) : ((.eq (.field (.string "ClosedUntilModel" 221) "java/lang/String" "coder" "B") (.int 0) : Cond)).before args s = true := flat_of_before _ h _ (by decide +kernel)
set_option maxRecDepth 100000 in
theorem sx6_a {args : Array Value} {s : State} (h : (Jvm.Cond.and given_1 narrow_1).before args s = true) : ((.arrayOf (.field (.string "ClosedUntilModel" 221) "java/lang/String" "value" "[B") .byte : Cond)).before args s = true := flat_of_before _ h _ (by decide +kernel)
set_option maxRecDepth 100000 in
theorem sx6_l {args : Array Value} {s : State} (h : (Jvm.Cond.and given_1 narrow_1).before args s = true) : ((.eq (.length (.field (.string "ClosedUntilModel" 221) "java/lang/String" "value" "[B")) (.int 2) : Cond)).before args s = true := flat_of_before _ h _ (by decide +kernel)
set_option maxRecDepth 100000 in
theorem sx6_0 {args : Array Value} {s : State} (h : (Jvm.Cond.and given_1 narrow_1).before args s = true) : ((.eq (.elem (.field (.string "ClosedUntilModel" 221) "java/lang/String" "value" "[B") (.int 0)) (.int 111) : Cond)).before args s = true := flat_of_before _ h _ (by decide +kernel)
set_option maxRecDepth 100000 in
theorem sx6_1 {args : Array Value} {s : State} (h : (Jvm.Cond.and given_1 narrow_1).before args s = true) : ((.eq (.elem (.field (.string "ClosedUntilModel" 221) "java/lang/String" "value" "[B") (.int 1)) (.int 102) : Cond)).before args s = true := flat_of_before _ h _ (by decide +kernel)
set_option maxRecDepth 100000 in
theorem sx7_x {args : Array Value} {s : State} (h : (Jvm.Cond.and given_1 narrow_1).before args s = true) : ((.exactly (.string "ClosedUntilModel" 223) "java/lang/String" : Cond)).before args s = true := flat_of_before _ h _ (by decide +kernel)
set_option maxRecDepth 100000 in
theorem sx7_c {args : Array Value} {s : State} (h : (Jvm.Cond.and given_1 narrow_1).before args s = true) : ((.eq (.field (.string "ClosedUntilModel" 223) "java/lang/String" "coder" "B") (.int 0) : Cond)).before args s = true := flat_of_before _ h _ (by decide +kernel)
set_option maxRecDepth 100000 in
theorem sx7_a {args : Array Value} {s : State} (h : (Jvm.Cond.and given_1 narrow_1).before args s = true) : ((.arrayOf (.field (.string "ClosedUntilModel" 223) "java/lang/String" "value" "[B") .byte : Cond)).before args s = true := flat_of_before _ h _ (by decide +kernel)
set_option maxRecDepth 100000 in
theorem sx7_l {args : Array Value} {s : State} (h : (Jvm.Cond.and given_1 narrow_1).before args s = true) : ((.eq (.length (.field (.string "ClosedUntilModel" 223) "java/lang/String" "value" "[B")) (.int 4) : Cond)).before args s = true := flat_of_before _ h _ (by decide +kernel)
set_option maxRecDepth 100000 in
theorem sx7_0 {args : Array Value} {s : State} (h : (Jvm.Cond.and given_1 narrow_1).before args s = true) : ((.eq (.elem (.field (.string "ClosedUntilModel" 223) "java/lang/String" "value" "[B") (.int 0)) (.int 102) : Cond)).before args s = true := flat_of_before _ h _ (by decide +kernel)
set_option maxRecDepth 100000 in
theorem sx7_1 {args : Array Value} {s : State} (h : (Jvm.Cond.and given_1 narrow_1).before args s = true) : ((.eq (.elem (.field (.string "ClosedUntilModel" 223) "java/lang/String" "value" "[B") (.int 1)) (.int 114) : Cond)).before args s = true := flat_of_before _ h _ (by decide +kernel)
set_option maxRecDepth 100000 in
theorem sx7_2 {args : Array Value} {s : State} (h : (Jvm.Cond.and given_1 narrow_1).before args s = true) : ((.eq (.elem (.field (.string "ClosedUntilModel" 223) "java/lang/String" "value" "[B") (.int 2)) (.int 111) : Cond)).before args s = true := flat_of_before _ h _ (by decide +kernel)
set_option maxRecDepth 100000 in
theorem sx7_3 {args : Array Value} {s : State} (h : (Jvm.Cond.and given_1 narrow_1).before args s = true) : ((.eq (.elem (.field (.string "ClosedUntilModel" 223) "java/lang/String" "value" "[B") (.int 3)) (.int 109) : Cond)).before args s = true := flat_of_before _ h _ (by decide +kernel)
set_option maxRecDepth 100000 in
theorem sx8_x {args : Array Value} {s : State} (h : (Jvm.Cond.and given_1 narrow_1).before args s = true) : ((.exactly (.string "ClosedUntilModel" 224) "java/lang/String" : Cond)).before args s = true := flat_of_before _ h _ (by decide +kernel)
set_option maxRecDepth 100000 in
theorem sx8_c {args : Array Value} {s : State} (h : (Jvm.Cond.and given_1 narrow_1).before args s = true) : ((.eq (.field (.string "ClosedUntilModel" 224) "java/lang/String" "coder" "B") (.int 0) : Cond)).before args s = true := flat_of_before _ h _ (by decide +kernel)
set_option maxRecDepth 100000 in
theorem sx8_a {args : Array Value} {s : State} (h : (Jvm.Cond.and given_1 narrow_1).before args s = true) : ((.arrayOf (.field (.string "ClosedUntilModel" 224) "java/lang/String" "value" "[B") .byte : Cond)).before args s = true := flat_of_before _ h _ (by decide +kernel)
set_option maxRecDepth 100000 in
theorem sx8_l {args : Array Value} {s : State} (h : (Jvm.Cond.and given_1 narrow_1).before args s = true) : ((.eq (.length (.field (.string "ClosedUntilModel" 224) "java/lang/String" "value" "[B")) (.int 5) : Cond)).before args s = true := flat_of_before _ h _ (by decide +kernel)
set_option maxRecDepth 100000 in
theorem sx8_0 {args : Array Value} {s : State} (h : (Jvm.Cond.and given_1 narrow_1).before args s = true) : ((.eq (.elem (.field (.string "ClosedUntilModel" 224) "java/lang/String" "value" "[B") (.int 0)) (.int 99) : Cond)).before args s = true := flat_of_before _ h _ (by decide +kernel)
set_option maxRecDepth 100000 in
theorem sx8_1 {args : Array Value} {s : State} (h : (Jvm.Cond.and given_1 narrow_1).before args s = true) : ((.eq (.elem (.field (.string "ClosedUntilModel" 224) "java/lang/String" "value" "[B") (.int 1)) (.int 108) : Cond)).before args s = true := flat_of_before _ h _ (by decide +kernel)
set_option maxRecDepth 100000 in
theorem sx8_2 {args : Array Value} {s : State} (h : (Jvm.Cond.and given_1 narrow_1).before args s = true) : ((.eq (.elem (.field (.string "ClosedUntilModel" 224) "java/lang/String" "value" "[B") (.int 2)) (.int 111) : Cond)).before args s = true := flat_of_before _ h _ (by decide +kernel)
set_option maxRecDepth 100000 in
theorem sx8_3 {args : Array Value} {s : State} (h : (Jvm.Cond.and given_1 narrow_1).before args s = true) : ((.eq (.elem (.field (.string "ClosedUntilModel" 224) "java/lang/String" "value" "[B") (.int 3)) (.int 115) : Cond)).before args s = true := flat_of_before _ h _ (by decide +kernel)
set_option maxRecDepth 100000 in
theorem sx8_4 {args : Array Value} {s : State} (h : (Jvm.Cond.and given_1 narrow_1).before args s = true) : ((.eq (.elem (.field (.string "ClosedUntilModel" 224) "java/lang/String" "value" "[B") (.int 4)) (.int 101) : Cond)).before args s = true := flat_of_before _ h _ (by decide +kernel)
set_option maxRecDepth 100000 in
theorem sx9_x {args : Array Value} {s : State} (h : (Jvm.Cond.and given_1 narrow_1).before args s = true) : ((.exactly (.string "ClosedUntilModel" 226) "java/lang/String" : Cond)).before args s = true := flat_of_before _ h _ (by decide +kernel)
set_option maxRecDepth 100000 in
theorem sx9_c {args : Array Value} {s : State} (h : (Jvm.Cond.and given_1 narrow_1).before args s = true) : ((.eq (.field (.string "ClosedUntilModel" 226) "java/lang/String" "coder" "B") (.int 0) : Cond)).before args s = true := flat_of_before _ h _ (by decide +kernel)
set_option maxRecDepth 100000 in
theorem sx9_a {args : Array Value} {s : State} (h : (Jvm.Cond.and given_1 narrow_1).before args s = true) : ((.arrayOf (.field (.string "ClosedUntilModel" 226) "java/lang/String" "value" "[B") .byte : Cond)).before args s = true := flat_of_before _ h _ (by decide +kernel)
set_option maxRecDepth 100000 in
theorem sx9_l {args : Array Value} {s : State} (h : (Jvm.Cond.and given_1 narrow_1).before args s = true) : ((.eq (.length (.field (.string "ClosedUntilModel" 226) "java/lang/String" "value" "[B")) (.int 7) : Cond)).before args s = true := flat_of_before _ h _ (by decide +kernel)
set_option maxRecDepth 100000 in
theorem sx9_0 {args : Array Value} {s : State} (h : (Jvm.Cond.and given_1 narrow_1).before args s = true) : ((.eq (.elem (.field (.string "ClosedUntilModel" 226) "java/lang/String" "value" "[B") (.int 0)) (.int 99) : Cond)).before args s = true := flat_of_before _ h _ (by decide +kernel)
set_option maxRecDepth 100000 in
theorem sx9_1 {args : Array Value} {s : State} (h : (Jvm.Cond.and given_1 narrow_1).before args s = true) : ((.eq (.elem (.field (.string "ClosedUntilModel" 226) "java/lang/String" "value" "[B") (.int 1)) (.int 111) : Cond)).before args s = true := flat_of_before _ h _ (by decide +kernel)
set_option maxRecDepth 100000 in
theorem sx9_2 {args : Array Value} {s : State} (h : (Jvm.Cond.and given_1 narrow_1).before args s = true) : ((.eq (.elem (.field (.string "ClosedUntilModel" 226) "java/lang/String" "value" "[B") (.int 2)) (.int 110) : Cond)).before args s = true := flat_of_before _ h _ (by decide +kernel)
set_option maxRecDepth 100000 in
theorem sx9_3 {args : Array Value} {s : State} (h : (Jvm.Cond.and given_1 narrow_1).before args s = true) : ((.eq (.elem (.field (.string "ClosedUntilModel" 226) "java/lang/String" "value" "[B") (.int 3)) (.int 116) : Cond)).before args s = true := flat_of_before _ h _ (by decide +kernel)
set_option maxRecDepth 100000 in
theorem sx9_4 {args : Array Value} {s : State} (h : (Jvm.Cond.and given_1 narrow_1).before args s = true) : ((.eq (.elem (.field (.string "ClosedUntilModel" 226) "java/lang/String" "value" "[B") (.int 4)) (.int 101) : Cond)).before args s = true := flat_of_before _ h _ (by decide +kernel)
set_option maxRecDepth 100000 in
theorem sx9_5 {args : Array Value} {s : State} (h : (Jvm.Cond.and given_1 narrow_1).before args s = true) : ((.eq (.elem (.field (.string "ClosedUntilModel" 226) "java/lang/String" "value" "[B") (.int 5)) (.int 110) : Cond)).before args s = true := flat_of_before _ h _ (by decide +kernel)
set_option maxRecDepth 100000 in
theorem sx9_6 {args : Array Value} {s : State} (h : (Jvm.Cond.and given_1 narrow_1).before args s = true) : ((.eq (.elem (.field (.string "ClosedUntilModel" 226) "java/lang/String" "value" "[B") (.int 6)) (.int 116) : Cond)).before args s = true := flat_of_before _ h _ (by decide +kernel)
set_option maxRecDepth 100000 in
theorem sx10_x {args : Array Value} {s : State} (h : (Jvm.Cond.and given_1 narrow_1).before args s = true) : ((.exactly (.string "ClosedUntilModel" 228) "java/lang/String" : Cond)).before args s = true := flat_of_before _ h _ (by decide +kernel)
set_option maxRecDepth 100000 in
theorem sx10_c {args : Array Value} {s : State} (h : (Jvm.Cond.and given_1 narrow_1).before args s = true) : ((.eq (.field (.string "ClosedUntilModel" 228) "java/lang/String" "coder" "B") (.int 0) : Cond)).before args s = true := flat_of_before _ h _ (by decide +kernel)
set_option maxRecDepth 100000 in
theorem sx10_a {args : Array Value} {s : State} (h : (Jvm.Cond.and given_1 narrow_1).before args s = true) : ((.arrayOf (.field (.string "ClosedUntilModel" 228) "java/lang/String" "value" "[B") .byte : Cond)).before args s = true := flat_of_before _ h _ (by decide +kernel)
set_option maxRecDepth 100000 in
theorem sx10_l {args : Array Value} {s : State} (h : (Jvm.Cond.and given_1 narrow_1).before args s = true) : ((.eq (.length (.field (.string "ClosedUntilModel" 228) "java/lang/String" "value" "[B")) (.int 5) : Cond)).before args s = true := flat_of_before _ h _ (by decide +kernel)
set_option maxRecDepth 100000 in
theorem sx10_0 {args : Array Value} {s : State} (h : (Jvm.Cond.and given_1 narrow_1).before args s = true) : ((.eq (.elem (.field (.string "ClosedUntilModel" 228) "java/lang/String" "value" "[B") (.int 0)) (.int 117) : Cond)).before args s = true := flat_of_before _ h _ (by decide +kernel)
set_option maxRecDepth 100000 in
theorem sx10_1 {args : Array Value} {s : State} (h : (Jvm.Cond.and given_1 narrow_1).before args s = true) : ((.eq (.elem (.field (.string "ClosedUntilModel" 228) "java/lang/String" "value" "[B") (.int 1)) (.int 110) : Cond)).before args s = true := flat_of_before _ h _ (by decide +kernel)
set_option maxRecDepth 100000 in
theorem sx10_2 {args : Array Value} {s : State} (h : (Jvm.Cond.and given_1 narrow_1).before args s = true) : ((.eq (.elem (.field (.string "ClosedUntilModel" 228) "java/lang/String" "value" "[B") (.int 2)) (.int 116) : Cond)).before args s = true := flat_of_before _ h _ (by decide +kernel)
set_option maxRecDepth 100000 in
theorem sx10_3 {args : Array Value} {s : State} (h : (Jvm.Cond.and given_1 narrow_1).before args s = true) : ((.eq (.elem (.field (.string "ClosedUntilModel" 228) "java/lang/String" "value" "[B") (.int 3)) (.int 105) : Cond)).before args s = true := flat_of_before _ h _ (by decide +kernel)
set_option maxRecDepth 100000 in
theorem sx10_4 {args : Array Value} {s : State} (h : (Jvm.Cond.and given_1 narrow_1).before args s = true) : ((.eq (.elem (.field (.string "ClosedUntilModel" 228) "java/lang/String" "value" "[B") (.int 4)) (.int 108) : Cond)).before args s = true := flat_of_before _ h _ (by decide +kernel)
set_option maxRecDepth 100000 in
theorem sx11_x {args : Array Value} {s : State} (h : (Jvm.Cond.and given_1 narrow_1).before args s = true) : ((.exactly (.string "ClosedUntilModel" 230) "java/lang/String" : Cond)).before args s = true := flat_of_before _ h _ (by decide +kernel)
set_option maxRecDepth 100000 in
theorem sx11_c {args : Array Value} {s : State} (h : (Jvm.Cond.and given_1 narrow_1).before args s = true) : ((.eq (.field (.string "ClosedUntilModel" 230) "java/lang/String" "coder" "B") (.int 0) : Cond)).before args s = true := flat_of_before _ h _ (by decide +kernel)
set_option maxRecDepth 100000 in
theorem sx11_a {args : Array Value} {s : State} (h : (Jvm.Cond.and given_1 narrow_1).before args s = true) : ((.arrayOf (.field (.string "ClosedUntilModel" 230) "java/lang/String" "value" "[B") .byte : Cond)).before args s = true := flat_of_before _ h _ (by decide +kernel)
set_option maxRecDepth 100000 in
theorem sx11_l {args : Array Value} {s : State} (h : (Jvm.Cond.and given_1 narrow_1).before args s = true) : ((.eq (.length (.field (.string "ClosedUntilModel" 230) "java/lang/String" "value" "[B")) (.int 5) : Cond)).before args s = true := flat_of_before _ h _ (by decide +kernel)
set_option maxRecDepth 100000 in
theorem sx11_0 {args : Array Value} {s : State} (h : (Jvm.Cond.and given_1 narrow_1).before args s = true) : ((.eq (.elem (.field (.string "ClosedUntilModel" 230) "java/lang/String" "value" "[B") (.int 0)) (.int 119) : Cond)).before args s = true := flat_of_before _ h _ (by decide +kernel)
set_option maxRecDepth 100000 in
theorem sx11_1 {args : Array Value} {s : State} (h : (Jvm.Cond.and given_1 narrow_1).before args s = true) : ((.eq (.elem (.field (.string "ClosedUntilModel" 230) "java/lang/String" "value" "[B") (.int 1)) (.int 104) : Cond)).before args s = true := flat_of_before _ h _ (by decide +kernel)
set_option maxRecDepth 100000 in
theorem sx11_2 {args : Array Value} {s : State} (h : (Jvm.Cond.and given_1 narrow_1).before args s = true) : ((.eq (.elem (.field (.string "ClosedUntilModel" 230) "java/lang/String" "value" "[B") (.int 2)) (.int 111) : Cond)).before args s = true := flat_of_before _ h _ (by decide +kernel)
set_option maxRecDepth 100000 in
theorem sx11_3 {args : Array Value} {s : State} (h : (Jvm.Cond.and given_1 narrow_1).before args s = true) : ((.eq (.elem (.field (.string "ClosedUntilModel" 230) "java/lang/String" "value" "[B") (.int 3)) (.int 108) : Cond)).before args s = true := flat_of_before _ h _ (by decide +kernel)
set_option maxRecDepth 100000 in
theorem sx11_4 {args : Array Value} {s : State} (h : (Jvm.Cond.and given_1 narrow_1).before args s = true) : ((.eq (.elem (.field (.string "ClosedUntilModel" 230) "java/lang/String" "value" "[B") (.int 4)) (.int 101) : Cond)).before args s = true := flat_of_before _ h _ (by decide +kernel)
set_option maxHeartbeats 4000000 in
set_option maxRecDepth 100000 in
theorem tx_0 {s : State} {b : Nat} (hgv : (Jvm.Cond.and given_1 narrow_1).before #[Value.ref b] s = true) (hts : ∀ w ∈ lw_tbl, w.before #[Value.ref b] s = true) (hA : ∀ a : Nat, a < s.heap.size → ¬ (fun q : Nat => s.heap.size ≤ q) a) : ∃ aK aV : Nat, (va_O "java/lang/String" aK (fun q : Nat => s.heap.size ≤ q) s s.heap ∧ va_OF "java/lang/String" "coder" "B" (.int 0) aK (fun q : Nat => s.heap.size ≤ q) s s.heap ∧ va_OF "java/lang/String" "value" "[B" (.ref aV) aK (fun q : Nat => s.heap.size ≤ q) s s.heap ∧ va_T .byte aV 6 (fun j => .int (([112, 101, 114, 115, 111, 110] : List Int32).getD j 0)) (fun q : Nat => s.heap.size ≤ q) s s.heap) ∧ vk_R RX9 205 "person" aK s := by
  have hek : ∀ i : Nat, i < 1 → ∀ j : Nat, j < [6].getD i 0 → (Cond.eq (.elem (.field ((fun _ : Nat => Term.string "ClosedUntilModel" 205) i) "java/lang/String" "value" "[B") (.int (Int32.ofNat j))) (.int (([([112, 101, 114, 115, 111, 110] : List Int32)].getD i []).getD j 0))).before #[Value.ref b] s = true := by
    intro i hi j hj
    obtain rfl : i = 0 := by omega
    have hj : j < 6 := hj
    rcases (show j = 0 ∨ j = 1 ∨ j = 2 ∨ j = 3 ∨ j = 4 ∨ j = 5 by omega) with rfl | rfl | rfl | rfl | rfl | rfl
    · exact sx0_0 hgv
    · exact sx0_1 hgv
    · exact sx0_2 hgv
    · exact sx0_3 hgv
    · exact sx0_4 hgv
    · exact sx0_5 hgv
  have hN1 : ∀ i : Nat, i < 1 → [6].getD i 0 < 2 ^ 31 := by
    intro i hi
    obtain rfl : i = 0 := by omega
    decide
  have hle1 : ∀ i : Nat, i < 1 → (Cond.eq (.length (.field ((fun _ : Nat => Term.string "ClosedUntilModel" 205) i) "java/lang/String" "value" "[B")) (.int (Int32.ofNat ([6].getD i 0)))).before #[Value.ref b] s = true := by
    intro i hi
    obtain rfl : i = 0 := by omega
    exact sx0_l hgv
  obtain ⟨adK, adV, hK, hKe⟩ := vk_Sof (s := s) (args := #[Value.ref b]) (N := 1) (tm := fun _ => Term.string "ClosedUntilModel" 205) (len := [6]) (byt := [([112, 101, 114, 115, 111, 110] : List Int32)]) (A := fun q : Nat => s.heap.size ≤ q) hN1 (fun _ _ => sx0_x hgv) (fun _ _ => sx0_c hgv) (fun _ _ => sx0_a hgv) hle1 hek (fun i j hi hj hn => absurd (show i = j by omega) hn) hA
  exact ⟨adK 0, adV 0, hK.1 0 (by omega), vk_R.of (hts (.stringRef "ClosedUntilModel" 205 "person") (List.mem_of_getElem? (i := 1206) (by decide +kernel))) (hKe 0 (by omega))⟩
set_option maxHeartbeats 4000000 in
set_option maxRecDepth 100000 in
theorem tx_1 {s : State} {b : Nat} (hgv : (Jvm.Cond.and given_1 narrow_1).before #[Value.ref b] s = true) (hts : ∀ w ∈ lw_tbl, w.before #[Value.ref b] s = true) (hA : ∀ a : Nat, a < s.heap.size → ¬ (fun q : Nat => s.heap.size ≤ q) a) : ∃ aK aV : Nat, (va_O "java/lang/String" aK (fun q : Nat => s.heap.size ≤ q) s s.heap ∧ va_OF "java/lang/String" "coder" "B" (.int 0) aK (fun q : Nat => s.heap.size ≤ q) s s.heap ∧ va_OF "java/lang/String" "value" "[B" (.ref aV) aK (fun q : Nat => s.heap.size ≤ q) s s.heap ∧ va_T .byte aV 4 (fun j => .int (([98, 111, 114, 110] : List Int32).getD j 0)) (fun q : Nat => s.heap.size ≤ q) s s.heap) ∧ vk_R RX9 211 "born" aK s := by
  have hek : ∀ i : Nat, i < 1 → ∀ j : Nat, j < [4].getD i 0 → (Cond.eq (.elem (.field ((fun _ : Nat => Term.string "ClosedUntilModel" 211) i) "java/lang/String" "value" "[B") (.int (Int32.ofNat j))) (.int (([([98, 111, 114, 110] : List Int32)].getD i []).getD j 0))).before #[Value.ref b] s = true := by
    intro i hi j hj
    obtain rfl : i = 0 := by omega
    have hj : j < 4 := hj
    rcases (show j = 0 ∨ j = 1 ∨ j = 2 ∨ j = 3 by omega) with rfl | rfl | rfl | rfl
    · exact sx1_0 hgv
    · exact sx1_1 hgv
    · exact sx1_2 hgv
    · exact sx1_3 hgv
  have hN1 : ∀ i : Nat, i < 1 → [4].getD i 0 < 2 ^ 31 := by
    intro i hi
    obtain rfl : i = 0 := by omega
    decide
  have hle1 : ∀ i : Nat, i < 1 → (Cond.eq (.length (.field ((fun _ : Nat => Term.string "ClosedUntilModel" 211) i) "java/lang/String" "value" "[B")) (.int (Int32.ofNat ([4].getD i 0)))).before #[Value.ref b] s = true := by
    intro i hi
    obtain rfl : i = 0 := by omega
    exact sx1_l hgv
  obtain ⟨adK, adV, hK, hKe⟩ := vk_Sof (s := s) (args := #[Value.ref b]) (N := 1) (tm := fun _ => Term.string "ClosedUntilModel" 211) (len := [4]) (byt := [([98, 111, 114, 110] : List Int32)]) (A := fun q : Nat => s.heap.size ≤ q) hN1 (fun _ _ => sx1_x hgv) (fun _ _ => sx1_c hgv) (fun _ _ => sx1_a hgv) hle1 hek (fun i j hi hj hn => absurd (show i = j by omega) hn) hA
  exact ⟨adK 0, adV 0, hK.1 0 (by omega), vk_R.of (hts (.stringRef "ClosedUntilModel" 211 "born") (List.mem_of_getElem? (i := 1243) (by decide +kernel))) (hKe 0 (by omega))⟩
set_option maxHeartbeats 4000000 in
set_option maxRecDepth 100000 in
theorem tx_2 {s : State} {b : Nat} (hgv : (Jvm.Cond.and given_1 narrow_1).before #[Value.ref b] s = true) (hts : ∀ w ∈ lw_tbl, w.before #[Value.ref b] s = true) (hA : ∀ a : Nat, a < s.heap.size → ¬ (fun q : Nat => s.heap.size ≤ q) a) : ∃ aK aV : Nat, (va_O "java/lang/String" aK (fun q : Nat => s.heap.size ≤ q) s s.heap ∧ va_OF "java/lang/String" "coder" "B" (.int 0) aK (fun q : Nat => s.heap.size ≤ q) s s.heap ∧ va_OF "java/lang/String" "value" "[B" (.ref aV) aK (fun q : Nat => s.heap.size ≤ q) s s.heap ∧ va_T .byte aV 4 (fun j => .int (([100, 105, 101, 100] : List Int32).getD j 0)) (fun q : Nat => s.heap.size ≤ q) s s.heap) ∧ vk_R RX9 213 "died" aK s := by
  have hek : ∀ i : Nat, i < 1 → ∀ j : Nat, j < [4].getD i 0 → (Cond.eq (.elem (.field ((fun _ : Nat => Term.string "ClosedUntilModel" 213) i) "java/lang/String" "value" "[B") (.int (Int32.ofNat j))) (.int (([([100, 105, 101, 100] : List Int32)].getD i []).getD j 0))).before #[Value.ref b] s = true := by
    intro i hi j hj
    obtain rfl : i = 0 := by omega
    have hj : j < 4 := hj
    rcases (show j = 0 ∨ j = 1 ∨ j = 2 ∨ j = 3 by omega) with rfl | rfl | rfl | rfl
    · exact sx2_0 hgv
    · exact sx2_1 hgv
    · exact sx2_2 hgv
    · exact sx2_3 hgv
  have hN1 : ∀ i : Nat, i < 1 → [4].getD i 0 < 2 ^ 31 := by
    intro i hi
    obtain rfl : i = 0 := by omega
    decide
  have hle1 : ∀ i : Nat, i < 1 → (Cond.eq (.length (.field ((fun _ : Nat => Term.string "ClosedUntilModel" 213) i) "java/lang/String" "value" "[B")) (.int (Int32.ofNat ([4].getD i 0)))).before #[Value.ref b] s = true := by
    intro i hi
    obtain rfl : i = 0 := by omega
    exact sx2_l hgv
  obtain ⟨adK, adV, hK, hKe⟩ := vk_Sof (s := s) (args := #[Value.ref b]) (N := 1) (tm := fun _ => Term.string "ClosedUntilModel" 213) (len := [4]) (byt := [([100, 105, 101, 100] : List Int32)]) (A := fun q : Nat => s.heap.size ≤ q) hN1 (fun _ _ => sx2_x hgv) (fun _ _ => sx2_c hgv) (fun _ _ => sx2_a hgv) hle1 hek (fun i j hi hj hn => absurd (show i = j by omega) hn) hA
  exact ⟨adK 0, adV 0, hK.1 0 (by omega), vk_R.of (hts (.stringRef "ClosedUntilModel" 213 "died") (List.mem_of_getElem? (i := 1244) (by decide +kernel))) (hKe 0 (by omega))⟩
set_option maxHeartbeats 4000000 in
set_option maxRecDepth 100000 in
theorem tx_3 {s : State} {b : Nat} (hgv : (Jvm.Cond.and given_1 narrow_1).before #[Value.ref b] s = true) (hts : ∀ w ∈ lw_tbl, w.before #[Value.ref b] s = true) (hA : ∀ a : Nat, a < s.heap.size → ¬ (fun q : Nat => s.heap.size ≤ q) a) : ∃ aK aV : Nat, (va_O "java/lang/String" aK (fun q : Nat => s.heap.size ≤ q) s s.heap ∧ va_OF "java/lang/String" "coder" "B" (.int 0) aK (fun q : Nat => s.heap.size ≤ q) s s.heap ∧ va_OF "java/lang/String" "value" "[B" (.ref aV) aK (fun q : Nat => s.heap.size ≤ q) s s.heap ∧ va_T .byte aV 7 (fun j => .int (([100, 101, 112, 111, 115, 105, 116] : List Int32).getD j 0)) (fun q : Nat => s.heap.size ≤ q) s s.heap) ∧ vk_R RX9 215 "deposit" aK s := by
  have hek : ∀ i : Nat, i < 1 → ∀ j : Nat, j < [7].getD i 0 → (Cond.eq (.elem (.field ((fun _ : Nat => Term.string "ClosedUntilModel" 215) i) "java/lang/String" "value" "[B") (.int (Int32.ofNat j))) (.int (([([100, 101, 112, 111, 115, 105, 116] : List Int32)].getD i []).getD j 0))).before #[Value.ref b] s = true := by
    intro i hi j hj
    obtain rfl : i = 0 := by omega
    have hj : j < 7 := hj
    rcases (show j = 0 ∨ j = 1 ∨ j = 2 ∨ j = 3 ∨ j = 4 ∨ j = 5 ∨ j = 6 by omega) with rfl | rfl | rfl | rfl | rfl | rfl | rfl
    · exact sx3_0 hgv
    · exact sx3_1 hgv
    · exact sx3_2 hgv
    · exact sx3_3 hgv
    · exact sx3_4 hgv
    · exact sx3_5 hgv
    · exact sx3_6 hgv
  have hN1 : ∀ i : Nat, i < 1 → [7].getD i 0 < 2 ^ 31 := by
    intro i hi
    obtain rfl : i = 0 := by omega
    decide
  have hle1 : ∀ i : Nat, i < 1 → (Cond.eq (.length (.field ((fun _ : Nat => Term.string "ClosedUntilModel" 215) i) "java/lang/String" "value" "[B")) (.int (Int32.ofNat ([7].getD i 0)))).before #[Value.ref b] s = true := by
    intro i hi
    obtain rfl : i = 0 := by omega
    exact sx3_l hgv
  obtain ⟨adK, adV, hK, hKe⟩ := vk_Sof (s := s) (args := #[Value.ref b]) (N := 1) (tm := fun _ => Term.string "ClosedUntilModel" 215) (len := [7]) (byt := [([100, 101, 112, 111, 115, 105, 116] : List Int32)]) (A := fun q : Nat => s.heap.size ≤ q) hN1 (fun _ _ => sx3_x hgv) (fun _ _ => sx3_c hgv) (fun _ _ => sx3_a hgv) hle1 hek (fun i j hi hj hn => absurd (show i = j by omega) hn) hA
  exact ⟨adK 0, adV 0, hK.1 0 (by omega), vk_R.of (hts (.stringRef "ClosedUntilModel" 215 "deposit") (List.mem_of_getElem? (i := 1216) (by decide +kernel))) (hKe 0 (by omega))⟩
set_option maxHeartbeats 4000000 in
set_option maxRecDepth 100000 in
theorem tx_4 {s : State} {b : Nat} (hgv : (Jvm.Cond.and given_1 narrow_1).before #[Value.ref b] s = true) (hts : ∀ w ∈ lw_tbl, w.before #[Value.ref b] s = true) (hA : ∀ a : Nat, a < s.heap.size → ¬ (fun q : Nat => s.heap.size ≤ q) a) : ∃ aK aV : Nat, (va_O "java/lang/String" aK (fun q : Nat => s.heap.size ≤ q) s s.heap ∧ va_OF "java/lang/String" "coder" "B" (.int 0) aK (fun q : Nat => s.heap.size ≤ q) s s.heap ∧ va_OF "java/lang/String" "value" "[B" (.ref aV) aK (fun q : Nat => s.heap.size ≤ q) s s.heap ∧ va_T .byte aV 5 (fun j => .int (([112, 105, 101, 99, 101] : List Int32).getD j 0)) (fun q : Nat => s.heap.size ≤ q) s s.heap) ∧ vk_R RX9 217 "piece" aK s := by
  have hek : ∀ i : Nat, i < 1 → ∀ j : Nat, j < [5].getD i 0 → (Cond.eq (.elem (.field ((fun _ : Nat => Term.string "ClosedUntilModel" 217) i) "java/lang/String" "value" "[B") (.int (Int32.ofNat j))) (.int (([([112, 105, 101, 99, 101] : List Int32)].getD i []).getD j 0))).before #[Value.ref b] s = true := by
    intro i hi j hj
    obtain rfl : i = 0 := by omega
    have hj : j < 5 := hj
    rcases (show j = 0 ∨ j = 1 ∨ j = 2 ∨ j = 3 ∨ j = 4 by omega) with rfl | rfl | rfl | rfl | rfl
    · exact sx4_0 hgv
    · exact sx4_1 hgv
    · exact sx4_2 hgv
    · exact sx4_3 hgv
    · exact sx4_4 hgv
  have hN1 : ∀ i : Nat, i < 1 → [5].getD i 0 < 2 ^ 31 := by
    intro i hi
    obtain rfl : i = 0 := by omega
    decide
  have hle1 : ∀ i : Nat, i < 1 → (Cond.eq (.length (.field ((fun _ : Nat => Term.string "ClosedUntilModel" 217) i) "java/lang/String" "value" "[B")) (.int (Int32.ofNat ([5].getD i 0)))).before #[Value.ref b] s = true := by
    intro i hi
    obtain rfl : i = 0 := by omega
    exact sx4_l hgv
  obtain ⟨adK, adV, hK, hKe⟩ := vk_Sof (s := s) (args := #[Value.ref b]) (N := 1) (tm := fun _ => Term.string "ClosedUntilModel" 217) (len := [5]) (byt := [([112, 105, 101, 99, 101] : List Int32)]) (A := fun q : Nat => s.heap.size ≤ q) hN1 (fun _ _ => sx4_x hgv) (fun _ _ => sx4_c hgv) (fun _ _ => sx4_a hgv) hle1 hek (fun i j hi hj hn => absurd (show i = j by omega) hn) hA
  exact ⟨adK 0, adV 0, hK.1 0 (by omega), vk_R.of (hts (.stringRef "ClosedUntilModel" 217 "piece") (List.mem_of_getElem? (i := 1217) (by decide +kernel))) (hKe 0 (by omega))⟩
set_option maxHeartbeats 4000000 in
set_option maxRecDepth 100000 in
theorem tx_5 {s : State} {b : Nat} (hgv : (Jvm.Cond.and given_1 narrow_1).before #[Value.ref b] s = true) (hts : ∀ w ∈ lw_tbl, w.before #[Value.ref b] s = true) (hA : ∀ a : Nat, a < s.heap.size → ¬ (fun q : Nat => s.heap.size ≤ q) a) : ∃ aK aV : Nat, (va_O "java/lang/String" aK (fun q : Nat => s.heap.size ≤ q) s s.heap ∧ va_OF "java/lang/String" "coder" "B" (.int 0) aK (fun q : Nat => s.heap.size ≤ q) s s.heap ∧ va_OF "java/lang/String" "value" "[B" (.ref aV) aK (fun q : Nat => s.heap.size ≤ q) s s.heap ∧ va_T .byte aV 2 (fun j => .int (([105, 110] : List Int32).getD j 0)) (fun q : Nat => s.heap.size ≤ q) s s.heap) ∧ vk_R RX9 219 "in" aK s := by
  have hek : ∀ i : Nat, i < 1 → ∀ j : Nat, j < [2].getD i 0 → (Cond.eq (.elem (.field ((fun _ : Nat => Term.string "ClosedUntilModel" 219) i) "java/lang/String" "value" "[B") (.int (Int32.ofNat j))) (.int (([([105, 110] : List Int32)].getD i []).getD j 0))).before #[Value.ref b] s = true := by
    intro i hi j hj
    obtain rfl : i = 0 := by omega
    have hj : j < 2 := hj
    rcases (show j = 0 ∨ j = 1 by omega) with rfl | rfl
    · exact sx5_0 hgv
    · exact sx5_1 hgv
  have hN1 : ∀ i : Nat, i < 1 → [2].getD i 0 < 2 ^ 31 := by
    intro i hi
    obtain rfl : i = 0 := by omega
    decide
  have hle1 : ∀ i : Nat, i < 1 → (Cond.eq (.length (.field ((fun _ : Nat => Term.string "ClosedUntilModel" 219) i) "java/lang/String" "value" "[B")) (.int (Int32.ofNat ([2].getD i 0)))).before #[Value.ref b] s = true := by
    intro i hi
    obtain rfl : i = 0 := by omega
    exact sx5_l hgv
  obtain ⟨adK, adV, hK, hKe⟩ := vk_Sof (s := s) (args := #[Value.ref b]) (N := 1) (tm := fun _ => Term.string "ClosedUntilModel" 219) (len := [2]) (byt := [([105, 110] : List Int32)]) (A := fun q : Nat => s.heap.size ≤ q) hN1 (fun _ _ => sx5_x hgv) (fun _ _ => sx5_c hgv) (fun _ _ => sx5_a hgv) hle1 hek (fun i j hi hj hn => absurd (show i = j by omega) hn) hA
  exact ⟨adK 0, adV 0, hK.1 0 (by omega), vk_R.of (hts (.stringRef "ClosedUntilModel" 219 "in") (List.mem_of_getElem? (i := 1245) (by decide +kernel))) (hKe 0 (by omega))⟩
set_option maxHeartbeats 4000000 in
set_option maxRecDepth 100000 in
theorem tx_6 {s : State} {b : Nat} (hgv : (Jvm.Cond.and given_1 narrow_1).before #[Value.ref b] s = true) (hts : ∀ w ∈ lw_tbl, w.before #[Value.ref b] s = true) (hA : ∀ a : Nat, a < s.heap.size → ¬ (fun q : Nat => s.heap.size ≤ q) a) : ∃ aK aV : Nat, (va_O "java/lang/String" aK (fun q : Nat => s.heap.size ≤ q) s s.heap ∧ va_OF "java/lang/String" "coder" "B" (.int 0) aK (fun q : Nat => s.heap.size ≤ q) s s.heap ∧ va_OF "java/lang/String" "value" "[B" (.ref aV) aK (fun q : Nat => s.heap.size ≤ q) s s.heap ∧ va_T .byte aV 2 (fun j => .int (([111, 102] : List Int32).getD j 0)) (fun q : Nat => s.heap.size ≤ q) s s.heap) ∧ vk_R RX9 221 "of" aK s := by
  have hek : ∀ i : Nat, i < 1 → ∀ j : Nat, j < [2].getD i 0 → (Cond.eq (.elem (.field ((fun _ : Nat => Term.string "ClosedUntilModel" 221) i) "java/lang/String" "value" "[B") (.int (Int32.ofNat j))) (.int (([([111, 102] : List Int32)].getD i []).getD j 0))).before #[Value.ref b] s = true := by
    intro i hi j hj
    obtain rfl : i = 0 := by omega
    have hj : j < 2 := hj
    rcases (show j = 0 ∨ j = 1 by omega) with rfl | rfl
    · exact sx6_0 hgv
    · exact sx6_1 hgv
  have hN1 : ∀ i : Nat, i < 1 → [2].getD i 0 < 2 ^ 31 := by
    intro i hi
    obtain rfl : i = 0 := by omega
    decide
  have hle1 : ∀ i : Nat, i < 1 → (Cond.eq (.length (.field ((fun _ : Nat => Term.string "ClosedUntilModel" 221) i) "java/lang/String" "value" "[B")) (.int (Int32.ofNat ([2].getD i 0)))).before #[Value.ref b] s = true := by
    intro i hi
    obtain rfl : i = 0 := by omega
    exact sx6_l hgv
  obtain ⟨adK, adV, hK, hKe⟩ := vk_Sof (s := s) (args := #[Value.ref b]) (N := 1) (tm := fun _ => Term.string "ClosedUntilModel" 221) (len := [2]) (byt := [([111, 102] : List Int32)]) (A := fun q : Nat => s.heap.size ≤ q) hN1 (fun _ _ => sx6_x hgv) (fun _ _ => sx6_c hgv) (fun _ _ => sx6_a hgv) hle1 hek (fun i j hi hj hn => absurd (show i = j by omega) hn) hA
  exact ⟨adK 0, adV 0, hK.1 0 (by omega), vk_R.of (hts (.stringRef "ClosedUntilModel" 221 "of") (List.mem_of_getElem? (i := 1246) (by decide +kernel))) (hKe 0 (by omega))⟩
set_option maxHeartbeats 4000000 in
set_option maxRecDepth 100000 in
theorem tx_7 {s : State} {b : Nat} (hgv : (Jvm.Cond.and given_1 narrow_1).before #[Value.ref b] s = true) (hts : ∀ w ∈ lw_tbl, w.before #[Value.ref b] s = true) (hA : ∀ a : Nat, a < s.heap.size → ¬ (fun q : Nat => s.heap.size ≤ q) a) : ∃ aK aV : Nat, (va_O "java/lang/String" aK (fun q : Nat => s.heap.size ≤ q) s s.heap ∧ va_OF "java/lang/String" "coder" "B" (.int 0) aK (fun q : Nat => s.heap.size ≤ q) s s.heap ∧ va_OF "java/lang/String" "value" "[B" (.ref aV) aK (fun q : Nat => s.heap.size ≤ q) s s.heap ∧ va_T .byte aV 4 (fun j => .int (([102, 114, 111, 109] : List Int32).getD j 0)) (fun q : Nat => s.heap.size ≤ q) s s.heap) ∧ vk_R RX9 223 "from" aK s := by
  have hek : ∀ i : Nat, i < 1 → ∀ j : Nat, j < [4].getD i 0 → (Cond.eq (.elem (.field ((fun _ : Nat => Term.string "ClosedUntilModel" 223) i) "java/lang/String" "value" "[B") (.int (Int32.ofNat j))) (.int (([([102, 114, 111, 109] : List Int32)].getD i []).getD j 0))).before #[Value.ref b] s = true := by
    intro i hi j hj
    obtain rfl : i = 0 := by omega
    have hj : j < 4 := hj
    rcases (show j = 0 ∨ j = 1 ∨ j = 2 ∨ j = 3 by omega) with rfl | rfl | rfl | rfl
    · exact sx7_0 hgv
    · exact sx7_1 hgv
    · exact sx7_2 hgv
    · exact sx7_3 hgv
  have hN1 : ∀ i : Nat, i < 1 → [4].getD i 0 < 2 ^ 31 := by
    intro i hi
    obtain rfl : i = 0 := by omega
    decide
  have hle1 : ∀ i : Nat, i < 1 → (Cond.eq (.length (.field ((fun _ : Nat => Term.string "ClosedUntilModel" 223) i) "java/lang/String" "value" "[B")) (.int (Int32.ofNat ([4].getD i 0)))).before #[Value.ref b] s = true := by
    intro i hi
    obtain rfl : i = 0 := by omega
    exact sx7_l hgv
  obtain ⟨adK, adV, hK, hKe⟩ := vk_Sof (s := s) (args := #[Value.ref b]) (N := 1) (tm := fun _ => Term.string "ClosedUntilModel" 223) (len := [4]) (byt := [([102, 114, 111, 109] : List Int32)]) (A := fun q : Nat => s.heap.size ≤ q) hN1 (fun _ _ => sx7_x hgv) (fun _ _ => sx7_c hgv) (fun _ _ => sx7_a hgv) hle1 hek (fun i j hi hj hn => absurd (show i = j by omega) hn) hA
  exact ⟨adK 0, adV 0, hK.1 0 (by omega), vk_R.of (hts (.stringRef "ClosedUntilModel" 223 "from") (List.mem_of_getElem? (i := 1247) (by decide +kernel))) (hKe 0 (by omega))⟩
set_option maxHeartbeats 4000000 in
set_option maxRecDepth 100000 in
theorem tx_8 {s : State} {b : Nat} (hgv : (Jvm.Cond.and given_1 narrow_1).before #[Value.ref b] s = true) (hts : ∀ w ∈ lw_tbl, w.before #[Value.ref b] s = true) (hA : ∀ a : Nat, a < s.heap.size → ¬ (fun q : Nat => s.heap.size ≤ q) a) : ∃ aK aV : Nat, (va_O "java/lang/String" aK (fun q : Nat => s.heap.size ≤ q) s s.heap ∧ va_OF "java/lang/String" "coder" "B" (.int 0) aK (fun q : Nat => s.heap.size ≤ q) s s.heap ∧ va_OF "java/lang/String" "value" "[B" (.ref aV) aK (fun q : Nat => s.heap.size ≤ q) s s.heap ∧ va_T .byte aV 5 (fun j => .int (([99, 108, 111, 115, 101] : List Int32).getD j 0)) (fun q : Nat => s.heap.size ≤ q) s s.heap) ∧ vk_R RX9 224 "close" aK s := by
  have hek : ∀ i : Nat, i < 1 → ∀ j : Nat, j < [5].getD i 0 → (Cond.eq (.elem (.field ((fun _ : Nat => Term.string "ClosedUntilModel" 224) i) "java/lang/String" "value" "[B") (.int (Int32.ofNat j))) (.int (([([99, 108, 111, 115, 101] : List Int32)].getD i []).getD j 0))).before #[Value.ref b] s = true := by
    intro i hi j hj
    obtain rfl : i = 0 := by omega
    have hj : j < 5 := hj
    rcases (show j = 0 ∨ j = 1 ∨ j = 2 ∨ j = 3 ∨ j = 4 by omega) with rfl | rfl | rfl | rfl | rfl
    · exact sx8_0 hgv
    · exact sx8_1 hgv
    · exact sx8_2 hgv
    · exact sx8_3 hgv
    · exact sx8_4 hgv
  have hN1 : ∀ i : Nat, i < 1 → [5].getD i 0 < 2 ^ 31 := by
    intro i hi
    obtain rfl : i = 0 := by omega
    decide
  have hle1 : ∀ i : Nat, i < 1 → (Cond.eq (.length (.field ((fun _ : Nat => Term.string "ClosedUntilModel" 224) i) "java/lang/String" "value" "[B")) (.int (Int32.ofNat ([5].getD i 0)))).before #[Value.ref b] s = true := by
    intro i hi
    obtain rfl : i = 0 := by omega
    exact sx8_l hgv
  obtain ⟨adK, adV, hK, hKe⟩ := vk_Sof (s := s) (args := #[Value.ref b]) (N := 1) (tm := fun _ => Term.string "ClosedUntilModel" 224) (len := [5]) (byt := [([99, 108, 111, 115, 101] : List Int32)]) (A := fun q : Nat => s.heap.size ≤ q) hN1 (fun _ _ => sx8_x hgv) (fun _ _ => sx8_c hgv) (fun _ _ => sx8_a hgv) hle1 hek (fun i j hi hj hn => absurd (show i = j by omega) hn) hA
  exact ⟨adK 0, adV 0, hK.1 0 (by omega), vk_R.of (hts (.stringRef "ClosedUntilModel" 224 "close") (List.mem_of_getElem? (i := 1218) (by decide +kernel))) (hKe 0 (by omega))⟩
set_option maxHeartbeats 4000000 in
set_option maxRecDepth 100000 in
theorem tx_9 {s : State} {b : Nat} (hgv : (Jvm.Cond.and given_1 narrow_1).before #[Value.ref b] s = true) (hts : ∀ w ∈ lw_tbl, w.before #[Value.ref b] s = true) (hA : ∀ a : Nat, a < s.heap.size → ¬ (fun q : Nat => s.heap.size ≤ q) a) : ∃ aK aV : Nat, (va_O "java/lang/String" aK (fun q : Nat => s.heap.size ≤ q) s s.heap ∧ va_OF "java/lang/String" "coder" "B" (.int 0) aK (fun q : Nat => s.heap.size ≤ q) s s.heap ∧ va_OF "java/lang/String" "value" "[B" (.ref aV) aK (fun q : Nat => s.heap.size ≤ q) s s.heap ∧ va_T .byte aV 7 (fun j => .int (([99, 111, 110, 116, 101, 110, 116] : List Int32).getD j 0)) (fun q : Nat => s.heap.size ≤ q) s s.heap) ∧ vk_R RX9 226 "content" aK s := by
  have hek : ∀ i : Nat, i < 1 → ∀ j : Nat, j < [7].getD i 0 → (Cond.eq (.elem (.field ((fun _ : Nat => Term.string "ClosedUntilModel" 226) i) "java/lang/String" "value" "[B") (.int (Int32.ofNat j))) (.int (([([99, 111, 110, 116, 101, 110, 116] : List Int32)].getD i []).getD j 0))).before #[Value.ref b] s = true := by
    intro i hi j hj
    obtain rfl : i = 0 := by omega
    have hj : j < 7 := hj
    rcases (show j = 0 ∨ j = 1 ∨ j = 2 ∨ j = 3 ∨ j = 4 ∨ j = 5 ∨ j = 6 by omega) with rfl | rfl | rfl | rfl | rfl | rfl | rfl
    · exact sx9_0 hgv
    · exact sx9_1 hgv
    · exact sx9_2 hgv
    · exact sx9_3 hgv
    · exact sx9_4 hgv
    · exact sx9_5 hgv
    · exact sx9_6 hgv
  have hN1 : ∀ i : Nat, i < 1 → [7].getD i 0 < 2 ^ 31 := by
    intro i hi
    obtain rfl : i = 0 := by omega
    decide
  have hle1 : ∀ i : Nat, i < 1 → (Cond.eq (.length (.field ((fun _ : Nat => Term.string "ClosedUntilModel" 226) i) "java/lang/String" "value" "[B")) (.int (Int32.ofNat ([7].getD i 0)))).before #[Value.ref b] s = true := by
    intro i hi
    obtain rfl : i = 0 := by omega
    exact sx9_l hgv
  obtain ⟨adK, adV, hK, hKe⟩ := vk_Sof (s := s) (args := #[Value.ref b]) (N := 1) (tm := fun _ => Term.string "ClosedUntilModel" 226) (len := [7]) (byt := [([99, 111, 110, 116, 101, 110, 116] : List Int32)]) (A := fun q : Nat => s.heap.size ≤ q) hN1 (fun _ _ => sx9_x hgv) (fun _ _ => sx9_c hgv) (fun _ _ => sx9_a hgv) hle1 hek (fun i j hi hj hn => absurd (show i = j by omega) hn) hA
  exact ⟨adK 0, adV 0, hK.1 0 (by omega), vk_R.of (hts (.stringRef "ClosedUntilModel" 226 "content") (List.mem_of_getElem? (i := 1248) (by decide +kernel))) (hKe 0 (by omega))⟩
set_option maxHeartbeats 4000000 in
set_option maxRecDepth 100000 in
theorem tx_10 {s : State} {b : Nat} (hgv : (Jvm.Cond.and given_1 narrow_1).before #[Value.ref b] s = true) (hts : ∀ w ∈ lw_tbl, w.before #[Value.ref b] s = true) (hA : ∀ a : Nat, a < s.heap.size → ¬ (fun q : Nat => s.heap.size ≤ q) a) : ∃ aK aV : Nat, (va_O "java/lang/String" aK (fun q : Nat => s.heap.size ≤ q) s s.heap ∧ va_OF "java/lang/String" "coder" "B" (.int 0) aK (fun q : Nat => s.heap.size ≤ q) s s.heap ∧ va_OF "java/lang/String" "value" "[B" (.ref aV) aK (fun q : Nat => s.heap.size ≤ q) s s.heap ∧ va_T .byte aV 5 (fun j => .int (([117, 110, 116, 105, 108] : List Int32).getD j 0)) (fun q : Nat => s.heap.size ≤ q) s s.heap) ∧ vk_R RX9 228 "until" aK s := by
  have hek : ∀ i : Nat, i < 1 → ∀ j : Nat, j < [5].getD i 0 → (Cond.eq (.elem (.field ((fun _ : Nat => Term.string "ClosedUntilModel" 228) i) "java/lang/String" "value" "[B") (.int (Int32.ofNat j))) (.int (([([117, 110, 116, 105, 108] : List Int32)].getD i []).getD j 0))).before #[Value.ref b] s = true := by
    intro i hi j hj
    obtain rfl : i = 0 := by omega
    have hj : j < 5 := hj
    rcases (show j = 0 ∨ j = 1 ∨ j = 2 ∨ j = 3 ∨ j = 4 by omega) with rfl | rfl | rfl | rfl | rfl
    · exact sx10_0 hgv
    · exact sx10_1 hgv
    · exact sx10_2 hgv
    · exact sx10_3 hgv
    · exact sx10_4 hgv
  have hN1 : ∀ i : Nat, i < 1 → [5].getD i 0 < 2 ^ 31 := by
    intro i hi
    obtain rfl : i = 0 := by omega
    decide
  have hle1 : ∀ i : Nat, i < 1 → (Cond.eq (.length (.field ((fun _ : Nat => Term.string "ClosedUntilModel" 228) i) "java/lang/String" "value" "[B")) (.int (Int32.ofNat ([5].getD i 0)))).before #[Value.ref b] s = true := by
    intro i hi
    obtain rfl : i = 0 := by omega
    exact sx10_l hgv
  obtain ⟨adK, adV, hK, hKe⟩ := vk_Sof (s := s) (args := #[Value.ref b]) (N := 1) (tm := fun _ => Term.string "ClosedUntilModel" 228) (len := [5]) (byt := [([117, 110, 116, 105, 108] : List Int32)]) (A := fun q : Nat => s.heap.size ≤ q) hN1 (fun _ _ => sx10_x hgv) (fun _ _ => sx10_c hgv) (fun _ _ => sx10_a hgv) hle1 hek (fun i j hi hj hn => absurd (show i = j by omega) hn) hA
  exact ⟨adK 0, adV 0, hK.1 0 (by omega), vk_R.of (hts (.stringRef "ClosedUntilModel" 228 "until") (List.mem_of_getElem? (i := 1249) (by decide +kernel))) (hKe 0 (by omega))⟩
set_option maxHeartbeats 4000000 in
set_option maxRecDepth 100000 in
theorem tx_11 {s : State} {b : Nat} (hgv : (Jvm.Cond.and given_1 narrow_1).before #[Value.ref b] s = true) (hts : ∀ w ∈ lw_tbl, w.before #[Value.ref b] s = true) (hA : ∀ a : Nat, a < s.heap.size → ¬ (fun q : Nat => s.heap.size ≤ q) a) : ∃ aK aV : Nat, (va_O "java/lang/String" aK (fun q : Nat => s.heap.size ≤ q) s s.heap ∧ va_OF "java/lang/String" "coder" "B" (.int 0) aK (fun q : Nat => s.heap.size ≤ q) s s.heap ∧ va_OF "java/lang/String" "value" "[B" (.ref aV) aK (fun q : Nat => s.heap.size ≤ q) s s.heap ∧ va_T .byte aV 5 (fun j => .int (([119, 104, 111, 108, 101] : List Int32).getD j 0)) (fun q : Nat => s.heap.size ≤ q) s s.heap) ∧ vk_R RX9 230 "whole" aK s := by
  have hek : ∀ i : Nat, i < 1 → ∀ j : Nat, j < [5].getD i 0 → (Cond.eq (.elem (.field ((fun _ : Nat => Term.string "ClosedUntilModel" 230) i) "java/lang/String" "value" "[B") (.int (Int32.ofNat j))) (.int (([([119, 104, 111, 108, 101] : List Int32)].getD i []).getD j 0))).before #[Value.ref b] s = true := by
    intro i hi j hj
    obtain rfl : i = 0 := by omega
    have hj : j < 5 := hj
    rcases (show j = 0 ∨ j = 1 ∨ j = 2 ∨ j = 3 ∨ j = 4 by omega) with rfl | rfl | rfl | rfl | rfl
    · exact sx11_0 hgv
    · exact sx11_1 hgv
    · exact sx11_2 hgv
    · exact sx11_3 hgv
    · exact sx11_4 hgv
  have hN1 : ∀ i : Nat, i < 1 → [5].getD i 0 < 2 ^ 31 := by
    intro i hi
    obtain rfl : i = 0 := by omega
    decide
  have hle1 : ∀ i : Nat, i < 1 → (Cond.eq (.length (.field ((fun _ : Nat => Term.string "ClosedUntilModel" 230) i) "java/lang/String" "value" "[B")) (.int (Int32.ofNat ([5].getD i 0)))).before #[Value.ref b] s = true := by
    intro i hi
    obtain rfl : i = 0 := by omega
    exact sx11_l hgv
  obtain ⟨adK, adV, hK, hKe⟩ := vk_Sof (s := s) (args := #[Value.ref b]) (N := 1) (tm := fun _ => Term.string "ClosedUntilModel" 230) (len := [5]) (byt := [([119, 104, 111, 108, 101] : List Int32)]) (A := fun q : Nat => s.heap.size ≤ q) hN1 (fun _ _ => sx11_x hgv) (fun _ _ => sx11_c hgv) (fun _ _ => sx11_a hgv) hle1 hek (fun i j hi hj hn => absurd (show i = j by omega) hn) hA
  exact ⟨adK 0, adV 0, hK.1 0 (by omega), vk_R.of (hts (.stringRef "ClosedUntilModel" 230 "whole") (List.mem_of_getElem? (i := 1250) (by decide +kernel))) (hKe 0 (by omega))⟩
set_option maxHeartbeats 4000000 in
set_option maxRecDepth 100000 in
theorem Ev_start {p : Program} {s : State} {m : MethodId} {meth : Method} {c : Code} {b L : Nat} {xs : Nat → Int32} (C0 : lw_At p s m meth c b L xs) : ∃ g : Gv, Ev g (fun q : Nat => s.heap.size ≤ q) s := by
  obtain ⟨hx, hb, hr, hml, hown, hts, hX, hbl, hlocks, hgv⟩ := id C0
  have hA : ∀ a : Nat, a < s.heap.size → ¬ (fun q : Nat => s.heap.size ≤ q) a := fun _ h => Nat.not_le.mpr h
  have hel : ∀ j : Nat, j < 12 → (Term.elem (.static "ClosedUntil$Calendar" "MONTH_LENGTHS" "[I") (.int (Int32.ofNat j))).eval #[Value.ref b] s none [] s = some (mlf j) := by
    intro j hj
    rcases (show j = 0 ∨ j = 1 ∨ j = 2 ∨ j = 3 ∨ j = 4 ∨ j = 5 ∨ j = 6 ∨ j = 7 ∨ j = 8 ∨ j = 9 ∨ j = 10 ∨ j = 11 by omega) with rfl | rfl | rfl | rfl | rfl | rfl | rfl | rfl | rfl | rfl | rfl | rfl
    · exact va_eqt (st_m0 hgv)
    · exact va_eqt (st_m1 hgv)
    · exact va_eqt (st_m2 hgv)
    · exact va_eqt (st_m3 hgv)
    · exact va_eqt (st_m4 hgv)
    · exact va_eqt (st_m5 hgv)
    · exact va_eqt (st_m6 hgv)
    · exact va_eqt (st_m7 hgv)
    · exact va_eqt (st_m8 hgv)
    · exact va_eqt (st_m9 hgv)
    · exact va_eqt (st_m10 hgv)
    · exact va_eqt (st_m11 hgv)
  obtain ⟨t1, e1, hT1⟩ := va_Tof (tm := .static "ClosedUntil$Calendar" "MONTH_LENGTHS" "[I") (N := 12) (f := mlf) (A := fun q : Nat => s.heap.size ≤ q) (by omega) (st_ma hgv) (va_eqt (st_ml hgv)) hel hA
  have hZ1 := va_Zref (hts (.laysStatic "ClosedUntil$Calendar" "MONTH_LENGTHS" "[I") (List.mem_of_getElem? (i := 572) (by decide +kernel))) (hts (.initialized "ClosedUntil$Calendar") (List.mem_of_getElem? (i := 118) (by decide +kernel))) e1 hA
  have hek : ∀ i : Nat, i < 1 → ∀ j : Nat, j < [68].getD i 0 → (Cond.eq (.elem (.field ((fun _ : Nat => Term.string "ClosedUntil$Tokens" 17) i) "java/lang/String" "value" "[B") (.int (Int32.ofNat j))) (.int (([kwL].getD i []).getD j 0))).before #[Value.ref b] s = true := by
    intro i hi j hj
    obtain rfl : i = 0 := by omega
    have hj : j < 68 := hj
    rcases (show j = 0 ∨ j = 1 ∨ j = 2 ∨ j = 3 ∨ j = 4 ∨ j = 5 ∨ j = 6 ∨ j = 7 ∨ j = 8 ∨ j = 9 ∨ j = 10 ∨ j = 11 ∨ j = 12 ∨ j = 13 ∨ j = 14 ∨ j = 15 ∨ j = 16 ∨ j = 17 ∨ j = 18 ∨ j = 19 ∨ j = 20 ∨ j = 21 ∨ j = 22 ∨ j = 23 ∨ j = 24 ∨ j = 25 ∨ j = 26 ∨ j = 27 ∨ j = 28 ∨ j = 29 ∨ j = 30 ∨ j = 31 ∨ j = 32 ∨ j = 33 ∨ j = 34 ∨ j = 35 ∨ j = 36 ∨ j = 37 ∨ j = 38 ∨ j = 39 ∨ j = 40 ∨ j = 41 ∨ j = 42 ∨ j = 43 ∨ j = 44 ∨ j = 45 ∨ j = 46 ∨ j = 47 ∨ j = 48 ∨ j = 49 ∨ j = 50 ∨ j = 51 ∨ j = 52 ∨ j = 53 ∨ j = 54 ∨ j = 55 ∨ j = 56 ∨ j = 57 ∨ j = 58 ∨ j = 59 ∨ j = 60 ∨ j = 61 ∨ j = 62 ∨ j = 63 ∨ j = 64 ∨ j = 65 ∨ j = 66 ∨ j = 67 by omega) with rfl | rfl | rfl | rfl | rfl | rfl | rfl | rfl | rfl | rfl | rfl | rfl | rfl | rfl | rfl | rfl | rfl | rfl | rfl | rfl | rfl | rfl | rfl | rfl | rfl | rfl | rfl | rfl | rfl | rfl | rfl | rfl | rfl | rfl | rfl | rfl | rfl | rfl | rfl | rfl | rfl | rfl | rfl | rfl | rfl | rfl | rfl | rfl | rfl | rfl | rfl | rfl | rfl | rfl | rfl | rfl | rfl | rfl | rfl | rfl | rfl | rfl | rfl | rfl | rfl | rfl | rfl | rfl
    · exact st_k0 hgv
    · exact st_k1 hgv
    · exact st_k2 hgv
    · exact st_k3 hgv
    · exact st_k4 hgv
    · exact st_k5 hgv
    · exact st_k6 hgv
    · exact st_k7 hgv
    · exact st_k8 hgv
    · exact st_k9 hgv
    · exact st_k10 hgv
    · exact st_k11 hgv
    · exact st_k12 hgv
    · exact st_k13 hgv
    · exact st_k14 hgv
    · exact st_k15 hgv
    · exact st_k16 hgv
    · exact st_k17 hgv
    · exact st_k18 hgv
    · exact st_k19 hgv
    · exact st_k20 hgv
    · exact st_k21 hgv
    · exact st_k22 hgv
    · exact st_k23 hgv
    · exact st_k24 hgv
    · exact st_k25 hgv
    · exact st_k26 hgv
    · exact st_k27 hgv
    · exact st_k28 hgv
    · exact st_k29 hgv
    · exact st_k30 hgv
    · exact st_k31 hgv
    · exact st_k32 hgv
    · exact st_k33 hgv
    · exact st_k34 hgv
    · exact st_k35 hgv
    · exact st_k36 hgv
    · exact st_k37 hgv
    · exact st_k38 hgv
    · exact st_k39 hgv
    · exact st_k40 hgv
    · exact st_k41 hgv
    · exact st_k42 hgv
    · exact st_k43 hgv
    · exact st_k44 hgv
    · exact st_k45 hgv
    · exact st_k46 hgv
    · exact st_k47 hgv
    · exact st_k48 hgv
    · exact st_k49 hgv
    · exact st_k50 hgv
    · exact st_k51 hgv
    · exact st_k52 hgv
    · exact st_k53 hgv
    · exact st_k54 hgv
    · exact st_k55 hgv
    · exact st_k56 hgv
    · exact st_k57 hgv
    · exact st_k58 hgv
    · exact st_k59 hgv
    · exact st_k60 hgv
    · exact st_k61 hgv
    · exact st_k62 hgv
    · exact st_k63 hgv
    · exact st_k64 hgv
    · exact st_k65 hgv
    · exact st_k66 hgv
    · exact st_k67 hgv
  have hN1 : ∀ i : Nat, i < 1 → [68].getD i 0 < 2 ^ 31 := by
    intro i hi
    obtain rfl : i = 0 := by omega
    decide
  have hle1 : ∀ i : Nat, i < 1 → (Cond.eq (.length (.field ((fun _ : Nat => Term.string "ClosedUntil$Tokens" 17) i) "java/lang/String" "value" "[B")) (.int (Int32.ofNat ([68].getD i 0)))).before #[Value.ref b] s = true := by
    intro i hi
    obtain rfl : i = 0 := by omega
    exact st_kl hgv
  obtain ⟨adK, adV, hK, hKe⟩ := vk_Sof (s := s) (args := #[Value.ref b]) (N := 1) (tm := fun _ => .string "ClosedUntil$Tokens" 17) (len := [68]) (byt := [kwL]) (A := fun q : Nat => s.heap.size ≤ q) hN1 (fun _ _ => st_kx hgv) (fun _ _ => st_kc hgv) (fun _ _ => st_ka hgv) hle1 hek (fun i j hi hj hn => absurd (show i = j by omega) hn) hA
  obtain ⟨k1, k2, k3, k4⟩ := hK.1 0 (by omega)
  have hR : vk_R RX7 17 "person born died deposit piece in of from close content until whole " (adK 0) s := vk_R.of (hts (.stringRef "ClosedUntil$Tokens" 17 "person born died deposit piece in of from close content until whole ") (List.mem_of_getElem? (i := 161) (by decide +kernel))) (hKe 0 (by omega))
  have hZ2 := va_Zof (hts (.laysStatic "java/lang/String" "COMPACT_STRINGS" "Z") (List.mem_of_getElem? (i := 171) (by decide +kernel))) (hts (.initialized "java/lang/String") (List.mem_of_getElem? (i := 108) (by decide +kernel))) (va_eqi (st_cs hgv)) hA
  obtain ⟨o, hZ3⟩ : ∃ o : Option Nat, va_Z "jdk/internal/util/Preconditions" "SIOOBE_FORMATTER" "Ljava/util/function/BiFunction;" (va_rf o) (fun q : Nat => s.heap.size ≤ q) s s.heap := by
    rcases va_Zqof (hts (.laysStatic "jdk/internal/util/Preconditions" "SIOOBE_FORMATTER" "Ljava/util/function/BiFunction;") (List.mem_of_getElem? (i := 187) (by decide +kernel))) (hts (.initialized "jdk/internal/util/Preconditions") (List.mem_of_getElem? (i := 110) (by decide +kernel))) (st_si hgv) hA with q | ⟨t, q⟩
    · exact ⟨none, q⟩
    · exact ⟨some t, q⟩
  obtain ⟨cy, ky, comp, hy1, -, -⟩ := Cond.arrayClass_spec (hts (.arrayClass .int) (List.mem_of_getElem? (i := 264) (by decide +kernel)))
  have hea : ∀ j : Nat, j < 4 → (Term.elem (.static "ClosedUntil$TextReader" "ASKED_OF" "[I") (.int (Int32.ofNat j))).eval #[Value.ref b] s none [] s = some (aof j) := by
    intro j hj
    rcases (show j = 0 ∨ j = 1 ∨ j = 2 ∨ j = 3 by omega) with rfl | rfl | rfl | rfl
    · exact va_eqt (st_a0 hgv)
    · exact va_eqt (st_a1 hgv)
    · exact va_eqt (st_a2 hgv)
    · exact va_eqt (st_a3 hgv)
  obtain ⟨t9, e9, hT9⟩ := va_Tof (tm := .static "ClosedUntil$TextReader" "ASKED_OF" "[I") (N := 4) (f := aof) (A := fun q : Nat => s.heap.size ≤ q) (by omega) (st_aa hgv) (va_eqt (st_al hgv)) hea hA
  have hZ9 := va_Zref (hts (.laysStatic "ClosedUntil$TextReader" "ASKED_OF" "[I") (List.mem_of_getElem? (i := 619) (by decide +kernel))) (hts (.initialized "ClosedUntil$TextReader") (List.mem_of_getElem? (i := 106) (by decide +kernel))) e9 hA
  obtain ⟨ak0, av0, hx0, hr0⟩ := tx_0 hgv hts hA
  obtain ⟨ak1, av1, hx1, hr1⟩ := tx_1 hgv hts hA
  obtain ⟨ak2, av2, hx2, hr2⟩ := tx_2 hgv hts hA
  obtain ⟨ak3, av3, hx3, hr3⟩ := tx_3 hgv hts hA
  obtain ⟨ak4, av4, hx4, hr4⟩ := tx_4 hgv hts hA
  obtain ⟨ak5, av5, hx5, hr5⟩ := tx_5 hgv hts hA
  obtain ⟨ak6, av6, hx6, hr6⟩ := tx_6 hgv hts hA
  obtain ⟨ak7, av7, hx7, hr7⟩ := tx_7 hgv hts hA
  obtain ⟨ak8, av8, hx8, hr8⟩ := tx_8 hgv hts hA
  obtain ⟨ak9, av9, hx9, hr9⟩ := tx_9 hgv hts hA
  obtain ⟨ak10, av10, hx10, hr10⟩ := tx_10 hgv hts hA
  obtain ⟨ak11, av11, hx11, hr11⟩ := tx_11 hgv hts hA
  refine ⟨(t1, adK 0, adV 0, o, cy, (fun k => match k with | 0 => ak0 | 1 => ak1 | 2 => ak2 | 3 => ak3 | 4 => ak4 | 5 => ak5 | 6 => ak6 | 7 => ak7 | 8 => ak8 | 9 => ak9 | 10 => ak10 | _ => ak11), (fun k => match k with | 0 => av0 | 1 => av1 | 2 => av2 | 3 => av3 | 4 => av4 | 5 => av5 | 6 => av6 | 7 => av7 | 8 => av8 | 9 => av9 | 10 => av10 | _ => av11), t9), ⟨⟨fun q hq => va_Nw.of rfl (hts _ (nwF_in q hq)), fun q hq => va_Nw.of rfl (hts _ (nwM_in q hq))⟩, hZ1, hT1, hR, k1, k2, k3, k4, hZ2, hZ3, va_AOA.of (hts (.arrayOver (.array .int)) (List.mem_of_getElem? (i := 272) (by decide +kernel))), va_AO.of (hts (.arrayOver (.object "ClosedUntil$State")) (List.mem_of_getElem? (i := 323) (by decide +kernel))), hy1, ⟨hZ9, hT9, fun k hk => ?_, fun k hk => ?_⟩⟩⟩
  · rcases (show k = 0 ∨ k = 1 ∨ k = 2 ∨ k = 3 ∨ k = 4 ∨ k = 5 ∨ k = 6 ∨ k = 7 ∨ k = 8 ∨ k = 9 ∨ k = 10 ∨ k = 11 by omega) with rfl | rfl | rfl | rfl | rfl | rfl | rfl | rfl | rfl | rfl | rfl | rfl
    · exact hx0
    · exact hx1
    · exact hx2
    · exact hx3
    · exact hx4
    · exact hx5
    · exact hx6
    · exact hx7
    · exact hx8
    · exact hx9
    · exact hx10
    · exact hx11
  · rcases (show k = 0 ∨ k = 1 ∨ k = 2 ∨ k = 3 ∨ k = 4 ∨ k = 5 ∨ k = 6 ∨ k = 7 ∨ k = 8 ∨ k = 9 ∨ k = 10 ∨ k = 11 by omega) with rfl | rfl | rfl | rfl | rfl | rfl | rfl | rfl | rfl | rfl | rfl | rfl
    · exact hr0
    · exact hr1
    · exact hr2
    · exact hr3
    · exact hr4
    · exact hr5
    · exact hr6
    · exact hr7
    · exact hr8
    · exact hr9
    · exact hr10
    · exact hr11
