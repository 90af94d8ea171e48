/-! my own rows: what all contracts share -/
section SUP
variable {p : Program} {l : Launch} {e : Env} {R : Room} {s : State} {m : MethodId} {args : Array Value} {below : List Frame} {meth : Method} {c : Code} {H : Heap} {locs : List Loc} {cells slots : Nat} {Q : State → Prop} {pc : Nat} {ls : Array Slot} {rest : List Value}
theorem cst {x v : Int32} (h : x = v) (k : W p l e R s m args below meth c H locs cells slots Q (F0 m pc ls (.int v :: rest))) : W p l e R s m args below meth c H locs cells slots Q (F0 m pc ls (.int x :: rest)) := by rw [h]; exact k
theorem cstl {x v : Int64} (h : x = v) (k : W p l e R s m args below meth c H locs cells slots Q (F0 m pc ls (.long v :: rest))) : W p l e R s m args below meth c H locs cells slots Q (F0 m pc ls (.long x :: rest)) := by rw [h]; exact k
/-- a loop by a number that falls: any heap, any locals that the invariant holds for -/
theorem wloop {st : List Value} (I : Nat → Heap → List Loc → Array Slot → Prop)
    (step : ∀ n H locs ls, I n H locs ls → (∀ k H' locs' ls', k < n → I k H' locs' ls' → W p l e R s m args below meth c H' locs' cells slots Q (F0 m pc ls' st)) → W p l e R s m args below meth c H locs cells slots Q (F0 m pc ls st)) :
    ∀ n H locs ls, I n H locs ls → W p l e R s m args below meth c H locs cells slots Q (F0 m pc ls st) := by
  intro n
  induction n using Nat.strongRecOn with
  | ind n ih => intro H locs ls h; exact step n H locs ls h (fun k H' locs' ls' hk hI => ih k hk H' locs' ls' hI)
end SUP
theorem vin0 {i : Int32} {n : Nat} (h : (decide (i < 0) || decide (n ≤ i.toNatClampNeg)) = false) : vp_in i n := by
  intro q
  rw [Bool.or_eq_false_iff] at h
  rcases q with q | q
  · exact absurd q (of_decide_eq_false h.1)
  · exact absurd q (of_decide_eq_false h.2)
theorem cv_lt {a b : Int32} {x y : Int} (ha : a.toInt = x) (hb : b.toInt = y) : a < b ↔ x < y := by rw [← ha, ← hb]; exact Int32.lt_iff_toInt_lt
theorem cv_le {a b : Int32} {x y : Int} (ha : a.toInt = x) (hb : b.toInt = y) : a ≤ b ↔ x ≤ y := by rw [← ha, ← hb]; exact Int32.le_iff_toInt_le
theorem cv_eq {a b : Int32} {x y : Int} (ha : a.toInt = x) (hb : b.toInt = y) : a = b ↔ x = y := by rw [← ha, ← hb]; exact ⟨fun h => h ▸ rfl, Int32.toInt_inj.mp⟩
theorem va_P0 {D : va_G} {cl : List vw_C} {H : Heap} : va_P D cl [] H := fun k q h => by simp at h
theorem va_D0 {A : Nat → Prop} : va_D A [] := ⟨fun i j p q h => by simp at h, fun k q h => by simp at h⟩
theorem TBg : TBL.all goodWord = true := by decide +kernel
theorem gwC {big : List Cond} {y : MethodName} {cc : ByteArray} {n : Nat} {r : Option FieldType} (hm : (Cond.code y cc n r) ∈ TBL) (hb : ∀ w ∈ TBL, w ∈ big := by exact fun _ h => h) : GoodIn big (.code y cc n r :: TBL) := by
  intro w hw
  have h : w ∈ TBL := (List.mem_cons.mp hw).elim (fun e => e ▸ hm) (fun h => h)
  exact ⟨hb w h, good_of_word (List.all_eq_true.mp TBg w h)⟩
theorem gwX {big : List Cond} {ws ws2 : List Cond} (h : GoodIn big ws2) (hw : ∀ w ∈ ws, w ∈ TBL) (hb : ∀ w ∈ TBL, w ∈ big := by exact fun _ h => h) : GoodIn big (ws ++ ws2) := by
  intro w q
  rcases List.mem_append.mp q with q | q
  · exact ⟨hb w (hw w q), good_of_word (List.all_eq_true.mp TBg w (hw w q))⟩
  · exact h w q
theorem gwS {big : List Cond} {own : String} {idx : Nat} {y : MethodName} {cc : ByteArray} {n : Nat} {r : Option FieldType} (h1 : (Cond.methodLink own idx y) ∈ TBL) (h2 : (Cond.static y) ∈ TBL) (h3 : (Cond.initialized y.cls) ∈ TBL) (hm : (Cond.code y cc n r) ∈ TBL) (hb : ∀ w ∈ TBL, w ∈ big := by exact fun _ h => h) : GoodIn big (va_wsS own idx y (.code y cc n r :: TBL)) :=
  gwX (gwC hm hb) (fun w q => by
    rcases List.mem_cons.mp q with rfl | q
    · exact h1
    rcases List.mem_cons.mp q with rfl | q
    · exact h2
    rcases List.mem_cons.mp q with rfl | q
    · exact h3
    · exact absurd q List.not_mem_nil) hb
theorem gwV {big : List Cond} {own C : String} {idx : Nat} {y : MethodName} {cc : ByteArray} {n : Nat} {r : Option FieldType} (h1 : (Cond.methodLink own idx y) ∈ TBL) (h2 : (Cond.instanceMethod y) ∈ TBL) (h3 : (Cond.selects C y y) ∈ TBL) (h4 : (Cond.initialized C) ∈ TBL) (hm : (Cond.code y cc n r) ∈ TBL) (hb : ∀ w ∈ TBL, w ∈ big := by exact fun _ h => h) : GoodIn big (wsV own idx C y (.code y cc n r :: TBL)) :=
  gwX (gwC hm hb) (fun w q => by
    rcases List.mem_cons.mp q with rfl | q
    · exact h1
    rcases List.mem_cons.mp q with rfl | q
    · exact h2
    rcases List.mem_cons.mp q with rfl | q
    · exact h3
    rcases List.mem_cons.mp q with rfl | q
    · exact h4
    · exact absurd q List.not_mem_nil) hb
def nwF : List (String × Nat × String × String × String × String) := [(RX8, 81, "ClosedUntil$Tape", "bytes", "[B", "ClosedUntil"), (RX8, 77, "ClosedUntil$Tape", "length", "I", "ClosedUntil"), (RX5, 48, "ClosedUntil$Tokens", "kind", "I", "ClosedUntil"), (RX5, 65, "ClosedUntil$Tokens", "place", "I", "ClosedUntil"), (RX5, 185, "ClosedUntil$Tokens", "word", "J", "ClosedUntil"), (RX5, 182, "ClosedUntil$Tokens", "number", "I", "ClosedUntil"), (RX8, 145, "ClosedUntil$Timetable", "below", "[I", "ClosedUntil"), (RX8, 148, "ClosedUntil$Timetable", "depth", "[I", "ClosedUntil"), (RX8, 187, "ClosedUntil$Timetable", "terms", "[[I", "ClosedUntil"), (RX8, 191, "ClosedUntil$Timetable", "ends", "[[I", "ClosedUntil"), (RX8, 249, "ClosedUntil$Journal", "size", "I", "ClosedUntil"), (RX6, 59, "ClosedUntil$State", "parent", "[I", "ClosedUntil"), (RX5, 113, "ClosedUntil$State", "parent", "[I", "ClosedUntil"), (RX2, 46, "ClosedUntil$State", "parent", "[I", "ClosedUntil"), (RX8, 128, "ClosedUntil$State", "parent", "[I", "ClosedUntil"), (RX5, 97, "ClosedUntil$State", "death", "[I", "ClosedUntil"), (RX2, 43, "ClosedUntil$State", "death", "[I", "ClosedUntil"), (RX6, 108, "ClosedUntil$State", "death", "[I", "ClosedUntil"), (RX8, 157, "ClosedUntil$State", "death", "[I", "ClosedUntil"), (RX6, 87, "ClosedUntil$State", "lifted", "[I", "ClosedUntil"), (RX2, 40, "ClosedUntil$State", "lifted", "[I", "ClosedUntil"), (RX8, 178, "ClosedUntil$State", "lifted", "[I", "ClosedUntil"), (RX6, 120, "ClosedUntil$State", "reviews", "[I", "ClosedUntil"), (RX8, 175, "ClosedUntil$State", "reviews", "[I", "ClosedUntil"), (RX6, 123, "ClosedUntil$State", "reviewDay", "[[I", "ClosedUntil"), (RX6, 126, "ClosedUntil$State", "reviewYears", "[[I", "ClosedUntil"), (RX5, 72, "ClosedUntil$Holdings", "people", "I", "ClosedUntil"), (RX8, 259, "ClosedUntil$Holdings", "people", "I", "ClosedUntil"), (RX5, 94, "ClosedUntil$Holdings", "birth", "[I", "ClosedUntil"), (RX6, 111, "ClosedUntil$Holdings", "birth", "[I", "ClosedUntil"), (RX8, 154, "ClosedUntil$Holdings", "birth", "[I", "ClosedUntil"), (RX5, 104, "ClosedUntil$Holdings", "deposits", "I", "ClosedUntil"), (RX8, 262, "ClosedUntil$Holdings", "deposits", "I", "ClosedUntil"), (RX5, 107, "ClosedUntil$Holdings", "depositDay", "[I", "ClosedUntil"), (RX6, 114, "ClosedUntil$Holdings", "depositDay", "[I", "ClosedUntil"), (RX6, 32, "ClosedUntil$Holdings", "pieces", "I", "ClosedUntil"), (RX5, 110, "ClosedUntil$Holdings", "pieces", "I", "ClosedUntil"), (RX8, 203, "ClosedUntil$Holdings", "pieces", "I", "ClosedUntil"), (RX5, 120, "ClosedUntil$Holdings", "lastDay", "[I", "ClosedUntil"), (RX6, 102, "ClosedUntil$Holdings", "lastDay", "[I", "ClosedUntil"), (RX8, 132, "ClosedUntil$Holdings", "lastDay", "[I", "ClosedUntil"), (RX5, 123, "ClosedUntil$Holdings", "peopleOf", "[I", "ClosedUntil"), (RX8, 135, "ClosedUntil$Holdings", "peopleOf", "[I", "ClosedUntil"), (RX5, 129, "ClosedUntil$Holdings", "depositOf", "[I", "ClosedUntil"), (RX8, 138, "ClosedUntil$Holdings", "depositOf", "[I", "ClosedUntil"), (RX6, 39, "ClosedUntil$Holdings", "closures", "I", "ClosedUntil"), (RX5, 136, "ClosedUntil$Holdings", "closures", "I", "ClosedUntil"), (RX8, 215, "ClosedUntil$Holdings", "closures", "I", "ClosedUntil"), (RX6, 99, "ClosedUntil$Holdings", "sort", "[I", "ClosedUntil"), (RX5, 142, "ClosedUntil$Holdings", "sort", "[I", "ClosedUntil"), (RX8, 166, "ClosedUntil$Holdings", "sort", "[I", "ClosedUntil"), (RX6, 93, "ClosedUntil$Holdings", "subject", "[I", "ClosedUntil"), (RX5, 145, "ClosedUntil$Holdings", "subject", "[I", "ClosedUntil"), (RX8, 169, "ClosedUntil$Holdings", "subject", "[I", "ClosedUntil"), (RX6, 73, "ClosedUntil$Holdings", "whole", "[Z", "ClosedUntil"), (RX5, 154, "ClosedUntil$Holdings", "whole", "[Z", "ClosedUntil"), (RX8, 172, "ClosedUntil$Holdings", "whole", "[Z", "ClosedUntil"), (RX6, 96, "ClosedUntil$Holdings", "years", "[[I", "ClosedUntil"), (RX5, 158, "ClosedUntil$Holdings", "years", "[[I", "ClosedUntil"), (RX6, 117, "ClosedUntil$Holdings", "untilDay", "[I", "ClosedUntil"), (RX5, 151, "ClosedUntil$Holdings", "untilDay", "[I", "ClosedUntil"), (RX5, 172, "ClosedUntil$Calendar", "MONTH_LENGTHS", "[I", "ClosedUntil")]
def nwM : List (String × Nat × MethodName × String) := [(RX8, 9, yX4_init, "ClosedUntil"), (RX8, 18, yX5_init, "ClosedUntil"), (RX5, 11, yX7_init, "ClosedUntil"), (RX8, 25, yX6_init, "ClosedUntil"), (RX8, 32, yX2_init, "ClosedUntil"), (RX8, 43, yX3_init, "ClosedUntil"), (RX8, 50, yX1_init, "ClosedUntil"), (RX8, 69, yX4_hasRoom, "ClosedUntil"), (RX8, 73, yX4_append, "ClosedUntil"), (RX8, 85, yX5_read, "ClosedUntil"), (RX5, 29, yX1_clear, "ClosedUntil"), (RX5, 34, yX3_clear, "ClosedUntil"), (RX5, 44, yX7_start, "ClosedUntil"), (RX5, 75, yX7_advance, "ClosedUntil"), (RX5, 175, yX0_monthLength, "ClosedUntil"), (RX5, 178, yX0_numberOf, "ClosedUntil"), (RX5, 132, yX8_hasBit, "ClosedUntil"), (RX8, 92, yX2_forgetAll, "ClosedUntil"), (RX8, 95, yX0_numberOf, "ClosedUntil"), (RX8, 101, yX0_has, "ClosedUntil"), (RX8, 105, yX0_yearOf, "ClosedUntil"), (RX8, 109, yX0_monthOf, "ClosedUntil"), (RX8, 112, yX0_dayOfMonth, "ClosedUntil"), (RX8, 115, yX0_dayOfWeek, "ClosedUntil"), (RX8, 121, yX0_yearsOn, "ClosedUntil"), (RX8, 125, yX1_hasPiece, "ClosedUntil"), (RX8, 275, yX6_fill, "ClosedUntil"), (RX6, 47, yX1_isTarget, "ClosedUntil"), (RX1, 58, yX8_hasBit, "ClosedUntil"), (RX6, 105, yX0_yearsOn, "ClosedUntil"), (RX6, 77, yX0_newYearBehind, "ClosedUntil"), (RX8, 151, yX1_hasPerson, "ClosedUntil"), (RX8, 160, yX1_piecesOf, "ClosedUntil"), (RX8, 163, yX1_hasClosure, "ClosedUntil"), (RX8, 181, yX6_targetsOf, "ClosedUntil"), (RX8, 184, yX6_closedUnder, "ClosedUntil"), (RX8, 197, yX1_holdingFor, "ClosedUntil"), (RX8, 200, yX6_openingOf, "ClosedUntil"), (RX6, 133, yX8_hasBit, "ClosedUntil"), (RX8, 218, yX6_closersOf, "ClosedUntil"), (RX8, 228, yX6_openOn, "ClosedUntil"), (RX8, 231, yX6_pieceAt, "ClosedUntil"), (RX8, 234, yX6_bestToLift, "ClosedUntil"), (RX8, 242, yX3_addReview, "ClosedUntil"), (RX8, 272, yX2_add, "ClosedUntil"), (RX8, 252, yX2_takeBackLatest, "ClosedUntil"), (RX2, 34, yX3_dropReview, "ClosedUntil"), (RX8, 256, yX3_copyFrom, "ClosedUntil"), (RX8, 265, yX3_allReviews, "ClosedUntil"), (RX8, 269, yX3_allLifted, "ClosedUntil")]
def nw (U : State) : Prop := (∀ q ∈ nwF, va_Nw (.fieldLinkNest q.1 q.2.1 q.2.2.1 q.2.2.2.1 q.2.2.2.2.1 q.2.2.2.2.2) U) ∧ ∀ q ∈ nwM, va_Nw (.methodLinkNest q.1 q.2.1 q.2.2.1 q.2.2.2) U
theorem nw.warm {s U : State} (hW : s.WarmedH U.vm) (h : nw s) : nw U := ⟨fun q hq => va_Nw.warmF hW (h.1 q hq), fun q hq => va_Nw.warmM hW (h.2 q hq)⟩
theorem nw.same {s U : State} (e : s.vm = U.vm) (h : nw s) : nw U := ⟨fun q hq => va_Nw.same rfl e (h.1 q hq), fun q hq => va_Nw.same rfl e (h.2 q hq)⟩
theorem nf_0 {U : State} (h : nw U) : va_Nw (.fieldLinkNest RX8 81 "ClosedUntil$Tape" "bytes" "[B" "ClosedUntil") U := h.1 (RX8, 81, "ClosedUntil$Tape", "bytes", "[B", "ClosedUntil") (List.mem_of_getElem? (i := 0) rfl)
theorem nf_1 {U : State} (h : nw U) : va_Nw (.fieldLinkNest RX8 77 "ClosedUntil$Tape" "length" "I" "ClosedUntil") U := h.1 (RX8, 77, "ClosedUntil$Tape", "length", "I", "ClosedUntil") (List.mem_of_getElem? (i := 1) rfl)
theorem nf_2 {U : State} (h : nw U) : va_Nw (.fieldLinkNest RX5 48 "ClosedUntil$Tokens" "kind" "I" "ClosedUntil") U := h.1 (RX5, 48, "ClosedUntil$Tokens", "kind", "I", "ClosedUntil") (List.mem_of_getElem? (i := 2) rfl)
theorem nf_3 {U : State} (h : nw U) : va_Nw (.fieldLinkNest RX5 65 "ClosedUntil$Tokens" "place" "I" "ClosedUntil") U := h.1 (RX5, 65, "ClosedUntil$Tokens", "place", "I", "ClosedUntil") (List.mem_of_getElem? (i := 3) rfl)
theorem nf_4 {U : State} (h : nw U) : va_Nw (.fieldLinkNest RX5 185 "ClosedUntil$Tokens" "word" "J" "ClosedUntil") U := h.1 (RX5, 185, "ClosedUntil$Tokens", "word", "J", "ClosedUntil") (List.mem_of_getElem? (i := 4) rfl)
theorem nf_5 {U : State} (h : nw U) : va_Nw (.fieldLinkNest RX5 182 "ClosedUntil$Tokens" "number" "I" "ClosedUntil") U := h.1 (RX5, 182, "ClosedUntil$Tokens", "number", "I", "ClosedUntil") (List.mem_of_getElem? (i := 5) rfl)
theorem nf_6 {U : State} (h : nw U) : va_Nw (.fieldLinkNest RX8 145 "ClosedUntil$Timetable" "below" "[I" "ClosedUntil") U := h.1 (RX8, 145, "ClosedUntil$Timetable", "below", "[I", "ClosedUntil") (List.mem_of_getElem? (i := 6) rfl)
theorem nf_7 {U : State} (h : nw U) : va_Nw (.fieldLinkNest RX8 148 "ClosedUntil$Timetable" "depth" "[I" "ClosedUntil") U := h.1 (RX8, 148, "ClosedUntil$Timetable", "depth", "[I", "ClosedUntil") (List.mem_of_getElem? (i := 7) rfl)
theorem nf_8 {U : State} (h : nw U) : va_Nw (.fieldLinkNest RX8 187 "ClosedUntil$Timetable" "terms" "[[I" "ClosedUntil") U := h.1 (RX8, 187, "ClosedUntil$Timetable", "terms", "[[I", "ClosedUntil") (List.mem_of_getElem? (i := 8) rfl)
theorem nf_9 {U : State} (h : nw U) : va_Nw (.fieldLinkNest RX8 191 "ClosedUntil$Timetable" "ends" "[[I" "ClosedUntil") U := h.1 (RX8, 191, "ClosedUntil$Timetable", "ends", "[[I", "ClosedUntil") (List.mem_of_getElem? (i := 9) rfl)
theorem nf_10 {U : State} (h : nw U) : va_Nw (.fieldLinkNest RX8 249 "ClosedUntil$Journal" "size" "I" "ClosedUntil") U := h.1 (RX8, 249, "ClosedUntil$Journal", "size", "I", "ClosedUntil") (List.mem_of_getElem? (i := 10) rfl)
theorem nf_11 {U : State} (h : nw U) : va_Nw (.fieldLinkNest RX6 59 "ClosedUntil$State" "parent" "[I" "ClosedUntil") U := h.1 (RX6, 59, "ClosedUntil$State", "parent", "[I", "ClosedUntil") (List.mem_of_getElem? (i := 11) rfl)
theorem nf_12 {U : State} (h : nw U) : va_Nw (.fieldLinkNest RX5 113 "ClosedUntil$State" "parent" "[I" "ClosedUntil") U := h.1 (RX5, 113, "ClosedUntil$State", "parent", "[I", "ClosedUntil") (List.mem_of_getElem? (i := 12) rfl)
theorem nf_13 {U : State} (h : nw U) : va_Nw (.fieldLinkNest RX2 46 "ClosedUntil$State" "parent" "[I" "ClosedUntil") U := h.1 (RX2, 46, "ClosedUntil$State", "parent", "[I", "ClosedUntil") (List.mem_of_getElem? (i := 13) rfl)
theorem nf_14 {U : State} (h : nw U) : va_Nw (.fieldLinkNest RX8 128 "ClosedUntil$State" "parent" "[I" "ClosedUntil") U := h.1 (RX8, 128, "ClosedUntil$State", "parent", "[I", "ClosedUntil") (List.mem_of_getElem? (i := 14) rfl)
theorem nf_15 {U : State} (h : nw U) : va_Nw (.fieldLinkNest RX5 97 "ClosedUntil$State" "death" "[I" "ClosedUntil") U := h.1 (RX5, 97, "ClosedUntil$State", "death", "[I", "ClosedUntil") (List.mem_of_getElem? (i := 15) rfl)
theorem nf_16 {U : State} (h : nw U) : va_Nw (.fieldLinkNest RX2 43 "ClosedUntil$State" "death" "[I" "ClosedUntil") U := h.1 (RX2, 43, "ClosedUntil$State", "death", "[I", "ClosedUntil") (List.mem_of_getElem? (i := 16) rfl)
theorem nf_17 {U : State} (h : nw U) : va_Nw (.fieldLinkNest RX6 108 "ClosedUntil$State" "death" "[I" "ClosedUntil") U := h.1 (RX6, 108, "ClosedUntil$State", "death", "[I", "ClosedUntil") (List.mem_of_getElem? (i := 17) rfl)
theorem nf_18 {U : State} (h : nw U) : va_Nw (.fieldLinkNest RX8 157 "ClosedUntil$State" "death" "[I" "ClosedUntil") U := h.1 (RX8, 157, "ClosedUntil$State", "death", "[I", "ClosedUntil") (List.mem_of_getElem? (i := 18) rfl)
theorem nf_19 {U : State} (h : nw U) : va_Nw (.fieldLinkNest RX6 87 "ClosedUntil$State" "lifted" "[I" "ClosedUntil") U := h.1 (RX6, 87, "ClosedUntil$State", "lifted", "[I", "ClosedUntil") (List.mem_of_getElem? (i := 19) rfl)
theorem nf_20 {U : State} (h : nw U) : va_Nw (.fieldLinkNest RX2 40 "ClosedUntil$State" "lifted" "[I" "ClosedUntil") U := h.1 (RX2, 40, "ClosedUntil$State", "lifted", "[I", "ClosedUntil") (List.mem_of_getElem? (i := 20) rfl)
theorem nf_21 {U : State} (h : nw U) : va_Nw (.fieldLinkNest RX8 178 "ClosedUntil$State" "lifted" "[I" "ClosedUntil") U := h.1 (RX8, 178, "ClosedUntil$State", "lifted", "[I", "ClosedUntil") (List.mem_of_getElem? (i := 21) rfl)
theorem nf_22 {U : State} (h : nw U) : va_Nw (.fieldLinkNest RX6 120 "ClosedUntil$State" "reviews" "[I" "ClosedUntil") U := h.1 (RX6, 120, "ClosedUntil$State", "reviews", "[I", "ClosedUntil") (List.mem_of_getElem? (i := 22) rfl)
theorem nf_23 {U : State} (h : nw U) : va_Nw (.fieldLinkNest RX8 175 "ClosedUntil$State" "reviews" "[I" "ClosedUntil") U := h.1 (RX8, 175, "ClosedUntil$State", "reviews", "[I", "ClosedUntil") (List.mem_of_getElem? (i := 23) rfl)
theorem nf_24 {U : State} (h : nw U) : va_Nw (.fieldLinkNest RX6 123 "ClosedUntil$State" "reviewDay" "[[I" "ClosedUntil") U := h.1 (RX6, 123, "ClosedUntil$State", "reviewDay", "[[I", "ClosedUntil") (List.mem_of_getElem? (i := 24) rfl)
theorem nf_25 {U : State} (h : nw U) : va_Nw (.fieldLinkNest RX6 126 "ClosedUntil$State" "reviewYears" "[[I" "ClosedUntil") U := h.1 (RX6, 126, "ClosedUntil$State", "reviewYears", "[[I", "ClosedUntil") (List.mem_of_getElem? (i := 25) rfl)
theorem nf_26 {U : State} (h : nw U) : va_Nw (.fieldLinkNest RX5 72 "ClosedUntil$Holdings" "people" "I" "ClosedUntil") U := h.1 (RX5, 72, "ClosedUntil$Holdings", "people", "I", "ClosedUntil") (List.mem_of_getElem? (i := 26) rfl)
theorem nf_27 {U : State} (h : nw U) : va_Nw (.fieldLinkNest RX8 259 "ClosedUntil$Holdings" "people" "I" "ClosedUntil") U := h.1 (RX8, 259, "ClosedUntil$Holdings", "people", "I", "ClosedUntil") (List.mem_of_getElem? (i := 27) rfl)
theorem nf_28 {U : State} (h : nw U) : va_Nw (.fieldLinkNest RX5 94 "ClosedUntil$Holdings" "birth" "[I" "ClosedUntil") U := h.1 (RX5, 94, "ClosedUntil$Holdings", "birth", "[I", "ClosedUntil") (List.mem_of_getElem? (i := 28) rfl)
theorem nf_29 {U : State} (h : nw U) : va_Nw (.fieldLinkNest RX6 111 "ClosedUntil$Holdings" "birth" "[I" "ClosedUntil") U := h.1 (RX6, 111, "ClosedUntil$Holdings", "birth", "[I", "ClosedUntil") (List.mem_of_getElem? (i := 29) rfl)
theorem nf_30 {U : State} (h : nw U) : va_Nw (.fieldLinkNest RX8 154 "ClosedUntil$Holdings" "birth" "[I" "ClosedUntil") U := h.1 (RX8, 154, "ClosedUntil$Holdings", "birth", "[I", "ClosedUntil") (List.mem_of_getElem? (i := 30) rfl)
theorem nf_31 {U : State} (h : nw U) : va_Nw (.fieldLinkNest RX5 104 "ClosedUntil$Holdings" "deposits" "I" "ClosedUntil") U := h.1 (RX5, 104, "ClosedUntil$Holdings", "deposits", "I", "ClosedUntil") (List.mem_of_getElem? (i := 31) rfl)
theorem nf_32 {U : State} (h : nw U) : va_Nw (.fieldLinkNest RX8 262 "ClosedUntil$Holdings" "deposits" "I" "ClosedUntil") U := h.1 (RX8, 262, "ClosedUntil$Holdings", "deposits", "I", "ClosedUntil") (List.mem_of_getElem? (i := 32) rfl)
theorem nf_33 {U : State} (h : nw U) : va_Nw (.fieldLinkNest RX5 107 "ClosedUntil$Holdings" "depositDay" "[I" "ClosedUntil") U := h.1 (RX5, 107, "ClosedUntil$Holdings", "depositDay", "[I", "ClosedUntil") (List.mem_of_getElem? (i := 33) rfl)
theorem nf_34 {U : State} (h : nw U) : va_Nw (.fieldLinkNest RX6 114 "ClosedUntil$Holdings" "depositDay" "[I" "ClosedUntil") U := h.1 (RX6, 114, "ClosedUntil$Holdings", "depositDay", "[I", "ClosedUntil") (List.mem_of_getElem? (i := 34) rfl)
theorem nf_35 {U : State} (h : nw U) : va_Nw (.fieldLinkNest RX6 32 "ClosedUntil$Holdings" "pieces" "I" "ClosedUntil") U := h.1 (RX6, 32, "ClosedUntil$Holdings", "pieces", "I", "ClosedUntil") (List.mem_of_getElem? (i := 35) rfl)
theorem nf_36 {U : State} (h : nw U) : va_Nw (.fieldLinkNest RX5 110 "ClosedUntil$Holdings" "pieces" "I" "ClosedUntil") U := h.1 (RX5, 110, "ClosedUntil$Holdings", "pieces", "I", "ClosedUntil") (List.mem_of_getElem? (i := 36) rfl)
theorem nf_37 {U : State} (h : nw U) : va_Nw (.fieldLinkNest RX8 203 "ClosedUntil$Holdings" "pieces" "I" "ClosedUntil") U := h.1 (RX8, 203, "ClosedUntil$Holdings", "pieces", "I", "ClosedUntil") (List.mem_of_getElem? (i := 37) rfl)
theorem nf_38 {U : State} (h : nw U) : va_Nw (.fieldLinkNest RX5 120 "ClosedUntil$Holdings" "lastDay" "[I" "ClosedUntil") U := h.1 (RX5, 120, "ClosedUntil$Holdings", "lastDay", "[I", "ClosedUntil") (List.mem_of_getElem? (i := 38) rfl)
theorem nf_39 {U : State} (h : nw U) : va_Nw (.fieldLinkNest RX6 102 "ClosedUntil$Holdings" "lastDay" "[I" "ClosedUntil") U := h.1 (RX6, 102, "ClosedUntil$Holdings", "lastDay", "[I", "ClosedUntil") (List.mem_of_getElem? (i := 39) rfl)
theorem nf_40 {U : State} (h : nw U) : va_Nw (.fieldLinkNest RX8 132 "ClosedUntil$Holdings" "lastDay" "[I" "ClosedUntil") U := h.1 (RX8, 132, "ClosedUntil$Holdings", "lastDay", "[I", "ClosedUntil") (List.mem_of_getElem? (i := 40) rfl)
theorem nf_41 {U : State} (h : nw U) : va_Nw (.fieldLinkNest RX5 123 "ClosedUntil$Holdings" "peopleOf" "[I" "ClosedUntil") U := h.1 (RX5, 123, "ClosedUntil$Holdings", "peopleOf", "[I", "ClosedUntil") (List.mem_of_getElem? (i := 41) rfl)
theorem nf_42 {U : State} (h : nw U) : va_Nw (.fieldLinkNest RX8 135 "ClosedUntil$Holdings" "peopleOf" "[I" "ClosedUntil") U := h.1 (RX8, 135, "ClosedUntil$Holdings", "peopleOf", "[I", "ClosedUntil") (List.mem_of_getElem? (i := 42) rfl)
theorem nf_43 {U : State} (h : nw U) : va_Nw (.fieldLinkNest RX5 129 "ClosedUntil$Holdings" "depositOf" "[I" "ClosedUntil") U := h.1 (RX5, 129, "ClosedUntil$Holdings", "depositOf", "[I", "ClosedUntil") (List.mem_of_getElem? (i := 43) rfl)
theorem nf_44 {U : State} (h : nw U) : va_Nw (.fieldLinkNest RX8 138 "ClosedUntil$Holdings" "depositOf" "[I" "ClosedUntil") U := h.1 (RX8, 138, "ClosedUntil$Holdings", "depositOf", "[I", "ClosedUntil") (List.mem_of_getElem? (i := 44) rfl)
theorem nf_45 {U : State} (h : nw U) : va_Nw (.fieldLinkNest RX6 39 "ClosedUntil$Holdings" "closures" "I" "ClosedUntil") U := h.1 (RX6, 39, "ClosedUntil$Holdings", "closures", "I", "ClosedUntil") (List.mem_of_getElem? (i := 45) rfl)
theorem nf_46 {U : State} (h : nw U) : va_Nw (.fieldLinkNest RX5 136 "ClosedUntil$Holdings" "closures" "I" "ClosedUntil") U := h.1 (RX5, 136, "ClosedUntil$Holdings", "closures", "I", "ClosedUntil") (List.mem_of_getElem? (i := 46) rfl)
theorem nf_47 {U : State} (h : nw U) : va_Nw (.fieldLinkNest RX8 215 "ClosedUntil$Holdings" "closures" "I" "ClosedUntil") U := h.1 (RX8, 215, "ClosedUntil$Holdings", "closures", "I", "ClosedUntil") (List.mem_of_getElem? (i := 47) rfl)
theorem nf_48 {U : State} (h : nw U) : va_Nw (.fieldLinkNest RX6 99 "ClosedUntil$Holdings" "sort" "[I" "ClosedUntil") U := h.1 (RX6, 99, "ClosedUntil$Holdings", "sort", "[I", "ClosedUntil") (List.mem_of_getElem? (i := 48) rfl)
theorem nf_49 {U : State} (h : nw U) : va_Nw (.fieldLinkNest RX5 142 "ClosedUntil$Holdings" "sort" "[I" "ClosedUntil") U := h.1 (RX5, 142, "ClosedUntil$Holdings", "sort", "[I", "ClosedUntil") (List.mem_of_getElem? (i := 49) rfl)
theorem nf_50 {U : State} (h : nw U) : va_Nw (.fieldLinkNest RX8 166 "ClosedUntil$Holdings" "sort" "[I" "ClosedUntil") U := h.1 (RX8, 166, "ClosedUntil$Holdings", "sort", "[I", "ClosedUntil") (List.mem_of_getElem? (i := 50) rfl)
theorem nf_51 {U : State} (h : nw U) : va_Nw (.fieldLinkNest RX6 93 "ClosedUntil$Holdings" "subject" "[I" "ClosedUntil") U := h.1 (RX6, 93, "ClosedUntil$Holdings", "subject", "[I", "ClosedUntil") (List.mem_of_getElem? (i := 51) rfl)
theorem nf_52 {U : State} (h : nw U) : va_Nw (.fieldLinkNest RX5 145 "ClosedUntil$Holdings" "subject" "[I" "ClosedUntil") U := h.1 (RX5, 145, "ClosedUntil$Holdings", "subject", "[I", "ClosedUntil") (List.mem_of_getElem? (i := 52) rfl)
theorem nf_53 {U : State} (h : nw U) : va_Nw (.fieldLinkNest RX8 169 "ClosedUntil$Holdings" "subject" "[I" "ClosedUntil") U := h.1 (RX8, 169, "ClosedUntil$Holdings", "subject", "[I", "ClosedUntil") (List.mem_of_getElem? (i := 53) rfl)
theorem nf_54 {U : State} (h : nw U) : va_Nw (.fieldLinkNest RX6 73 "ClosedUntil$Holdings" "whole" "[Z" "ClosedUntil") U := h.1 (RX6, 73, "ClosedUntil$Holdings", "whole", "[Z", "ClosedUntil") (List.mem_of_getElem? (i := 54) rfl)
theorem nf_55 {U : State} (h : nw U) : va_Nw (.fieldLinkNest RX5 154 "ClosedUntil$Holdings" "whole" "[Z" "ClosedUntil") U := h.1 (RX5, 154, "ClosedUntil$Holdings", "whole", "[Z", "ClosedUntil") (List.mem_of_getElem? (i := 55) rfl)
theorem nf_56 {U : State} (h : nw U) : va_Nw (.fieldLinkNest RX8 172 "ClosedUntil$Holdings" "whole" "[Z" "ClosedUntil") U := h.1 (RX8, 172, "ClosedUntil$Holdings", "whole", "[Z", "ClosedUntil") (List.mem_of_getElem? (i := 56) rfl)
theorem nf_57 {U : State} (h : nw U) : va_Nw (.fieldLinkNest RX6 96 "ClosedUntil$Holdings" "years" "[[I" "ClosedUntil") U := h.1 (RX6, 96, "ClosedUntil$Holdings", "years", "[[I", "ClosedUntil") (List.mem_of_getElem? (i := 57) rfl)
theorem nf_58 {U : State} (h : nw U) : va_Nw (.fieldLinkNest RX5 158 "ClosedUntil$Holdings" "years" "[[I" "ClosedUntil") U := h.1 (RX5, 158, "ClosedUntil$Holdings", "years", "[[I", "ClosedUntil") (List.mem_of_getElem? (i := 58) rfl)
theorem nf_59 {U : State} (h : nw U) : va_Nw (.fieldLinkNest RX6 117 "ClosedUntil$Holdings" "untilDay" "[I" "ClosedUntil") U := h.1 (RX6, 117, "ClosedUntil$Holdings", "untilDay", "[I", "ClosedUntil") (List.mem_of_getElem? (i := 59) rfl)
theorem nf_60 {U : State} (h : nw U) : va_Nw (.fieldLinkNest RX5 151 "ClosedUntil$Holdings" "untilDay" "[I" "ClosedUntil") U := h.1 (RX5, 151, "ClosedUntil$Holdings", "untilDay", "[I", "ClosedUntil") (List.mem_of_getElem? (i := 60) rfl)
theorem nf_61 {U : State} (h : nw U) : va_Nw (.fieldLinkNest RX5 172 "ClosedUntil$Calendar" "MONTH_LENGTHS" "[I" "ClosedUntil") U := h.1 (RX5, 172, "ClosedUntil$Calendar", "MONTH_LENGTHS", "[I", "ClosedUntil") (List.mem_of_getElem? (i := 61) rfl)
theorem nm_0 {U : State} (h : nw U) : va_Nw (.methodLinkNest RX8 9 yX4_init "ClosedUntil") U := h.2 (RX8, 9, yX4_init, "ClosedUntil") (List.mem_of_getElem? (i := 0) rfl)
theorem nm_1 {U : State} (h : nw U) : va_Nw (.methodLinkNest RX8 18 yX5_init "ClosedUntil") U := h.2 (RX8, 18, yX5_init, "ClosedUntil") (List.mem_of_getElem? (i := 1) rfl)
theorem nm_2 {U : State} (h : nw U) : va_Nw (.methodLinkNest RX5 11 yX7_init "ClosedUntil") U := h.2 (RX5, 11, yX7_init, "ClosedUntil") (List.mem_of_getElem? (i := 2) rfl)
theorem nm_3 {U : State} (h : nw U) : va_Nw (.methodLinkNest RX8 25 yX6_init "ClosedUntil") U := h.2 (RX8, 25, yX6_init, "ClosedUntil") (List.mem_of_getElem? (i := 3) rfl)
theorem nm_4 {U : State} (h : nw U) : va_Nw (.methodLinkNest RX8 32 yX2_init "ClosedUntil") U := h.2 (RX8, 32, yX2_init, "ClosedUntil") (List.mem_of_getElem? (i := 4) rfl)
theorem nm_5 {U : State} (h : nw U) : va_Nw (.methodLinkNest RX8 43 yX3_init "ClosedUntil") U := h.2 (RX8, 43, yX3_init, "ClosedUntil") (List.mem_of_getElem? (i := 5) rfl)
theorem nm_6 {U : State} (h : nw U) : va_Nw (.methodLinkNest RX8 50 yX1_init "ClosedUntil") U := h.2 (RX8, 50, yX1_init, "ClosedUntil") (List.mem_of_getElem? (i := 6) rfl)
theorem nm_7 {U : State} (h : nw U) : va_Nw (.methodLinkNest RX8 69 yX4_hasRoom "ClosedUntil") U := h.2 (RX8, 69, yX4_hasRoom, "ClosedUntil") (List.mem_of_getElem? (i := 7) rfl)
theorem nm_8 {U : State} (h : nw U) : va_Nw (.methodLinkNest RX8 73 yX4_append "ClosedUntil") U := h.2 (RX8, 73, yX4_append, "ClosedUntil") (List.mem_of_getElem? (i := 8) rfl)
theorem nm_9 {U : State} (h : nw U) : va_Nw (.methodLinkNest RX8 85 yX5_read "ClosedUntil") U := h.2 (RX8, 85, yX5_read, "ClosedUntil") (List.mem_of_getElem? (i := 9) rfl)
theorem nm_10 {U : State} (h : nw U) : va_Nw (.methodLinkNest RX5 29 yX1_clear "ClosedUntil") U := h.2 (RX5, 29, yX1_clear, "ClosedUntil") (List.mem_of_getElem? (i := 10) rfl)
theorem nm_11 {U : State} (h : nw U) : va_Nw (.methodLinkNest RX5 34 yX3_clear "ClosedUntil") U := h.2 (RX5, 34, yX3_clear, "ClosedUntil") (List.mem_of_getElem? (i := 11) rfl)
theorem nm_12 {U : State} (h : nw U) : va_Nw (.methodLinkNest RX5 44 yX7_start "ClosedUntil") U := h.2 (RX5, 44, yX7_start, "ClosedUntil") (List.mem_of_getElem? (i := 12) rfl)
theorem nm_13 {U : State} (h : nw U) : va_Nw (.methodLinkNest RX5 75 yX7_advance "ClosedUntil") U := h.2 (RX5, 75, yX7_advance, "ClosedUntil") (List.mem_of_getElem? (i := 13) rfl)
theorem nm_14 {U : State} (h : nw U) : va_Nw (.methodLinkNest RX5 175 yX0_monthLength "ClosedUntil") U := h.2 (RX5, 175, yX0_monthLength, "ClosedUntil") (List.mem_of_getElem? (i := 14) rfl)
theorem nm_15 {U : State} (h : nw U) : va_Nw (.methodLinkNest RX5 178 yX0_numberOf "ClosedUntil") U := h.2 (RX5, 178, yX0_numberOf, "ClosedUntil") (List.mem_of_getElem? (i := 15) rfl)
theorem nm_16 {U : State} (h : nw U) : va_Nw (.methodLinkNest RX5 132 yX8_hasBit "ClosedUntil") U := h.2 (RX5, 132, yX8_hasBit, "ClosedUntil") (List.mem_of_getElem? (i := 16) rfl)
theorem nm_17 {U : State} (h : nw U) : va_Nw (.methodLinkNest RX8 92 yX2_forgetAll "ClosedUntil") U := h.2 (RX8, 92, yX2_forgetAll, "ClosedUntil") (List.mem_of_getElem? (i := 17) rfl)
theorem nm_18 {U : State} (h : nw U) : va_Nw (.methodLinkNest RX8 95 yX0_numberOf "ClosedUntil") U := h.2 (RX8, 95, yX0_numberOf, "ClosedUntil") (List.mem_of_getElem? (i := 18) rfl)
theorem nm_19 {U : State} (h : nw U) : va_Nw (.methodLinkNest RX8 101 yX0_has "ClosedUntil") U := h.2 (RX8, 101, yX0_has, "ClosedUntil") (List.mem_of_getElem? (i := 19) rfl)
theorem nm_20 {U : State} (h : nw U) : va_Nw (.methodLinkNest RX8 105 yX0_yearOf "ClosedUntil") U := h.2 (RX8, 105, yX0_yearOf, "ClosedUntil") (List.mem_of_getElem? (i := 20) rfl)
theorem nm_21 {U : State} (h : nw U) : va_Nw (.methodLinkNest RX8 109 yX0_monthOf "ClosedUntil") U := h.2 (RX8, 109, yX0_monthOf, "ClosedUntil") (List.mem_of_getElem? (i := 21) rfl)
theorem nm_22 {U : State} (h : nw U) : va_Nw (.methodLinkNest RX8 112 yX0_dayOfMonth "ClosedUntil") U := h.2 (RX8, 112, yX0_dayOfMonth, "ClosedUntil") (List.mem_of_getElem? (i := 22) rfl)
theorem nm_23 {U : State} (h : nw U) : va_Nw (.methodLinkNest RX8 115 yX0_dayOfWeek "ClosedUntil") U := h.2 (RX8, 115, yX0_dayOfWeek, "ClosedUntil") (List.mem_of_getElem? (i := 23) rfl)
theorem nm_24 {U : State} (h : nw U) : va_Nw (.methodLinkNest RX8 121 yX0_yearsOn "ClosedUntil") U := h.2 (RX8, 121, yX0_yearsOn, "ClosedUntil") (List.mem_of_getElem? (i := 24) rfl)
theorem nm_25 {U : State} (h : nw U) : va_Nw (.methodLinkNest RX8 125 yX1_hasPiece "ClosedUntil") U := h.2 (RX8, 125, yX1_hasPiece, "ClosedUntil") (List.mem_of_getElem? (i := 25) rfl)
theorem nm_26 {U : State} (h : nw U) : va_Nw (.methodLinkNest RX8 275 yX6_fill "ClosedUntil") U := h.2 (RX8, 275, yX6_fill, "ClosedUntil") (List.mem_of_getElem? (i := 26) rfl)
theorem nm_27 {U : State} (h : nw U) : va_Nw (.methodLinkNest RX6 47 yX1_isTarget "ClosedUntil") U := h.2 (RX6, 47, yX1_isTarget, "ClosedUntil") (List.mem_of_getElem? (i := 27) rfl)
theorem nm_28 {U : State} (h : nw U) : va_Nw (.methodLinkNest RX1 58 yX8_hasBit "ClosedUntil") U := h.2 (RX1, 58, yX8_hasBit, "ClosedUntil") (List.mem_of_getElem? (i := 28) rfl)
theorem nm_29 {U : State} (h : nw U) : va_Nw (.methodLinkNest RX6 105 yX0_yearsOn "ClosedUntil") U := h.2 (RX6, 105, yX0_yearsOn, "ClosedUntil") (List.mem_of_getElem? (i := 29) rfl)
theorem nm_30 {U : State} (h : nw U) : va_Nw (.methodLinkNest RX6 77 yX0_newYearBehind "ClosedUntil") U := h.2 (RX6, 77, yX0_newYearBehind, "ClosedUntil") (List.mem_of_getElem? (i := 30) rfl)
theorem nm_31 {U : State} (h : nw U) : va_Nw (.methodLinkNest RX8 151 yX1_hasPerson "ClosedUntil") U := h.2 (RX8, 151, yX1_hasPerson, "ClosedUntil") (List.mem_of_getElem? (i := 31) rfl)
theorem nm_32 {U : State} (h : nw U) : va_Nw (.methodLinkNest RX8 160 yX1_piecesOf "ClosedUntil") U := h.2 (RX8, 160, yX1_piecesOf, "ClosedUntil") (List.mem_of_getElem? (i := 32) rfl)
theorem nm_33 {U : State} (h : nw U) : va_Nw (.methodLinkNest RX8 163 yX1_hasClosure "ClosedUntil") U := h.2 (RX8, 163, yX1_hasClosure, "ClosedUntil") (List.mem_of_getElem? (i := 33) rfl)
theorem nm_34 {U : State} (h : nw U) : va_Nw (.methodLinkNest RX8 181 yX6_targetsOf "ClosedUntil") U := h.2 (RX8, 181, yX6_targetsOf, "ClosedUntil") (List.mem_of_getElem? (i := 34) rfl)
theorem nm_35 {U : State} (h : nw U) : va_Nw (.methodLinkNest RX8 184 yX6_closedUnder "ClosedUntil") U := h.2 (RX8, 184, yX6_closedUnder, "ClosedUntil") (List.mem_of_getElem? (i := 35) rfl)
theorem nm_36 {U : State} (h : nw U) : va_Nw (.methodLinkNest RX8 197 yX1_holdingFor "ClosedUntil") U := h.2 (RX8, 197, yX1_holdingFor, "ClosedUntil") (List.mem_of_getElem? (i := 36) rfl)
theorem nm_37 {U : State} (h : nw U) : va_Nw (.methodLinkNest RX8 200 yX6_openingOf "ClosedUntil") U := h.2 (RX8, 200, yX6_openingOf, "ClosedUntil") (List.mem_of_getElem? (i := 37) rfl)
theorem nm_38 {U : State} (h : nw U) : va_Nw (.methodLinkNest RX6 133 yX8_hasBit "ClosedUntil") U := h.2 (RX6, 133, yX8_hasBit, "ClosedUntil") (List.mem_of_getElem? (i := 38) rfl)
theorem nm_39 {U : State} (h : nw U) : va_Nw (.methodLinkNest RX8 218 yX6_closersOf "ClosedUntil") U := h.2 (RX8, 218, yX6_closersOf, "ClosedUntil") (List.mem_of_getElem? (i := 39) rfl)
theorem nm_40 {U : State} (h : nw U) : va_Nw (.methodLinkNest RX8 228 yX6_openOn "ClosedUntil") U := h.2 (RX8, 228, yX6_openOn, "ClosedUntil") (List.mem_of_getElem? (i := 40) rfl)
theorem nm_41 {U : State} (h : nw U) : va_Nw (.methodLinkNest RX8 231 yX6_pieceAt "ClosedUntil") U := h.2 (RX8, 231, yX6_pieceAt, "ClosedUntil") (List.mem_of_getElem? (i := 41) rfl)
theorem nm_42 {U : State} (h : nw U) : va_Nw (.methodLinkNest RX8 234 yX6_bestToLift "ClosedUntil") U := h.2 (RX8, 234, yX6_bestToLift, "ClosedUntil") (List.mem_of_getElem? (i := 42) rfl)
theorem nm_43 {U : State} (h : nw U) : va_Nw (.methodLinkNest RX8 242 yX3_addReview "ClosedUntil") U := h.2 (RX8, 242, yX3_addReview, "ClosedUntil") (List.mem_of_getElem? (i := 43) rfl)
theorem nm_44 {U : State} (h : nw U) : va_Nw (.methodLinkNest RX8 272 yX2_add "ClosedUntil") U := h.2 (RX8, 272, yX2_add, "ClosedUntil") (List.mem_of_getElem? (i := 44) rfl)
theorem nm_45 {U : State} (h : nw U) : va_Nw (.methodLinkNest RX8 252 yX2_takeBackLatest "ClosedUntil") U := h.2 (RX8, 252, yX2_takeBackLatest, "ClosedUntil") (List.mem_of_getElem? (i := 45) rfl)
theorem nm_46 {U : State} (h : nw U) : va_Nw (.methodLinkNest RX2 34 yX3_dropReview "ClosedUntil") U := h.2 (RX2, 34, yX3_dropReview, "ClosedUntil") (List.mem_of_getElem? (i := 46) rfl)
theorem nm_47 {U : State} (h : nw U) : va_Nw (.methodLinkNest RX8 256 yX3_copyFrom "ClosedUntil") U := h.2 (RX8, 256, yX3_copyFrom, "ClosedUntil") (List.mem_of_getElem? (i := 47) rfl)
theorem nm_48 {U : State} (h : nw U) : va_Nw (.methodLinkNest RX8 265 yX3_allReviews "ClosedUntil") U := h.2 (RX8, 265, yX3_allReviews, "ClosedUntil") (List.mem_of_getElem? (i := 48) rfl)
theorem nm_49 {U : State} (h : nw U) : va_Nw (.methodLinkNest RX8 269 yX3_allLifted "ClosedUntil") U := h.2 (RX8, 269, yX3_allLifted, "ClosedUntil") (List.mem_of_getElem? (i := 49) rfl)
/-- the constants that the code reads: the months' lengths, the keywords' text, a static of String, one of Preconditions -/
abbrev Gv : Type := Nat × Nat × Nat × Option Nat × ClassId × (Nat → Nat) × (Nat → Nat) × Nat
def mlL : List Int32 := [31, 28, 31, 30, 31, 30, 31, 31, 30, 31, 30, 31]
def mlf : Nat → Value := fun j => .int (mlL.getD j 0)
def kwL : List Int32 := [112, 101, 114, 115, 111, 110, 32, 98, 111, 114, 110, 32, 100, 105, 101, 100, 32, 100, 101, 112, 111, 115, 105, 116, 32, 112, 105, 101, 99, 101, 32, 105, 110, 32, 111, 102, 32, 102, 114, 111, 109, 32, 99, 108, 111, 115, 101, 32, 99, 111, 110, 116, 101, 110, 116, 32, 117, 110, 116, 105, 108, 32, 119, 104, 111, 108, 101, 32]
def kwf : Nat → Value := fun j => .int (kwL.getD j 0)
def sIx : List Nat := [205, 211, 213, 215, 217, 219, 221, 223, 224, 226, 228, 230]
def sNm : List String := ["person", "born", "died", "deposit", "piece", "in", "of", "from", "close", "content", "until", "whole"]
def sLn : List Nat := [6, 4, 4, 7, 5, 2, 2, 4, 5, 7, 5, 5]
def sBy : List (List Int32) := [[112, 101, 114, 115, 111, 110], [98, 111, 114, 110], [100, 105, 101, 100], [100, 101, 112, 111, 115, 105, 116], [112, 105, 101, 99, 101], [105, 110], [111, 102], [102, 114, 111, 109], [99, 108, 111, 115, 101], [99, 111, 110, 116, 101, 110, 116], [117, 110, 116, 105, 108], [119, 104, 111, 108, 101]]
def sbf (k : Nat) : Nat → Value := fun j => .int ((sBy.getD k []).getD j 0)
def aoL : List Int32 := [4, 0, 3, 4]
def aof : Nat → Value := fun j => .int (aoL.getD j 0)
/-- a text of the reference: k of the twelve -/
def Tx (g : Gv) (k : Nat) (A : Nat → Prop) (U : State) : Prop := va_O "java/lang/String" (g.2.2.2.2.2.1 k) A U U.heap ∧ va_OF "java/lang/String" "coder" "B" (.int 0) (g.2.2.2.2.2.1 k) A U U.heap ∧ va_OF "java/lang/String" "value" "[B" (.ref (g.2.2.2.2.2.2.1 k)) (g.2.2.2.2.2.1 k) A U U.heap ∧ va_T .byte (g.2.2.2.2.2.2.1 k) (sLn.getD k 0) (sbf k) A U U.heap
def Tr (g : Gv) (U : State) : Prop := ∀ k : Nat, k < 12 → vk_R RX9 (sIx.getD k 0) (sNm.getD k "") (g.2.2.2.2.2.1 k) U
def Ex (g : Gv) (A : Nat → Prop) (U : State) : Prop := va_Z "ClosedUntil$TextReader" "ASKED_OF" "[I" (.ref g.2.2.2.2.2.2.2) A U U.heap ∧ va_T .int g.2.2.2.2.2.2.2 4 aof A U U.heap ∧ (∀ k : Nat, k < 12 → Tx g k A U) ∧ Tr g U
theorem Ex.all {g : Gv} {A B : Nat → Prop} {s U : State} {H : Heap} (h : Ex g A s) (hq : ∀ a : Nat, a < s.heap.size → ¬ A a → H[a]? = s.heap[a]?) (hAB : ∀ q, B q → A q) (hU : U.heap = H) (hv : s.vm.Alike U.vm) (hR : Tr g U) : Ex g B U := by
  obtain ⟨h1, h2, h3, -⟩ := h
  subst hU
  refine ⟨((h1.kept hq).narrow hAB).moved hv, ((h2.kept hq).narrow hAB).moved hv, fun k hk => ?_, hR⟩
  obtain ⟨a, b, c, d⟩ := h3 k hk
  exact ⟨((a.kept hq).narrow hAB).moved hv, ((b.kept hq).narrow hAB).moved hv, ((c.kept hq).narrow hAB).moved hv, ((d.kept hq).narrow hAB).moved hv⟩
def Ev (g : Gv) (A : Nat → Prop) (U : State) : Prop := nw U ∧ va_Z "ClosedUntil$Calendar" "MONTH_LENGTHS" "[I" (.ref g.1) A U U.heap ∧ va_T .int g.1 12 mlf A U U.heap ∧ vk_R RX7 17 "person born died deposit piece in of from close content until whole " g.2.1 U ∧ va_O "java/lang/String" g.2.1 A U U.heap ∧ va_OF "java/lang/String" "coder" "B" (.int 0) g.2.1 A U U.heap ∧ va_OF "java/lang/String" "value" "[B" (.ref g.2.2.1) g.2.1 A U U.heap ∧ va_T .byte g.2.2.1 68 kwf A U U.heap ∧ va_Z "java/lang/String" "COMPACT_STRINGS" "Z" (.int 1) A U U.heap ∧ va_Z "jdk/internal/util/Preconditions" "SIOOBE_FORMATTER" "Ljava/util/function/BiFunction;" (va_rf g.2.2.2.1) A U U.heap ∧ va_AOA .int U ∧ va_AO "ClosedUntil$State" U ∧ U.vm.findClass (FieldType.array .int).toString = some g.2.2.2.2.1 ∧ Ex g A U
theorem Ev.all {g : Gv} {A B : Nat → Prop} {s U : State} {H : Heap} (h : Ev g A s) (hq : ∀ a : Nat, a < s.heap.size → ¬ A a → H[a]? = s.heap[a]?) (hAB : ∀ q, B q → A q) (hU : U.heap = H) (hv : s.vm.Alike U.vm) (hn : nw U) (hR : vk_R RX7 17 "person born died deposit piece in of from close content until whole " g.2.1 U) (hRx : Tr g U) : Ev g B U := by
  obtain ⟨-, h1, h2, -, h4, h5, h6, h7, h8, h9, hA1, hA2, hA3, hX⟩ := h
  have hX := hX.all hq hAB hU hv hRx
  subst hU
  exact ⟨hn, ((h1.kept hq).narrow hAB).moved hv, ((h2.kept hq).narrow hAB).moved hv, hR, ((h4.kept hq).narrow hAB).moved hv, ((h5.kept hq).narrow hAB).moved hv, ((h6.kept hq).narrow hAB).moved hv, ((h7.kept hq).narrow hAB).moved hv, ((h8.kept hq).narrow hAB).moved hv, ((h9.kept hq).narrow hAB).moved hv, hA1.moved hv, hA2.moved hv, by rw [hv.findClass]; exact hA3, hX⟩
theorem Ev.go {g : Gv} {A B : Nat → Prop} {s U : State} {H : Heap} {locs : List Loc} (h : Ev g A s) (hS : va_S A s.heap H locs) (hAB : ∀ q, B q → A q) (hU : U.heap = H) (hW : s.WarmedH U.vm) : Ev g B U :=
  h.all hS.2.1 hAB hU hW.alike (h.1.warm hW) (h.2.2.2.1.warm hW) (fun k hk => (h.2.2.2.2.2.2.2.2.2.2.2.2.2.2.2.2 k hk).warm hW)
theorem Ev.bl {g : Gv} {A : Nat → Prop} {U : State} {g9 : JFrame} {mk : MethodId} {a : Array Value} (h : Ev g A U) : Ev g A (U.calling g9 mk a) :=
  h.all (s := U) (U := U.calling g9 mk a) (fun _ _ _ => rfl) (fun _ q => q) rfl (Vm.Alike.refl U.vm) (h.1.same rfl) (vk_R.same rfl h.2.2.2.1) (fun k hk => vk_R.same rfl (h.2.2.2.2.2.2.2.2.2.2.2.2.2.2.2.2 k hk))
theorem dv_X1 : ∀ j, j < 14 → defaultValue (tyX1 j) = vp_V [.int 0, .null, .int 0, .null, .int 0, .null, .null, .null, .int 0, .null, .null, .null, .null, .null] j := by
  intro j hj
  rcases (show j = 0 ∨ j = 1 ∨ j = 2 ∨ j = 3 ∨ j = 4 ∨ j = 5 ∨ j = 6 ∨ j = 7 ∨ j = 8 ∨ j = 9 ∨ j = 10 ∨ j = 11 ∨ j = 12 ∨ j = 13 by omega) with rfl | rfl | rfl | rfl | rfl | rfl | rfl | rfl | rfl | rfl | rfl | rfl | rfl | rfl <;> rfl
theorem dv_X2 : ∀ j, j < 4 → defaultValue (tyX2 j) = vp_V [.null, .null, .null, .int 0] j := by
  intro j hj
  rcases (show j = 0 ∨ j = 1 ∨ j = 2 ∨ j = 3 by omega) with rfl | rfl | rfl | rfl <;> rfl
theorem dv_X3 : ∀ j, j < 6 → defaultValue (tyX3 j) = vp_V [.null, .null, .null, .null, .null, .null] j := by
  intro j hj
  rcases (show j = 0 ∨ j = 1 ∨ j = 2 ∨ j = 3 ∨ j = 4 ∨ j = 5 by omega) with rfl | rfl | rfl | rfl | rfl | rfl <;> rfl
theorem dv_X4 : ∀ j, j < 2 → defaultValue (tyX4 j) = vp_V [.null, .int 0] j := by
  intro j hj
  rcases (show j = 0 ∨ j = 1 by omega) with rfl | rfl <;> rfl
theorem dv_X5 : ∀ j, j < 6 → defaultValue (tyX5 j) = vp_V [.null, .null, .null, .null, .int 0, .int 0] j := by
  intro j hj
  rcases (show j = 0 ∨ j = 1 ∨ j = 2 ∨ j = 3 ∨ j = 4 ∨ j = 5 by omega) with rfl | rfl | rfl | rfl | rfl | rfl <;> rfl
theorem dv_X6 : ∀ j, j < 8 → defaultValue (tyX6 j) = vp_V [.null, .null, .null, .null, .null, .null, .int 0, .int 0] j := by
  intro j hj
  rcases (show j = 0 ∨ j = 1 ∨ j = 2 ∨ j = 3 ∨ j = 4 ∨ j = 5 ∨ j = 6 ∨ j = 7 by omega) with rfl | rfl | rfl | rfl | rfl | rfl | rfl | rfl <;> rfl
theorem dv_X7 : ∀ j, j < 8 → defaultValue (tyX7 j) = vp_V [.null, .null, .int 0, .int 0, .int 0, .int 0, .long 0, .int 0] j := by
  intro j hj
  rcases (show j = 0 ∨ j = 1 ∨ j = 2 ∨ j = 3 ∨ j = 4 ∨ j = 5 ∨ j = 6 ∨ j = 7 by omega) with rfl | rfl | rfl | rfl | rfl | rfl | rfl | rfl <;> rfl
theorem dv_X8 : ∀ j, j < 11 → defaultValue (tyX8 j) = vp_V [.null, .null, .null, .null, .null, .null, .null, .null, .null, .null, .int 0] j := by
  intro j hj
  rcases (show j = 0 ∨ j = 1 ∨ j = 2 ∨ j = 3 ∨ j = 4 ∨ j = 5 ∨ j = 6 ∨ j = 7 ∨ j = 8 ∨ j = 9 ∨ j = 10 by omega) with rfl | rfl | rfl | rfl | rfl | rfl | rfl | rfl | rfl | rfl | rfl <;> rfl
theorem dv_X9 : ∀ j, j < 44 → defaultValue (tyX9 j) = vp_V [.int 0, .int 0, .int 0, .int 0, .null, .int 0, .int 0, .int 0, .int 0, .int 0, .int 0, .long 0, .int 0, .int 0, .int 0, .int 0, .int 0, .int 0, .null, .null, .null, .null, .null, .null, .null, .null, .null, .null, .null, .null, .null, .null, .null, .null, .null, .null, .long 0, .int 0, .null, .null, .int 0, .null, .null, .null] j := by
  intro j hj
  rcases (show j = 0 ∨ j = 1 ∨ j = 2 ∨ j = 3 ∨ j = 4 ∨ j = 5 ∨ j = 6 ∨ j = 7 ∨ j = 8 ∨ j = 9 ∨ j = 10 ∨ j = 11 ∨ j = 12 ∨ j = 13 ∨ j = 14 ∨ j = 15 ∨ j = 16 ∨ j = 17 ∨ j = 18 ∨ j = 19 ∨ j = 20 ∨ j = 21 ∨ j = 22 ∨ j = 23 ∨ j = 24 ∨ j = 25 ∨ j = 26 ∨ j = 27 ∨ j = 28 ∨ j = 29 ∨ j = 30 ∨ j = 31 ∨ j = 32 ∨ j = 33 ∨ j = 34 ∨ j = 35 ∨ j = 36 ∨ j = 37 ∨ j = 38 ∨ j = 39 ∨ j = 40 ∨ j = 41 ∨ j = 42 ∨ j = 43 by omega) with rfl | rfl | rfl | rfl | rfl | rfl | rfl | rfl | rfl | rfl | rfl | rfl | rfl | rfl | rfl | rfl | rfl | rfl | rfl | rfl | rfl | rfl | rfl | rfl | rfl | rfl | rfl | rfl | rfl | rfl | rfl | rfl | rfl | rfl | rfl | rfl | rfl | rfl | rfl | rfl | rfl | rfl | rfl | rfl <;> rfl
