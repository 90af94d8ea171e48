/-! numbers: what an int says as an integer -/
theorem i32b (x : Int32) : -2147483648 ≤ x.toInt ∧ x.toInt ≤ 2147483647 := by
  have h1 := Int32.le_toInt x
  have h2 := Int32.toInt_lt x
  constructor
  · exact h1
  · have h3 : (2 : Int) ^ 31 = 2147483648 := by decide
    omega
theorem bm32 {x : Int} (h : -2147483648 ≤ x ∧ x ≤ 2147483647) : x.bmod (2 ^ 32) = x := by
  have h3 : ((2 ^ 32 : Nat) : Int) = 4294967296 := by decide
  rw [Int.bmod_def, h3]
  split <;> omega
theorem ti_add {x a b : Int32} {u v : Int} (e : x = a + b) (ha : a.toInt = u) (hb : b.toInt = v) (h : -2147483648 ≤ u + v ∧ u + v ≤ 2147483647) : x.toInt = u + v := by
  rw [e, Int32.toInt_add, ha, hb]; exact bm32 h
theorem ti_sub {x a b : Int32} {u v : Int} (e : x = a - b) (ha : a.toInt = u) (hb : b.toInt = v) (h : -2147483648 ≤ u - v ∧ u - v ≤ 2147483647) : x.toInt = u - v := by
  rw [e, Int32.toInt_sub, ha, hb]; exact bm32 h
theorem ti_mul {x a b : Int32} {u v : Int} (e : x = a * b) (ha : a.toInt = u) (hb : b.toInt = v) (h : -2147483648 ≤ u * v ∧ u * v ≤ 2147483647) : x.toInt = u * v := by
  rw [e, Int32.toInt_mul, ha, hb]; exact bm32 h
theorem ti_and {x a b : Int32} {y : Int} (e : x = a &&& b) (hb : b.toInt = y) (h0 : 0 ≤ y) : 0 ≤ x.toInt ∧ x.toInt ≤ y := by
  subst e
  have h1 : b.toBitVec.toInt = y := hb
  rw [BitVec.toInt_eq_toNat_cond] at h1
  show 0 ≤ (a &&& b).toBitVec.toInt ∧ (a &&& b).toBitVec.toInt ≤ y
  rw [Int32.toBitVec_and, BitVec.toInt_eq_toNat_cond, BitVec.toNat_and]
  have h2 := @Nat.and_le_right a.toBitVec.toNat b.toBitVec.toNat
  have h4 := b.toBitVec.isLt
  have h3 : ((2 ^ 32 : Nat) : Int) = 4294967296 := by decide
  rw [h3] at *
  split at h1 <;> split <;> omega
theorem ti_max {x a b : Int32} {u v : Int} (e : x = if a < b then b else a) (ha : a.toInt = u) (hb : b.toInt = v) : (x.toInt = u ∨ x.toInt = v) ∧ u ≤ x.toInt ∧ v ≤ x.toInt := by
  have h := cv_lt ha hb
  by_cases q : a < b
  · rw [if_pos q] at e; have := h.mp q; rw [e, hb]; omega
  · rw [if_neg q] at e; have := mt h.mpr q; rw [e, ha]; omega
theorem ti_min {x a b : Int32} {u v : Int} (e : x = if b < a then b else a) (ha : a.toInt = u) (hb : b.toInt = v) : (x.toInt = u ∨ x.toInt = v) ∧ x.toInt ≤ u ∧ x.toInt ≤ v := by
  have h := cv_lt hb ha
  by_cases q : b < a
  · rw [if_pos q] at e; have := h.mp q; rw [e, hb]; omega
  · rw [if_neg q] at e; have := mt h.mpr q; rw [e, ha]; omega
theorem clN {i : Int32} : i.toNatClampNeg = i.toInt.toNat := rfl
theorem clI {i : Int32} {n : Nat} (h0 : 0 ≤ i.toInt) (h1 : i.toInt < n) : i.toNatClampNeg < n := by rw [clN]; omega
theorem vinI {i : Int32} {n : Nat} (h0 : 0 ≤ i.toInt) (h1 : i.toInt < n) : vp_in i n := by
  intro q
  rcases q with q | q
  · have := (cv_lt (a := i) (b := 0) rfl (by decide : (0 : Int32).toInt = 0)).mp q; omega
  · have := clI h0 h1; omega
theorem ngI {i : Int32} (h0 : 0 ≤ i.toInt) : ¬ i < 0 := fun q => by
  have := (cv_lt (a := i) (b := 0) rfl (by decide : (0 : Int32).toInt = 0)).mp q; omega
theorem cpB {a b : Int32} {n : Nat} {u v : Int} (ha : a.toInt = u) (hb : b.toInt = v) (h0 : 0 ≤ u) (h1 : 0 ≤ v) (h2 : u + v ≤ n) : a.toNatClampNeg + b.toNatClampNeg ≤ n := by
  rw [clN, clN, ha, hb]; omega
theorem narB {r : Int32} (h : r = 0 ∨ r = 1) : narrow .boolean (.int r) = .int r := by rcases h with rfl | rfl <;> rfl
theorem z01 {r : Int32} (h : r = 0 ∨ r = 1) : r.toInt = 0 ∨ r.toInt = 1 := by
  rcases h with rfl | rfl
  · exact Or.inl (by decide)
  · exact Or.inr (by decide)
/-! what an array holds lies between two numbers -/
def vr (lo hi : Int) (f : Nat → Int32) : Prop := ∀ j, lo ≤ (f j).toInt ∧ (f j).toInt ≤ hi
theorem vr_at {lo hi : Int} {f : Nat → Int32} {k : Nat} {x : Int32} (h : vr lo hi f) (e : x = f k) : lo ≤ x.toInt ∧ x.toInt ≤ hi := by rw [e]; exact h k
theorem vr_upd {lo hi : Int} {f f' : Nat → Int32} {k : Nat} {v : Int32} (e : upd f k v = f') (h : vr lo hi f) (hv : lo ≤ v.toInt ∧ v.toInt ≤ hi) : vr lo hi f' := by
  subst e; intro j; unfold upd; split
  · exact hv
  · exact h j
theorem vr_cpy {lo hi : Int} {f g f' : Nat → Int32} {a b n : Nat} (e : va_cpy f g a b n = f') (h1 : vr lo hi f) (h2 : vr lo hi g) : vr lo hi f' := by
  subst e; intro j; unfold va_cpy; split
  · exact h1 _
  · exact h2 j
/-! rows: the int arrays behind the cells that are named; what is in them doesn't count -/
theorem rowUp {X rows : va_W} {j n : Nat} {v : Nat × va_E} (hn : X.length = n) (h : rows[j]? = some v) : (X ++ rows)[n + j]? = some v := by
  subst hn
  rw [List.getElem?_append_right (by omega), show X.length + j - X.length = j by omega]; exact h
theorem rowSet {X rows : va_W} {j n : Nat} {v : Nat × va_E} (hn : X.length = n) : (X ++ rows).set (n + j) v = X ++ rows.set j v := by
  subst hn
  rw [List.set_append_right _ _ (by omega), show X.length + j - X.length = j by omega]
def RH (cy : ClassId) (K y : Nat) (rows : va_W) : Prop := ∃ (j : Nat) (r : Nat → Int32), rows[j]? = some (y, .inl (cy, K, .inl r))
def RS (cy : ClassId) (r0 rows : va_W) : Prop := ∀ (j y K : Nat) (r : Nat → Int32), r0[j]? = some (y, .inl (cy, K, .inl r)) → ∃ r' : Nat → Int32, rows[j]? = some (y, .inl (cy, K, .inl r'))
def GR (cy : ClassId) (K N : Nat) (gf : Nat → Option Nat) (rows : va_W) : Prop := ∀ i, i < N → ∃ y : Nat, gf i = some y ∧ RH cy K y rows
theorem RS.rf {cy : ClassId} {rows : va_W} : RS cy rows rows := fun _ _ _ r h => ⟨r, h⟩
theorem RS.tr {cy : ClassId} {a b c : va_W} (h1 : RS cy a b) (h2 : RS cy b c) : RS cy a c := fun j y K r h => by
  obtain ⟨r', h'⟩ := h1 j y K r h
  exact h2 j y K r' h'
theorem RS.rh {cy : ClassId} {K y : Nat} {a b : va_W} (h : RS cy a b) (q : RH cy K y a) : RH cy K y b := by
  obtain ⟨j, r, hr⟩ := q
  obtain ⟨r', h'⟩ := h j y K r hr
  exact ⟨j, r', h'⟩
theorem RS.gr {cy : ClassId} {K N : Nat} {gf : Nat → Option Nat} {a b : va_W} (h : RS cy a b) (q : GR cy K N gf a) : GR cy K N gf b := fun i hi => by
  obtain ⟨y, e, hy⟩ := q i hi
  exact ⟨y, e, h.rh hy⟩
theorem GR.at {cy : ClassId} {K N i : Nat} {gf : Nat → Option Nat} {a : va_W} (h : GR cy K N gf a) (hi : i < N) : ∃ y : Nat, gf i = some y ∧ RH cy K y a := h i hi
theorem RS.set {cy : ClassId} {r0 rows : va_W} {j y K : Nat} {r : Nat → Int32} (h : RS cy r0 rows) (f : Nat → Int32) (hj : rows[j]? = some (y, .inl (cy, K, .inl r))) : RS cy r0 (rows.set j (y, .inl (cy, K, .inl f))) := fun i z M q hq => by
  obtain ⟨q', h'⟩ := h i z M q hq
  by_cases e : i = j
  · subst e
    rw [hj] at h'
    cases h'
    exact ⟨f, by rw [List.getElem?_set_self (List.getElem?_eq_some_iff.mp hj).1]⟩
  · exact ⟨q', by rw [List.getElem?_set_ne (fun w => e w.symm)]; exact h'⟩
section JOINW
variable {p : Program} {l : Launch} {e : Env} {R : Room} {s : State} {m : MethodId} {args : Array Value} {below : List Frame} {meth : Method} {c : Code} {H : Heap} {locs : List Loc} {cells slots : Nat} {Q : State → Prop} {pc : Nat} {ls : Array Slot} {rest : List Value}
theorem topv {v w : Value} (h : v = w) (k : W p l e R s m args below meth c H locs cells slots Q (F0 m pc ls (w :: rest))) : W p l e R s m args below meth c H locs cells slots Q (F0 m pc ls (v :: rest)) := by rw [h]; exact k
/-- ways that come together: what holds there is shown once -/
theorem wjoin {pc1 : Nat} (I : Heap → List Loc → Array Slot → List Value → Prop)
    (h1 : ∀ H locs ls st, I H locs ls st → W p l e R s m args below meth c H locs cells slots Q (F0 m pc1 ls st))
    (h2 : (∀ H locs ls st, I H locs ls st → W p l e R s m args below meth c H locs cells slots Q (F0 m pc1 ls st)) → W p l e R s m args below meth c H locs cells slots Q (F0 m pc ls rest)) : W p l e R s m args below meth c H locs cells slots Q (F0 m pc ls rest) := h2 h1
end JOINW
/-! a heap's name -/
theorem atH {D : va_G} {cl : List vw_C} {w : va_W} {H H1 : Heap} (e : H = H1) (h : va_P D cl w H) : va_P D cl w H1 := e ▸ h
theorem atB {D : va_G} {cl : List vw_C} {w : va_W} {H H1 : Heap} (e : H = H1) (h : va_P D cl w H1) : va_P D cl w H := e ▸ h
theorem freeW {A0 : Nat → Prop} {wc : va_W} {H0 H : Heap} {locs : List Loc} (hD : va_D A0 wc) (hS : va_S A0 H0 H locs) (hA : ∀ q, H0.size ≤ q → A0 q) : ∀ q, va_A wc H.size q → A0 q := fun q h => by
  rcases h with ⟨k, e, hk⟩ | h
  · exact hD.2 k _ hk
  · exact hA q (Nat.le_trans hS.1 h)
