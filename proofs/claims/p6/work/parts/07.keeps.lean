/-! what the class keeps: subjects by their sorts, names by their kinds, the latest acts -/
def SubOk (a b : Nat → Int32) (j : Nat) : Prop := ((a j).toInt = 1 → 0 ≤ (b j).toInt ∧ (b j).toInt < 8) ∧ ((a j).toInt = 2 → 0 ≤ (b j).toInt ∧ (b j).toInt < 4)
theorem SubOk.use {a b : Nat → Int32} {j : Nat} {x y : Int32} (h : SubOk a b j) (ex : x = b j) (ey : y = a j) : (y.toInt = 1 → 0 ≤ x.toInt ∧ x.toInt < 8) ∧ (y.toInt = 2 → 0 ≤ x.toInt ∧ x.toInt < 4) := by rw [ex, ey]; exact h
def HOk (a b : Nat → Int32) (n : Int32) : Prop := ∀ j : Nat, (j : Int) < n.toInt → SubOk a b j
theorem HOk.at {a b : Nat → Int32} {n c : Int32} (h : HOk a b n) (h0 : 0 ≤ c.toInt) (h1 : c.toInt < n.toInt) : SubOk a b c.toNatClampNeg := h _ (by rw [clN]; omega)
theorem HOk.nil {a b : Nat → Int32} {n : Int32} (h : n.toInt ≤ 0) : HOk a b n := fun j hj => absurd hj (by omega)
theorem upd_ne {f z : Nat → Int32} {k j : Nat} {v : Int32} (e : upd f k v = z) (h : j ≠ k) : z j = f j := by subst e; unfold upd; rw [if_neg h]
theorem upd_eq {f z : Nat → Int32} {k : Nat} {v : Int32} (e : upd f k v = z) : z k = v := by subst e; unfold upd; rw [if_pos rfl]
theorem HOk.keep {a b a' b' : Nat → Int32} {n c v w : Int32} (h : HOk a b n) (e1 : upd a c.toNatClampNeg v = a') (e2 : upd b c.toNatClampNeg w = b') (hc : c.toInt = n.toInt) : HOk a' b' n := fun j hj => by
  have hne : j ≠ c.toNatClampNeg := by rw [clN]; omega
  unfold SubOk; rw [upd_ne e1 hne, upd_ne e2 hne]; exact h j hj
theorem HOk.grow {a b a' b' : Nat → Int32} {n n' c v w : Int32} (h : HOk a b n) (e1 : upd a c.toNatClampNeg v = a') (e2 : upd b c.toNatClampNeg w = b') (hc : c.toInt = n.toInt) (h0 : 0 ≤ n.toInt) (hn : n'.toInt = n.toInt + 1) (hv : (v.toInt = 1 → 0 ≤ w.toInt ∧ w.toInt < 8) ∧ (v.toInt = 2 → 0 ≤ w.toInt ∧ w.toInt < 4)) : HOk a' b' n' := fun j hj => by
  by_cases q : j = c.toNatClampNeg
  · subst q; unfold SubOk; rw [upd_eq e1, upd_eq e2]; exact hv
  · have hj2 : (j : Int) < n.toInt := by rw [clN] at q; omega
    unfold SubOk; rw [upd_ne e1 q, upd_ne e2 q]; exact h j hj2
def NOk (a b : Nat → Int32) (n : Int32) : Prop := ∀ j : Nat, (j : Int) < n.toInt → ((a j).toInt = 0 → 0 ≤ (b j).toInt ∧ (b j).toInt < 8) ∧ ((a j).toInt = 3 → 0 ≤ (b j).toInt ∧ (b j).toInt < 4)
theorem NOk.nil {a b : Nat → Int32} {n : Int32} (h : n.toInt ≤ 0) : NOk a b n := fun j hj => absurd hj (by omega)
theorem NOk.use {a b : Nat → Int32} {n c x y : Int32} (h : NOk a b n) (h0 : 0 ≤ c.toInt) (h1 : c.toInt < n.toInt) (ex : x = b c.toNatClampNeg) (ey : y = a c.toNatClampNeg) : (y.toInt = 0 → 0 ≤ x.toInt ∧ x.toInt < 8) ∧ (y.toInt = 3 → 0 ≤ x.toInt ∧ x.toInt < 4) := by rw [ex, ey]; exact h _ (by rw [clN]; omega)
theorem NOk.grow {a b a' b' : Nat → Int32} {n n' c v w : Int32} (h : NOk a b n) (e1 : upd a c.toNatClampNeg v = a') (e2 : upd b c.toNatClampNeg w = b') (hc : c.toInt = n.toInt) (h0 : 0 ≤ n.toInt) (hn : n'.toInt = n.toInt + 1) (hv : (v.toInt = 0 → 0 ≤ w.toInt ∧ w.toInt < 8) ∧ (v.toInt = 3 → 0 ≤ w.toInt ∧ w.toInt < 4)) : NOk a' b' n' := fun j hj => by
  by_cases q : j = c.toNatClampNeg
  · subst q; rw [upd_eq e1, upd_eq e2]; exact hv
  · have hj2 : (j : Int) < n.toInt := by rw [clN] at q; omega
    rw [upd_ne e1 q, upd_ne e2 q]; exact h j hj2
theorem aoAt : ∀ k : Nat, k < 4 → ((k : Int) = 1 → (aoL.getD k 0).toInt = 0) ∧ ((k : Int) = 2 → (aoL.getD k 0).toInt = 3) := by decide
theorem aoUse {c x : Int32} (h0 : 0 ≤ c.toInt) (h1 : c.toInt < 4) (e : x = aoL.getD c.toNatClampNeg 0) : (c.toInt = 1 → x.toInt = 0) ∧ (c.toInt = 2 → x.toInt = 3) := by
  have h := aoAt c.toNatClampNeg (by rw [clN]; omega)
  have hk : ((c.toNatClampNeg : Nat) : Int) = c.toInt := by rw [clN]; omega
  rw [hk] at h; rw [e]; exact h
/-- one place of an array goes up or down -/
def RevUp (f z : Nat → Int32) (k : Nat) (d : Int) : Prop := (∀ j, j ≠ k → z j = f j) ∧ (z k).toInt = (f k).toInt + d
theorem RevUp.of {f z : Nat → Int32} {k : Nat} {v x : Int32} {d : Int} (e : upd f k v = z) (ex : x = f k) (hv : v.toInt = x.toInt + d) : RevUp f z k d := ⟨fun _ h => upd_ne e h, by rw [upd_eq e, hv, ex]⟩
/-- the latest acts: what each may be, and how many are reviews of one closure -/
def JE (a w b : Int32) : Prop := (0 ≤ w.toInt ∧ w.toInt < 24) ∧ (a.toInt = 0 → w.toInt < 12 ∧ 0 ≤ b.toInt ∧ b.toInt ≤ 4) ∧ (a.toInt = 1 → w.toInt < 12) ∧ (a.toInt = 2 → w.toInt < 8)
def JA (f w b : Nat → Int32) (n : Int32) : Prop := ∀ j : Nat, (j : Int) < n.toInt → JE (f j) (w j) (b j)
def jc (f w : Nat → Int32) (c : Nat) : Nat → Nat
  | 0 => 0
  | n + 1 => jc f w c n + if (f n).toInt = 0 ∧ (w n).toInt = c then 1 else 0
theorem jc_congr {f w f' w' : Nat → Int32} {c : Nat} : ∀ n : Nat, (∀ j, j < n → f' j = f j ∧ w' j = w j) → jc f' w' c n = jc f w c n
  | 0, _ => rfl
  | n + 1, h => by
    unfold jc
    rw [jc_congr n (fun j hj => h j (by omega)), (h n (by omega)).1, (h n (by omega)).2]
theorem jc_shift {f w f' w' : Nat → Int32} {c : Nat} : ∀ n : Nat, (∀ j, j < n → f' j = f (j + 1) ∧ w' j = w (j + 1)) → jc f' w' c n ≤ jc f w c (n + 1)
  | 0, _ => Nat.zero_le _
  | n + 1, h => by
    have h1 := jc_shift (c := c) n (fun j hj => h j (by omega))
    have h2 := h n (by omega)
    show jc f' w' c n + _ ≤ jc f w c (n + 1) + _
    rw [h2.1, h2.2]
    exact Nat.add_le_add_right h1 _
def JC (f w : Nat → Int32) (n : Int32) (rv : Nat → Int32) : Prop := ∀ c : Nat, c < 12 → (jc f w c n.toInt.toNat : Int) ≤ (rv c).toInt
def SH (f z : Nat → Int32) (n : Int32) : Prop := ∀ j : Nat, (j : Int) + 1 < n.toInt → z j = f (j + 1)
theorem SH.of {f z : Nat → Int32} {n x : Int32} (e : va_cpy f f (1 : Int32).toNatClampNeg (0 : Int32).toNatClampNeg x.toNatClampNeg = z) (hx : x.toInt = n.toInt - 1) : SH f z n := fun j hj => by
  subst e
  have h1 : (1 : Int32).toNatClampNeg = 1 := by decide
  have h0 : (0 : Int32).toNatClampNeg = 0 := by decide
  unfold va_cpy
  rw [h1, h0, clN, if_pos ⟨Nat.zero_le _, by omega⟩]
  congr 1; omega
theorem JE.use {f w b : Nat → Int32} {n c x y z : Int32} (h : JA f w b n) (h0 : 0 ≤ c.toInt) (h1 : c.toInt < n.toInt) (ex : x = f c.toNatClampNeg) (ey : y = w c.toNatClampNeg) (ez : z = b c.toNatClampNeg) : (0 ≤ y.toInt ∧ y.toInt < 24) ∧ (x.toInt = 0 → y.toInt < 12 ∧ 0 ≤ z.toInt ∧ z.toInt ≤ 4) ∧ (x.toInt = 1 → y.toInt < 12) ∧ (x.toInt = 2 → y.toInt < 8) := by
  rw [ex, ey, ez]; exact h _ (by rw [clN]; omega)
theorem JA.nil {f w b : Nat → Int32} {n : Int32} (h : n.toInt ≤ 0) : JA f w b n := fun j hj => absurd hj (by omega)
theorem JA.less {f w b : Nat → Int32} {n n' : Int32} (h : JA f w b n) (hn : n'.toInt ≤ n.toInt) : JA f w b n' := fun j hj => h j (by omega)
theorem JA.shift {f w b f' w' b' : Nat → Int32} {n n' : Int32} (h : JA f w b n) (h1 : SH f f' n) (h2 : SH w w' n) (h3 : SH b b' n) (hn : n'.toInt = n.toInt - 1) : JA f' w' b' n' := fun j hj => by
  rw [h1 j (by omega), h2 j (by omega), h3 j (by omega)]; exact h _ (by omega)
theorem JA.grow {f w b f' w' b' : Nat → Int32} {n n' c x y z : Int32} (h : JA f w b n) (e1 : upd f c.toNatClampNeg x = f') (e2 : upd w c.toNatClampNeg y = w') (e3 : upd b c.toNatClampNeg z = b') (hc : c.toInt = n.toInt) (h0 : 0 ≤ n.toInt) (hn : n'.toInt = n.toInt + 1) (hv : JE x y z) : JA f' w' b' n' := fun j hj => by
  by_cases q : j = c.toNatClampNeg
  · subst q; rw [upd_eq e1, upd_eq e2, upd_eq e3]; exact hv
  · have hj2 : (j : Int) < n.toInt := by rw [clN] at q; omega
    rw [upd_ne e1 q, upd_ne e2 q, upd_ne e3 q]; exact h j hj2
/-- what one more act adds to the count -/
def J1 (f w f' w' : Nat → Int32) (n n' a y : Int32) : Prop := ∀ c : Nat, (jc f' w' c n'.toInt.toNat : Int) ≤ (jc f w c n.toInt.toNat : Int) + if a.toInt = 0 ∧ y.toInt = (c : Int) then 1 else 0
theorem J1.grow {f w f' w' : Nat → Int32} {n n' c x y : Int32} (e1 : upd f c.toNatClampNeg x = f') (e2 : upd w c.toNatClampNeg y = w') (hc : c.toInt = n.toInt) (h0 : 0 ≤ n.toInt) (hn : n'.toInt = n.toInt + 1) : J1 f w f' w' n n' x y := fun d => by
  have hk : c.toNatClampNeg = n.toInt.toNat := by rw [clN, hc]
  have hs : n'.toInt.toNat = n.toInt.toNat + 1 := by omega
  rw [hs, jc, jc_congr (f := f) (w := w) n.toInt.toNat (fun j hj => ⟨upd_ne e1 (by omega), upd_ne e2 (by omega)⟩)]
  rw [hk] at e1 e2
  rw [upd_eq e1, upd_eq e2]
  split <;> omega
theorem J1.pre {f w f' w' f2 w2 : Nat → Int32} {n n1 n' a y : Int32} (h1 : SH f f2 n) (h2 : SH w w2 n) (hn : n1.toInt = n.toInt - 1) (h0 : 1 ≤ n.toInt) (h : J1 f2 w2 f' w' n1 n' a y) : J1 f w f' w' n n' a y := fun d => by
  have h3 := jc_shift (f := f) (w := w) (f' := f2) (w' := w2) (c := d) n1.toInt.toNat (fun j hj => ⟨h1 j (by omega), h2 j (by omega)⟩)
  have h4 : n1.toInt.toNat + 1 = n.toInt.toNat := by omega
  rw [h4] at h3
  have h5 := h d
  omega
theorem JC.nil {f w rv : Nat → Int32} {n : Int32} (h : n.toInt ≤ 0) (hr : vr 0 5 rv) : JC f w n rv := fun c _ => by
  have h1 : n.toInt.toNat = 0 := by omega
  rw [h1]; exact (hr c).1
/-- an act that isn't a review -/
theorem JC.act {f w f' w' rv : Nat → Int32} {n n' a y : Int32} (h : JC f w n rv) (hj : J1 f w f' w' n n' a y) (ha : a.toInt ≠ 0) : JC f' w' n' rv := fun c hc => by
  have h1 := hj c
  have h2 := h c hc
  rw [if_neg (fun q => ha q.1)] at h1
  omega
theorem JC.rev {f w f' w' rv rv' : Nat → Int32} {n n' a y : Int32} (h : JC f w n rv) (hj : J1 f w f' w' n n' a y) (h0 : 0 ≤ y.toInt) (hr : RevUp rv rv' y.toNatClampNeg 1) : JC f' w' n' rv' := fun c hc => by
  have h1 := hj c
  have h2 := h c hc
  by_cases q : c = y.toNatClampNeg
  · subst q; rw [hr.2]; split at h1 <;> omega
  · rw [hr.1 c q, if_neg (fun z => q (by rw [clN]; omega))] at *
    omega
theorem JC.undo {f w rv : Nat → Int32} {n n' : Int32} (h : JC f w n rv) (hn : n'.toInt = n.toInt - 1) (h0 : 1 ≤ n.toInt) : JC f w n' rv := fun c hc => by
  have h2 := h c hc
  have hs : n.toInt.toNat = n'.toInt.toNat + 1 := by omega
  rw [hs, jc] at h2
  split at h2 <;> omega
theorem JC.one {f w rv : Nat → Int32} {n k x y : Int32} (h : JC f w n rv) (hn : k.toInt = n.toInt - 1) (h0 : 1 ≤ n.toInt) (ex : x = f k.toNatClampNeg) (ey : y = w k.toNatClampNeg) (hx : x.toInt = 0) (hy : 0 ≤ y.toInt ∧ y.toInt < 12) : 1 ≤ (rv y.toNatClampNeg).toInt := by
  have h2 := h y.toNatClampNeg (by rw [clN]; omega)
  have hs : n.toInt.toNat = k.toNatClampNeg + 1 := by rw [clN]; omega
  rw [hs, jc, ← ex, ← ey, if_pos ⟨hx, by rw [clN]; omega⟩] at h2
  omega
theorem JC.drop {f w rv rv' : Nat → Int32} {n k x y : Int32} (h : JC f w n rv) (hn : k.toInt = n.toInt - 1) (h0 : 1 ≤ n.toInt) (ex : x = f k.toNatClampNeg) (ey : y = w k.toNatClampNeg) (hx : x.toInt = 0) (hy : 0 ≤ y.toInt ∧ y.toInt < 12) (hr : RevUp rv rv' y.toNatClampNeg (-1)) : JC f w k rv' := fun c hc => by
  have h2 := h c hc
  have hs : n.toInt.toNat = k.toNatClampNeg + 1 := by rw [clN]; omega
  have hk : k.toInt.toNat = k.toNatClampNeg := rfl
  rw [hs, jc, ← ex, ← ey] at h2
  rw [hk]
  by_cases q : c = y.toNatClampNeg
  · subst q
    rw [if_pos ⟨hx, by rw [clN]; omega⟩] at h2
    rw [hr.2]; omega
  · rw [hr.1 c q]; split at h2 <;> omega
