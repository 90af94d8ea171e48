/-! what the reference keeps -/
def fm (rk : Nat → Nat) (p : Int32) : Nat := if p.toInt = -1 then 0 else rk p.toInt.toNat + 1
/-- what hangs under what: a rank falls on the way up -/
def FO (n : Int) (f : Nat → Int32) (o : Nat) (rk : Nat → Nat) : Prop := ∀ p : Nat, (p : Int) < n → (f (o + p)).toInt = -1 ∨ (0 ≤ (f (o + p)).toInt ∧ (f (o + p)).toInt < n ∧ rk (f (o + p)).toInt.toNat < rk p)
def MO (f : Nat → Int32) (o : Nat) : Prop := ∀ c : Nat, c < 12 → 0 ≤ (f (o + 44 + c)).toInt ∧ (f (o + 44 + c)).toInt ≤ 5
def RowOk (n : Int) (f : Nat → Int32) (o : Nat) : Prop := (∃ rk : Nat → Nat, FO n f o rk) ∧ MO f o
theorem FO.step {n : Int} {f : Nat → Int32} {rk : Nat → Nat} {p x : Int32} (h : FO n f 0 rk) (h0 : 0 ≤ p.toInt) (h1 : p.toInt < n) (e : x = f p.toNatClampNeg) : x.toInt = -1 ∨ (0 ≤ x.toInt ∧ x.toInt < n ∧ rk x.toInt.toNat < rk p.toInt.toNat) := by
  have q := h p.toInt.toNat (by omega)
  rw [Nat.zero_add] at q
  rw [e, clN]; exact q
theorem fm_step {rk : Nat → Nat} {n : Int} {p x : Int32} (h : x.toInt = -1 ∨ (0 ≤ x.toInt ∧ x.toInt < n ∧ rk x.toInt.toNat < rk p.toInt.toNat)) (hp : p.toInt ≠ -1) : fm rk x < fm rk p := by
  unfold fm
  rw [if_neg hp]
  split <;> omega
theorem MO.at {f : Nat → Int32} {c i x : Int32} (h : MO f 0) (h0 : 0 ≤ c.toInt) (h1 : c.toInt < 12) (hi : i.toInt = 44 + c.toInt) (e : x = f i.toNatClampNeg) : 0 ≤ x.toInt ∧ x.toInt ≤ 5 := by
  have q := h c.toInt.toNat (by omega)
  have hk : i.toNatClampNeg = 0 + 44 + c.toInt.toNat := by rw [clN]; omega
  rw [e, hk]; exact q
/-- there is a way up that doesn't meet one -/
def UQ (f : Nat → Int32) (o x : Int32) : Prop := ∃ Q : Nat → Prop, (x.toInt = -1 ∨ Q x.toInt.toNat) ∧ ¬ Q o.toInt.toNat ∧ ∀ y, Q y → (f y).toInt = -1 ∨ Q (f y).toInt.toNat
theorem UQ.nil {f : Nat → Int32} {o x : Int32} (h : x.toInt = -1) : UQ f o x := ⟨fun _ => False, Or.inl h, fun q => q, fun _ q => q.elim⟩
theorem UQ.up {f : Nat → Int32} {o p x : Int32} (e : x = f p.toNatClampNeg) (h0 : 0 ≤ p.toInt) (h1 : 0 ≤ o.toInt) (hne : p.toInt ≠ o.toInt) (h : UQ f o x) : UQ f o p := by
  obtain ⟨Q, hx, ho, hc⟩ := h
  refine ⟨fun y => Q y ∨ y = p.toInt.toNat, Or.inr (Or.inr rfl), fun q => q.elim ho (fun q => by omega), fun y q => ?_⟩
  rcases q with q | q
  · exact (hc y q).imp id Or.inl
  · subst q
    have e2 : f p.toInt.toNat = x := e.symm
    rw [e2]; exact hx.imp id Or.inl
theorem MO.keep {f g : Nat → Int32} {k : Nat} {v : Int32} (h : MO f 0) (e : upd f k v = g) (hk : k < 44 ∨ 56 ≤ k) : MO g 0 := fun c hc => by
  rw [upd_ne e (by omega)]; exact h c hc
theorem MO.put {f g : Nat → Int32} {k : Nat} {v : Int32} (h : MO f 0) (e : upd f k v = g) (hv : 0 ≤ v.toInt ∧ v.toInt ≤ 5) : MO g 0 := fun c hc => by
  by_cases q : 0 + 44 + c = k
  · rw [q, upd_eq e]; exact hv
  · rw [upd_ne e q]; exact h c hc
theorem FO.keep {n : Int} {f g : Nat → Int32} {k : Nat} {v : Int32} {rk : Nat → Nat} (h : FO n f 0 rk) (e : upd f k v = g) (hn : n ≤ 24) (hk : 24 ≤ k) : FO n g 0 rk := fun p hp => by
  rw [upd_ne e (by omega)]; exact h p hp
theorem RowOk.keep {n : Int} {f g : Nat → Int32} {i v : Int32} (h : RowOk n f 0) (e : upd f i.toNatClampNeg v = g) (hn : n ≤ 24) (hi : 24 ≤ i.toInt ∧ i.toInt < 44 ∨ 56 ≤ i.toInt) : RowOk n g 0 := by
  obtain ⟨⟨rk, h1⟩, h2⟩ := h
  exact ⟨⟨rk, h1.keep e hn (by rw [clN]; omega)⟩, h2.keep e (by rw [clN]; omega)⟩
theorem RowOk.many {n : Int} {f g : Nat → Int32} {i v : Int32} (h : RowOk n f 0) (e : upd f i.toNatClampNeg v = g) (hn : n ≤ 24) (hi : 24 ≤ i.toInt) (hv : 0 ≤ v.toInt ∧ v.toInt ≤ 5) : RowOk n g 0 := by
  obtain ⟨⟨rk, h1⟩, h2⟩ := h
  exact ⟨⟨rk, h1.keep e hn (by rw [clN]; omega)⟩, h2.put e hv⟩
noncomputable def rkQ (Q : Nat → Prop) (rk : Nat → Nat) (m y : Nat) : Nat := @ite _ (Q y) (Classical.propDecidable _) (rk y) (rk y + m)
theorem rkQ_p {Q : Nat → Prop} {rk : Nat → Nat} {m y : Nat} (h : Q y) : rkQ Q rk m y = rk y := if_pos h
theorem rkQ_n {Q : Nat → Prop} {rk : Nat → Nat} {m y : Nat} (h : ¬ Q y) : rkQ Q rk m y = rk y + m := if_neg h
theorem RowOk.put {n : Int} {f g : Nat → Int32} {i v : Int32} (h : RowOk n f 0) (e : upd f i.toNatClampNeg v = g) (hn : n ≤ 24) (hi : 0 ≤ i.toInt ∧ i.toInt < n) (hv : v.toInt = -1 ∨ (0 ≤ v.toInt ∧ v.toInt < n ∧ UQ f i v)) : RowOk n g 0 := by
  obtain ⟨⟨rk, h1⟩, h2⟩ := h
  refine ⟨?_, h2.keep e (by rw [clN]; omega)⟩
  have hi2 : i.toNatClampNeg = i.toInt.toNat := rfl
  rcases hv with hv | ⟨v0, v1, Q, hx, ho, hc⟩
  · refine ⟨rk, fun p hp => ?_⟩
    rw [Nat.zero_add]
    by_cases q : p = i.toNatClampNeg
    · rw [q, upd_eq e]; exact Or.inl hv
    · rw [upd_ne e q]
      have := h1 p hp
      rw [Nat.zero_add] at this; exact this
  · have hx2 : Q v.toInt.toNat := hx.elim (fun q => by omega) id
    refine ⟨rkQ Q rk (rk v.toInt.toNat + 1), fun p hp => ?_⟩
    rw [Nat.zero_add]
    by_cases q : p = i.toNatClampNeg
    · rw [q, upd_eq e]
      refine Or.inr ⟨v0, v1, ?_⟩
      rw [rkQ_p hx2, rkQ_n (by rw [hi2]; exact ho)]
      omega
    · rw [upd_ne e q]
      have h3 := h1 p hp
      rw [Nat.zero_add] at h3
      rcases h3 with h3 | ⟨a, b, c⟩
      · exact Or.inl h3
      · refine Or.inr ⟨a, b, ?_⟩
        by_cases qp : Q p
        · rw [rkQ_p qp, rkQ_p ((hc p qp).elim (fun w => by omega) id)]; exact c
        · rw [rkQ_n qp]
          by_cases qf : Q (f p).toInt.toNat
          · rw [rkQ_p qf]; omega
          · rw [rkQ_n qf]; omega
def PTOk (f : Nat → Int32) (n : Int) : Prop := ∀ j : Nat, (j : Int) < n → (f (24 + j)).toInt = -1 ∨ (0 ≤ (f (24 + j)).toInt ∧ (f (24 + j)).toInt < (j : Int))
theorem PTOk.nil {f : Nat → Int32} {n : Int} (h : n ≤ 0) : PTOk f n := fun j hj => absurd hj (by omega)
theorem PTOk.keep {f g : Nat → Int32} {n : Int} {i v : Int32} (h : PTOk f n) (e : upd f i.toNatClampNeg v = g) (hi : i.toInt = 24 + n) (h0 : 0 ≤ n) : PTOk g n := fun j hj => by
  rw [upd_ne e (by rw [clN]; omega)]; exact h j hj
theorem PTOk.more {g : Nat → Int32} {n n' : Int} {i : Int32} (h : PTOk g n) (hv : (g i.toNatClampNeg).toInt = -1 ∨ (0 ≤ (g i.toNatClampNeg).toInt ∧ (g i.toNatClampNeg).toInt < n)) (hi : i.toInt = 24 + n) (hn : n' = n + 1) (h0 : 0 ≤ n) : PTOk g n' := fun j hj => by
  by_cases q : (j : Int) = n
  · have hk : i.toNatClampNeg = 24 + j := by rw [clN]; omega
    rw [hk] at hv; rw [q]; exact hv
  · exact h j (by omega)
def WQ (a w : Int32) : Prop := (a.toInt = 2 → 0 ≤ w.toInt ∧ w.toInt < 4) ∧ (a.toInt ≠ 0 ∧ a.toInt ≠ 2 ∧ a.toInt ≠ 3 → 0 ≤ w.toInt ∧ w.toInt < 8)
def WOk (a w : Nat → Int32) (o : Nat) (n : Int) : Prop := ∀ j : Nat, (j : Int) < n → WQ (a (o + j)) (w (o + j))
theorem WOk.nil {a w : Nat → Int32} {o : Nat} {n : Int} (h : n ≤ 0) : WOk a w o n := fun j hj => absurd hj (by omega)
theorem WOk.keepA {a w a' : Nat → Int32} {n : Int} {i v : Int32} (h : WOk a w 12 n) (e : upd a i.toNatClampNeg v = a') (hi : i.toInt = 12 + n) (h0 : 0 ≤ n) : WOk a' w 12 n := fun j hj => by
  rw [upd_ne e (by rw [clN]; omega)]; exact h j hj
theorem WOk.keepB {a w w' : Nat → Int32} {n : Int} {i v : Int32} (h : WOk a w 12 n) (e : upd w i.toNatClampNeg v = w') (hi : i.toInt = 12 + n) (h0 : 0 ≤ n) : WOk a w' 12 n := fun j hj => by
  rw [upd_ne e (by rw [clN]; omega)]; exact h j hj
theorem WOk.more {a w : Nat → Int32} {n n' : Int} {i v x : Int32} (h : WOk a w 12 n) (ha : a i.toNatClampNeg = v) (hw : w i.toNatClampNeg = x) (hi : i.toInt = 12 + n) (hn : n' = n + 1) (h0 : 0 ≤ n) (hv : WQ v x) : WOk a w 12 n' := fun j hj => by
  by_cases q : (j : Int) = n
  · have hk : i.toNatClampNeg = 12 + j := by rw [clN]; omega
    rw [← hk, ha, hw]; exact hv
  · exact h j (by omega)
theorem WOk.use {a w : Nat → Int32} {n : Int} {c x y : Int32} (h : WOk a w 0 n) (h0 : 0 ≤ c.toInt) (h1 : c.toInt < n) (ex : x = a c.toNatClampNeg) (ey : y = w c.toNatClampNeg) : (x.toInt = 2 → 0 ≤ y.toInt ∧ y.toInt < 4) ∧ (x.toInt ≠ 0 ∧ x.toInt ≠ 2 ∧ x.toInt ≠ 3 → 0 ≤ y.toInt ∧ y.toInt < 8) := by
  have q := h c.toInt.toNat (by omega)
  rw [Nat.zero_add] at q
  rw [ex, ey, clN]; exact q
/-- the first places stay as they are -/
def KP (m : Nat) (f z : Nat → Int32) : Prop := ∀ j : Nat, j < m → z j = f j
theorem KP.rf {m : Nat} {f : Nat → Int32} : KP m f f := fun _ _ => rfl
theorem KP.tr {m : Nat} {f g h : Nat → Int32} (h1 : KP m f g) (h2 : KP m g h) : KP m f h := fun j hj => (h2 j hj).trans (h1 j hj)
theorem KP.upd {m k : Nat} {f z : Nat → Int32} {v : Int32} (e : upd f k v = z) (hk : m ≤ k) : KP m f z := fun j hj => upd_ne e (by omega)
theorem kI {m : Nat} {i : Int32} (h : (m : Int) ≤ i.toInt) : m ≤ i.toNatClampNeg := by rw [clN]; omega
/-- places that come from others -/
def CPY (z f : Nat → Int32) (a b : Nat) (k : Int32) : Prop := ∀ j : Nat, (j : Int) < k.toInt → z (a + j) = f (b + j)
theorem CPY.nil {z f : Nat → Int32} {a b : Nat} {k : Int32} (h : k.toInt ≤ 0) : CPY z f a b k := fun j hj => absurd hj (by omega)
theorem CPY.step {z z' f : Nat → Int32} {a b : Nat} {k k' i q x : Int32} (h : CPY z f a b k) (e : upd z i.toNatClampNeg x = z') (ex : x = f q.toNatClampNeg) (hi : i.toInt = (a : Int) + k.toInt) (hq : q.toInt = (b : Int) + k.toInt) (h0 : 0 ≤ k.toInt) (hk : k'.toInt = k.toInt + 1) : CPY z' f a b k' := fun j hj => by
  by_cases w : (j : Int) = k.toInt
  · have h1 : i.toNatClampNeg = a + j := by rw [clN]; omega
    have h2 : q.toNatClampNeg = b + j := by rw [clN]; omega
    rw [h1] at e; rw [upd_eq e, ex, h2]
  · rw [upd_ne e (by rw [clN]; omega)]; exact h j (by omega)
/-- a row that moves down in its own array -/
def CPS (z f : Nat → Int32) (b : Nat) (k : Int32) : Prop := (∀ j : Nat, (j : Int) < k.toInt → z j = f (b + j)) ∧ ∀ j : Nat, k.toInt ≤ (j : Int) → z j = f j
theorem CPS.nil {f : Nat → Int32} {b : Nat} {k : Int32} (h : k.toInt ≤ 0) : CPS f f b k := ⟨fun j hj => absurd hj (by omega), fun _ _ => rfl⟩
theorem CPS.step {z z' f : Nat → Int32} {b : Nat} {k k' q x : Int32} (h : CPS z f b k) (e : upd z k.toNatClampNeg x = z') (ex : x = z q.toNatClampNeg) (hq : q.toInt = (b : Int) + k.toInt) (h0 : 0 ≤ k.toInt) (hk : k'.toInt = k.toInt + 1) : CPS z' f b k' := by
  refine ⟨fun j hj => ?_, fun j hj => ?_⟩
  · by_cases w : (j : Int) = k.toInt
    · have h1 : k.toNatClampNeg = j := by rw [clN]; omega
      have h2 : q.toNatClampNeg = b + j := by rw [clN]; omega
      rw [h1] at e; rw [upd_eq e, ex, h2]; exact h.2 _ (by omega)
    · rw [upd_ne e (by rw [clN]; omega)]; exact h.1 j (by omega)
  · rw [upd_ne e (by rw [clN]; omega)]; exact h.2 j (by omega)
def MZ (f : Nat → Int32) (k : Int32) : Prop := ∀ j : Nat, (j : Int) < k.toInt → (f (44 + j)).toInt = 0
theorem MZ.nil {f : Nat → Int32} {k : Int32} (h : k.toInt ≤ 0) : MZ f k := fun j hj => absurd hj (by omega)
theorem MZ.step {f f1 f2 : Nat → Int32} {k k' i i2 v w : Int32} (h : MZ f k) (e1 : upd f i.toNatClampNeg v = f1) (e2 : upd f1 i2.toNatClampNeg w = f2) (hi : i.toInt = 32 + k.toInt) (hi2 : i2.toInt = 44 + k.toInt) (hw : w.toInt = 0) (h0 : 0 ≤ k.toInt ∧ k.toInt < 12) (hk : k'.toInt = k.toInt + 1) : MZ f2 k' := fun j hj => by
  by_cases q : 44 + j = i2.toNatClampNeg
  · rw [q, upd_eq e2]; exact hw
  · rw [upd_ne e2 q, upd_ne e1 (by rw [clN]; omega)]
    rw [clN] at q
    exact h j (by omega)
theorem RowOk.copied {n n' : Int} {p s0 s' : Nat → Int32} {k k2 : Int32} (hpt : PTOk p n) (hn : n' = n) (h24 : n ≤ 24) (h1 : CPY s0 p 0 24 k) (hk : 24 ≤ k.toInt) (h2 : KP 24 s0 s') (h3 : MZ s' k2) (hk2 : 12 ≤ k2.toInt) : RowOk n' s' 0 := by
  subst hn
  refine ⟨⟨fun p => p, fun q hq => ?_⟩, fun c hc => ?_⟩
  · have a := h1 q (by omega)
    rw [Nat.zero_add] at a
    rw [Nat.zero_add, h2 q (by omega), a]
    rcases hpt q hq with b | ⟨b, c⟩
    · exact Or.inl b
    · exact Or.inr ⟨b, by omega, by show (p (24 + q)).toInt.toNat < q; omega⟩
  · rw [Nat.zero_add, h3 c (by omega)]; omega
theorem WOk.copied {a w a' w' : Nat → Int32} {n n' : Int} {k : Int32} (h : WOk a w 12 n) (hn : n' = n) (h12 : n ≤ 12) (h1 : CPS a' a 12 k) (h2 : CPS w' w 12 k) (hk : 12 ≤ k.toInt) : WOk a' w' 0 n' := fun j hj => by
  subst hn
  rw [Nat.zero_add, h1.1 j (by omega), h2.1 j (by omega)]; exact h j hj
def MU (n : Int) (f : Nat → Int32) (u : Int32) : Prop := ∀ k : Nat, (k : Int) < u.toInt → RowOk n f (176 * k)
def MK (n : Int) (f b : Nat → Int32) : Prop := ∀ k : Nat, k < 2 → (b k).toInt ≠ 0 → RowOk n f (176 * k)
theorem MU.nil {n : Int} {f : Nat → Int32} {u : Int32} (h : u.toInt ≤ 0) : MU n f u := fun k hk => absurd hk (by omega)
theorem RowOk.move {n : Int} {f z : Nat → Int32} {o o' : Nat} (h : RowOk n f o) (hn : n ≤ 24) (e : ∀ j, j < 176 → z (o' + j) = f (o + j)) : RowOk n z o' := by
  obtain ⟨⟨rk, h1⟩, h2⟩ := h
  refine ⟨⟨rk, fun p hp => ?_⟩, fun c hc => ?_⟩
  · rw [e p (by omega)]; exact h1 p hp
  · rw [Nat.add_assoc, e (44 + c) (by omega), ← Nat.add_assoc]; exact h2 c hc
theorem MU.at {n : Int} {f z : Nat → Int32} {u x k : Int32} (h : MU n f u) (hn : n ≤ 24) (h0 : 0 ≤ x.toInt) (hx : x.toInt < u.toInt) (hc : CPY z f 0 (176 * x.toNatClampNeg) k) (hk : 176 ≤ k.toInt) : RowOk n z 0 :=
  (h x.toNatClampNeg (by rw [clN]; omega)).move hn (fun j hj => hc j (by omega))
theorem MU.less {n : Int} {f : Nat → Int32} {u u' : Int32} (h : MU n f u) (hu : u'.toInt ≤ u.toInt) : MU n f u' := fun k hk => h k (by omega)
theorem MU.shift {n : Int} {f z : Nat → Int32} {u u' k : Int32} (h : MU n f u) (hn : n ≤ 24) (hu : u.toInt = 12) (hu' : u'.toInt = u.toInt - 1) (hc : CPS z f 176 k) (hk : 1936 ≤ k.toInt) : MU n z u' := fun q hq => by
  refine (h (q + 1) (by omega)).move hn (fun j hj => ?_)
  rw [hc.1 (176 * q + j) (by omega)]
  congr 1; omega
theorem MU.push {n : Int} {f z s : Nat → Int32} {u u' k : Int32} (h : MU n f u) (hs : RowOk n s 0) (hn : n ≤ 24) (h0 : 0 ≤ u.toInt) (hu' : u'.toInt = u.toInt + 1) (hk : KP (176 * u.toNatClampNeg) f z) (hc : CPY z s (176 * u.toNatClampNeg) 0 k) (hk2 : 176 ≤ k.toInt) : MU n z u' := fun q hq => by
  have hu : ((u.toNatClampNeg : Nat) : Int) = u.toInt := by rw [clN]; omega
  by_cases w : q = u.toNatClampNeg
  · subst w; exact hs.move hn (fun j hj => hc j (by omega))
  · exact (h q (by omega)).move hn (fun j hj => hk _ (by omega))
theorem RowOk.n {n n' : Int} {f : Nat → Int32} {o : Nat} (h : RowOk n f o) (e : n' = n) : RowOk n' f o := by rw [e]; exact h
theorem MU.n {n n' : Int} {f : Nat → Int32} {u : Int32} (h : MU n f u) (e : n' = n) : MU n' f u := by rw [e]; exact h
theorem MK.n {n n' : Int} {f b : Nat → Int32} (h : MK n f b) (e : n' = n) : MK n' f b := by rw [e]; exact h
theorem MK.nil {n : Int} {f b b1 b2 : Nat → Int32} (e1 : upd b (0 : Int32).toNatClampNeg (vp_nar .boolean (0)) = b1) (e2 : upd b1 (1 : Int32).toNatClampNeg (vp_nar .boolean (0)) = b2) : MK n f b2 := fun k hk hb => by
  have z : (vp_nar .boolean (0 : Int32)).toInt = 0 := by decide
  have h1 : (1 : Int32).toNatClampNeg = 1 := by decide
  have h0 : (0 : Int32).toNatClampNeg = 0 := by decide
  rw [h0] at e1; rw [h1] at e2
  rcases (show k = 0 ∨ k = 1 by omega) with q | q
  · subst q; rw [upd_ne e2 (by omega), upd_eq e1] at hb; exact absurd z hb
  · subst q; rw [upd_eq e2] at hb; exact absurd z hb
theorem MK.push {n : Int} {f z b b' s : Nat → Int32} {c k v : Int32} (h : MK n f b) (hs : RowOk n s 0) (hn : n ≤ 24) (h0 : 0 ≤ c.toInt ∧ c.toInt ≤ 1) (eb : upd b c.toNatClampNeg v = b') (hk : ∀ j, j < 352 → ¬ (176 * c.toNatClampNeg ≤ j ∧ j < 176 * c.toNatClampNeg + 176) → z j = f j) (hc : CPY z s (176 * c.toNatClampNeg) 0 k) (hk2 : 176 ≤ k.toInt) : MK n z b' := fun q hq hb => by
  by_cases w : q = c.toNatClampNeg
  · subst w; exact hs.move hn (fun j hj => hc j (by omega))
  · rw [upd_ne eb w] at hb
    exact (h q hq hb).move hn (fun j hj => hk _ (by omega) (by omega))
theorem MK.at {n : Int} {f b z : Nat → Int32} {c x k : Int32} (h : MK n f b) (hn : n ≤ 24) (h0 : 0 ≤ c.toInt ∧ c.toInt ≤ 1) (ex : x = b c.toNatClampNeg) (hx : x.toInt ≠ 0) (hc : CPY z f 0 (176 * c.toNatClampNeg) k) (hk : 176 ≤ k.toInt) : RowOk n z 0 :=
  (h c.toNatClampNeg (by rw [clN]; omega) (by rw [← ex]; exact hx)).move hn (fun j hj => hc j (by omega))
/-- outside of one row nothing changes -/
def OUT1 (m : Nat) (f z : Nat → Int32) : Prop := ∀ j, j < 352 → ¬ (m ≤ j ∧ j < m + 176) → z j = f j
theorem OUT1.rf {m : Nat} {f : Nat → Int32} : OUT1 m f f := fun _ _ _ => rfl
theorem OUT1.step {m k : Nat} {f z z' : Nat → Int32} {v : Int32} (h : OUT1 m f z) (e : upd z k v = z') (h1 : m ≤ k) (h2 : k < m + 176) : OUT1 m f z' := fun j hj hq => by
  rw [upd_ne e (fun w => hq ⟨by omega, by omega⟩)]; exact h j hj hq
theorem clE {u : Int32} (h : 0 ≤ u.toInt) : ((u.toNatClampNeg : Nat) : Int) = u.toInt := by rw [clN]; omega
theorem kp_step {m k : Nat} {f z z' : Nat → Int32} {v : Int32} (h : KP m f z) (e : upd z k v = z') (hk : m ≤ k) : KP m f z' := h.tr (KP.upd e hk)
theorem c1_step {x y z : Int32} (ez : z = x &&& y) (ey : y = x - 1) (h : x.toInt ≠ 0) : z.toBitVec.toNat < x.toBitVec.toNat := by
  subst ez; subst ey
  have hx : x.toBitVec.toNat ≠ 0 := fun q => h (by
    have h1 : x.toBitVec = 0#32 := BitVec.eq_of_toNat_eq (by rw [q]; rfl)
    show x.toBitVec.toInt = 0
    rw [h1]; rfl)
  show (x &&& (x - 1)).toBitVec.toNat < _
  rw [Int32.toBitVec_and, BitVec.toNat_and]
  have h2 := @Nat.and_le_right x.toBitVec.toNat (x - 1).toBitVec.toNat
  have h3 : (x - 1).toBitVec = x.toBitVec - 1#32 := rfl
  have h4 : (x.toBitVec - 1#32).toNat = x.toBitVec.toNat - 1 := by
    rw [BitVec.toNat_sub]
    have h5 := x.toBitVec.isLt
    have h6 : (1#32).toNat = 1 := rfl
    rw [h6]
    omega
  rw [h3, h4] at h2 ⊢
  omega
theorem WOk.kp {a w a' w' : Nat → Int32} {n n' : Int} (h : WOk a w 0 n) (hn : n' = n) (ha : KP 12 a a') (hw : KP 12 w w') (h12 : n ≤ 12) : WOk a' w' 0 n' := fun j hj => by
  rw [Nat.zero_add, ha j (by omega), hw j (by omega)]
  have q := h j (by omega)
  rw [Nat.zero_add] at q; exact q
