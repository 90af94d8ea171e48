/-! the calendar, in plain numbers -/
def lpB (y : Nat) : Bool := y % 4 == 0 && (y % 100 != 0 || y % 400 == 0)
def mlN (y m : Nat) : Nat := if m = 2 then (if lpB y then 29 else 28) else if m = 4 ∨ m = 6 ∨ m = 9 ∨ m = 11 then 30 else 31
/-- the first day of the year 1700 + k -/
def Fk (k : Nat) : Nat := 365 * k + ((k + 1699) / 4 + (k + 1699) / 400 - (k + 1699) / 100 - 412)
def yl (y : Nat) : Nat := if lpB y then 366 else 365
/-- the days of a year ahead of a month -/
def Mk (y : Nat) : Nat → Nat
  | 0 => 0
  | 1 => 0
  | m + 2 => Mk y (m + 1) + mlN y (m + 1)
theorem Fk_s : ∀ k, k < 600 → Fk (k + 1) = Fk k + yl (1700 + k) := by decide +kernel
theorem Fk_0 : Fk 0 = 0 := by decide
theorem Fk_600 : Fk 600 = 219145 := by decide
theorem Mk_s {y m : Nat} (h : 1 ≤ m) : Mk y (m + 1) = Mk y m + mlN y m := by
  obtain ⟨n, rfl⟩ : ∃ n, m = n + 1 := ⟨m - 1, by omega⟩
  rfl
theorem mlN_b (y m : Nat) : 28 ≤ mlN y m ∧ mlN y m ≤ 31 := by
  unfold mlN
  split
  · split <;> omega
  · split <;> omega
theorem Mk_13 (y : Nat) : Mk y 13 = yl y := by
  simp only [Mk, mlN, yl]
  cases lpB y <;> simp
theorem yl_b (y : Nat) : 365 ≤ yl y ∧ yl y ≤ 366 := by
  unfold yl; split <;> omega
theorem Fk_mono {a b : Nat} (h : a ≤ b) (hb : b ≤ 600) : Fk a ≤ Fk b := by
  induction b with
  | zero => have : a = 0 := by omega
            rw [this]; exact Nat.le_refl _
  | succ b ih =>
    rcases Nat.lt_or_ge a (b + 1) with q | q
    · have := ih (by omega) (by omega)
      have h2 := Fk_s b (by omega)
      omega
    · have : a = b + 1 := by omega
      rw [this]; exact Nat.le_refl _
theorem Fk_one {a b d : Nat} (ha : a < 600) (hb : b < 600) (h1 : Fk a ≤ d) (h2 : d < Fk (a + 1)) (h3 : Fk b ≤ d) (h4 : d < Fk (b + 1)) : a = b := by
  rcases Nat.lt_trichotomy a b with q | q | q
  · have := Fk_mono (a := a + 1) (b := b) (by omega) (by omega); omega
  · exact q
  · have := Fk_mono (a := b + 1) (b := a) (by omega) (by omega); omega
theorem Fk_ex {d : Nat} (h : d < 219145) : ∃ k, k < 600 ∧ Fk k ≤ d ∧ d < Fk (k + 1) := by
  have key : ∀ n, n ≤ 600 → d < Fk n → ∃ k, k < n ∧ Fk k ≤ d ∧ d < Fk (k + 1) := by
    intro n
    induction n with
    | zero => intro _ h0; rw [Fk_0] at h0; omega
    | succ n ih =>
      intro hn h1
      rcases Nat.lt_or_ge d (Fk n) with q | q
      · obtain ⟨k, a, b, c⟩ := ih (by omega) q
        exact ⟨k, by omega, b, c⟩
      · exact ⟨n, by omega, q, h1⟩
  exact key 600 (Nat.le_refl _) (by rw [Fk_600]; exact h)
theorem Fk_lo : ∀ k, k < 599 → Fk k ≤ 366 * k := by decide +kernel
theorem Fk_hi : ∀ k, k < 598 → 366 * k + 365 < Fk (k + 3) := by decide +kernel
theorem Mk_ex {y r : Nat} (h : r < yl y) : ∃ m, 1 ≤ m ∧ m ≤ 12 ∧ Mk y m ≤ r ∧ r < Mk y m + mlN y m := by
  have key : ∀ n, 1 ≤ n → n ≤ 13 → r < Mk y n → ∃ m, 1 ≤ m ∧ m < n ∧ Mk y m ≤ r ∧ r < Mk y m + mlN y m := by
    intro n h1
    induction n with
    | zero => omega
    | succ n ih =>
      intro hn h2
      rcases Nat.eq_zero_or_pos n with rfl | q0
      · exact absurd h2 (by simp [Mk])
      · rcases Nat.lt_or_ge r (Mk y n) with q | q
        · obtain ⟨m, a, b, c, d⟩ := ih q0 (by omega) q
          exact ⟨m, a, by omega, c, d⟩
        · exact ⟨n, q0, by omega, q, by rw [← Mk_s q0]; exact h2⟩
  obtain ⟨m, a, b, c, d⟩ := key 13 (by omega) (by omega) (by rw [Mk_13]; exact h)
  exact ⟨m, a, by omega, c, d⟩
theorem Mk_le {y a b : Nat} (h0 : 1 ≤ a) (h : a ≤ b) : Mk y a ≤ Mk y b := by
  induction b with
  | zero => omega
  | succ b ih =>
    rcases Nat.lt_or_ge a (b + 1) with q | q
    · have := ih (by omega)
      have h2 := Mk_s (y := y) (m := b) (by omega)
      omega
    · have : a = b + 1 := by omega
      rw [this]; exact Nat.le_refl _
theorem Mk_b {y a : Nat} (h0 : 1 ≤ a) (h : a ≤ 12) : Mk y a ≤ 335 := by
  have h1 := Mk_le (y := y) h0 (show a ≤ 13 by omega)
  have h2 := Mk_le (y := y) (show 1 ≤ 12 by omega) (show 12 ≤ 13 by omega)
  have h3 := Mk_le (y := y) h0 h
  have h4 := Mk_s (y := y) (m := 12) (by omega)
  have h5 : Mk y (12 + 1) = yl y := Mk_13 y
  have h6 := yl_b y
  have h7 : mlN y 12 = 31 := by simp [mlN]
  omega
/-- startOf, as the bytecode counts -/
theorem st_ok : ∀ y, y < 2301 → 1700 ≤ y → (365 : Int32) * (nI y - 1700) + ((nI y - 1) / 4 - (nI y - 1) / 100 + (nI y - 1) / 400 - 412) = nI (Fk (y - 1700)) := by decide +kernel
theorem Fk_b {k : Nat} (h : k ≤ 600) : Fk k ≤ 219145 := by
  have := Fk_mono h (Nat.le_refl 600)
  rw [Fk_600] at this; exact this
def mlB (m : Nat) : Nat := if m = 2 then 28 else if m = 4 ∨ m = 6 ∨ m = 9 ∨ m = 11 then 30 else 31
theorem ml_at : ∀ m, m < 13 → 1 ≤ m → mlL.getD (nI (m - 1)).toNatClampNeg 0 = nI (mlB m) := by decide +kernel
theorem mlB_b (m : Nat) : 28 ≤ mlB m ∧ mlB m ≤ 31 := by unfold mlB; split <;> (try split) <;> omega
theorem lpB_iff {y : Nat} : lpB y = true ↔ y % 4 = 0 ∧ (y % 100 ≠ 0 ∨ y % 400 = 0) := by simp [lpB]
theorem ml_a {y m : Nat} (h : m ≠ 2) : nI (mlB m) = nI (mlN y m) := by unfold mlB mlN; rw [if_neg h, if_neg h]
theorem ml_b {y m : Nat} (h : m = 2) (hy : y % 4 = 0 ∧ (y % 100 ≠ 0 ∨ y % 400 = 0)) : nI (mlB m + 1) = nI (mlN y m) := by
  unfold mlB mlN; rw [if_pos h, if_pos h, if_pos (lpB_iff.mpr hy)]
theorem ml_c {y m : Nat} (h : m = 2) (hy : ¬ (y % 4 = 0 ∧ (y % 100 ≠ 0 ∨ y % 400 = 0))) : nI (mlB m) = nI (mlN y m) := by
  unfold mlB mlN; rw [if_pos h, if_pos h, if_neg (fun q => hy (lpB_iff.mp q))]
theorem yo {d k : Nat} (hk : k < 600) (h1 : Fk k ≤ d) (h2 : d < Fk (k + 1)) (j : Nat) (hj : Fk (d / 366 + j) ≤ d) (h3 : d < Fk (d / 366 + j + 1)) (hb : d / 366 + j < 600) : nI (1700 + (d / 366 + j)) = nI (1700 + k) := by
  rw [Fk_one hb hk hj h3 h1 h2]
theorem yo0 {d k : Nat} (hk : k < 600) (h1 : Fk k ≤ d) (h2 : d < Fk (k + 1)) (hd : d < 219145) (h3 : d < Fk (d / 366 + 1)) : nI (1700 + d / 366) = nI (1700 + k) :=
  yo hk h1 h2 0 (by have := Fk_lo (d / 366) (by omega); show Fk (d / 366) ≤ d; omega) h3 (by omega)
theorem yo1 {d k : Nat} (hk : k < 600) (h1 : Fk k ≤ d) (h2 : d < Fk (k + 1)) (hd : d < 219145) (hj : Fk (d / 366 + 1) ≤ d) (h3 : d < Fk (d / 366 + 2)) : nI (1700 + (d / 366 + 1)) = nI (1700 + k) :=
  yo hk h1 h2 1 hj h3 (by omega)
theorem yo2 {d k : Nat} (hk : k < 600) (h1 : Fk k ≤ d) (h2 : d < Fk (k + 1)) (hd : d < 219145) (hj : Fk (d / 366 + 2) ≤ d) : nI (1700 + (d / 366 + 2)) = nI (1700 + k) := by
  have h5 : d / 366 < 598 := by
    rcases Nat.lt_or_ge (d / 366) 598 with q | q
    · exact q
    · have h6 : d / 366 = 598 := by omega
      rw [h6, show 598 + 2 = 600 from rfl, Fk_600] at hj
      omega
  exact yo hk h1 h2 2 hj (by have := Fk_hi (d / 366) h5; show d < Fk (d / 366 + 3); omega) (by omega)
theorem Mk_one {y r a b : Nat} (ha : 1 ≤ a) (hb : 1 ≤ b) (h1 : Mk y a ≤ r) (h2 : r < Mk y a + mlN y a) (h3 : Mk y b ≤ r) (h4 : r < Mk y b + mlN y b) : a = b := by
  rcases Nat.lt_trichotomy a b with q | q | q
  · have := Mk_le (y := y) (a := a + 1) (b := b) (by omega) (by omega)
    rw [Mk_s ha] at this; omega
  · exact q
  · have := Mk_le (y := y) (a := b + 1) (b := a) (by omega) (by omega)
    rw [Mk_s hb] at this; omega
theorem mdj {y r j mo : Nat} (j2 : j ≤ mo) (h1 : r < Mk y mo + mlN y mo) (h2 : Mk y j + mlN y j ≤ r) : j + 1 ≤ mo := by
  rcases Nat.lt_or_ge j mo with q | q
  · exact q
  · have h9 : j = mo := by omega
    rw [h9] at h2; omega
theorem w_lt {a b : Int64} {x y : Int} (ha : a.toInt = x) (hb : b.toInt = y) : lg_cmp a b < 0 ↔ x < y := by rw [lg_cmp_lt, ← ha, ← hb]; exact Int64.lt_iff_toInt_lt
theorem w_gt {a b : Int64} {x y : Int} (ha : a.toInt = x) (hb : b.toInt = y) : 0 < lg_cmp a b ↔ y < x := by rw [lg_cmp_gt, ← ha, ← hb]; exact Int64.lt_iff_toInt_lt
theorem w_li {a : Int32} {x : Int} (h : a.toInt = x) : a.toInt64.toInt = x := by rw [Int32.toInt_toInt64]; exact h
theorem di_a {y mo : Nat} (h : mo = 2) (q : lpB y = true) : (29 : Int32) = nI (mlN y mo) := by unfold mlN; rw [if_pos h, if_pos q]; rfl
theorem di_b {y mo : Nat} (h : mo = 2) (q : lpB y = false) : (28 : Int32) = nI (mlN y mo) := by unfold mlN; rw [if_pos h, if_neg (by rw [q]; decide)]; rfl
theorem di_c {y mo : Nat} (h : mo = 4 ∨ mo = 6 ∨ mo = 9 ∨ mo = 11) : (30 : Int32) = nI (mlN y mo) := by unfold mlN; rw [if_neg (by omega), if_pos h]; rfl
theorem di_d {y mo : Nat} (h2 : mo ≠ 2) (h : ¬ (mo = 4 ∨ mo = 6 ∨ mo = 9 ∨ mo = 11)) : (31 : Int32) = nI (mlN y mo) := by unfold mlN; rw [if_neg h2, if_neg h]; rfl
theorem yl_1 {y : Nat} (q : lpB y = true) : yl y = 366 := by unfold yl; rw [if_pos q]
theorem yl_0 {y : Nat} (q : lpB y = false) : yl y = 365 := by unfold yl; rw [if_neg (by rw [q]; decide)]
theorem fo_1 {j : Nat} (h : j < 600) (q : lpB (1700 + j) = true) : nI (Fk j) + 366 = nI (Fk (j + 1)) := by rw [Fk_s j h, yl_1 q]; exact nI_add (Fk j) 366
theorem fo_0 {j : Nat} (h : j < 600) (q : lpB (1700 + j) = false) : nI (Fk j) + 365 = nI (Fk (j + 1)) := by rw [Fk_s j h, yl_0 q]; exact nI_add (Fk j) 365
theorem ta_s {j d w : Nat} (h : j < 600) (hw : yl (1700 + j) = w) (h2 : Fk j + w ≤ d) : nI (d - Fk j) - nI w = nI (d - Fk (j + 1)) := by
  rw [Fk_s j h, hw]; exact (pk_sub (a := d - Fk j) (b := w) (by omega)).trans (congrArg nI (by omega))
theorem ta_j {j k d w : Nat} (hk : k < 600) (hj : j ≤ k) (h1 : Fk k ≤ d) (hw : yl (1700 + j) = w) (h2 : d < Fk j + w) : k = j := by
  rcases Nat.lt_or_ge j k with q | q
  · have h5 := Fk_mono (a := j + 1) (b := k) (by omega) (by omega)
    rw [Fk_s j (by omega), hw] at h5
    omega
  · omega
theorem ta_n {j k d w : Nat} (hk : k < 600) (hj : j ≤ k) (h1 : d < Fk (k + 1)) (hw : yl (1700 + j) = w) (h2 : Fk j + w ≤ d) : j + 1 ≤ k := by
  rcases Nat.lt_or_ge j k with q | q
  · exact q
  · have h9 : j = k := by omega
    rw [h9] at hw h2; rw [Fk_s k hk, hw] at h1; omega
theorem w_ge {a b : Int64} {x y : Int} (ha : a.toInt = x) (hb : b.toInt = y) : 0 ≤ lg_cmp a b ↔ y ≤ x := by rw [lg_cmp_ge, ← ha, ← hb]; exact Int64.le_iff_toInt_le
