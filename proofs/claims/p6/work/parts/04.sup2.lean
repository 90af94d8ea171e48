/-! rows of arrays: any list of int rows behind the cells that are named -/
theorem va_P.pre {D : va_G} {cl : List vw_C} {x y : va_W} {H : Heap} (h : va_P D cl (x ++ y) H) : va_P D cl x H := fun k q hk => h k q (by rw [List.getElem?_append_left (List.getElem?_eq_some_iff.mp hk).1]; exact hk)
theorem va_D.pre {A : Nat → Prop} {x y : va_W} (h : va_D A (x ++ y)) : va_D A x :=
  have up : ∀ (k : Nat) (q : Nat × va_E), x[k]? = some q → (x ++ y)[k]? = some q := fun k q hk => by rw [List.getElem?_append_left (List.getElem?_eq_some_iff.mp hk).1]; exact hk
  ⟨fun i j p q hi hj e => h.1 i j p q (up i p hi) (up j q hj) e, fun k q hk => h.2 k q (up k q hk)⟩
def rowsOk (cy : ClassId) (K : Nat) (rows : va_W) : Prop := ∀ q ∈ rows, ∃ r : Nat → Int32, q.2 = .inl (cy, K, .inl r)
def gridOk (N : Nat) (gf : Nat → Option Nat) (rows : va_W) : Prop := ∀ i, i < N → ∃ (y : Nat) (e : va_E), gf i = some y ∧ (y, e) ∈ rows
theorem rowsOk.app {cy : ClassId} {K : Nat} {r1 r2 : va_W} (h1 : rowsOk cy K r1) (h2 : rowsOk cy K r2) : rowsOk cy K (r1 ++ r2) := fun q h => (List.mem_append.mp h).elim (h1 q) (h2 q)
theorem gridOk.left {N : Nat} {gf : Nat → Option Nat} {r1 : va_W} (r2 : va_W) (h : gridOk N gf r1) : gridOk N gf (r1 ++ r2) := fun i hi => by
  obtain ⟨y, e, h1, h2⟩ := h i hi
  exact ⟨y, e, h1, List.mem_append_left _ h2⟩
theorem gridOk.right {N : Nat} {gf : Nat → Option Nat} (r1 : va_W) {r2 : va_W} (h : gridOk N gf r2) : gridOk N gf (r1 ++ r2) := fun i hi => by
  obtain ⟨y, e, h1, h2⟩ := h i hi
  exact ⟨y, e, h1, List.mem_append_right _ h2⟩
theorem vr2P {D : va_G} {cl : List vw_C} {X r1 r2 : va_W} {x : Nat × va_E} {H : Heap} (hP : va_P D cl (((X ++ r1) ++ [x]) ++ r2) H) : va_P D cl ((X ++ [x]) ++ (r1 ++ r2)) H := by
  have h := va_P.swap hP
  rw [List.append_assoc X] at h
  exact va_P.swap h
theorem vr2D {A : Nat → Prop} {X r1 r2 : va_W} {x : Nat × va_E} (hD : va_D A (((X ++ r1) ++ [x]) ++ r2)) : va_D A ((X ++ [x]) ++ (r1 ++ r2)) := by
  have h := va_D.swap hD
  rw [List.append_assoc X] at h
  exact va_D.swap h
/-- the class of int rows, among the types -/
theorem cyK {D : va_G} {cl : List vw_C} {tys : List (ClassId × FieldType)} {s : State} {args : Array Value} {cy : ClassId} (hK : va_K D cl tys s) (h : (Cond.arrayClass .int).before args s = true) (hc : s.vm.findClass (FieldType.array .int).toString = some cy) : va_K D cl (tys ++ [(cy, .int)]) s := by
  obtain ⟨c, k, comp, h1, h2, h3⟩ := Cond.arrayClass_spec h
  have e : some c = some cy := h1.symm.trans hc
  cases e
  refine hK.app ⟨hK.1, fun i q hi => ?_⟩
  have hz : i < 1 := (List.getElem?_eq_some_iff.mp hi).1
  rw [show i = 0 by omega] at hi
  cases hi
  exact ⟨fun N z => ⟨(fun q hq => by cases hq), k, h2, comp, h3⟩, h1⟩
section SUPM
variable {p : Program} {l : Launch} {e : Env} {R : Room} {s : State} {m : MethodId} {args : Array Value} {below : List Frame} {meth : Method} {c : Code} {H : Heap} {locs : List Loc} {cells slots : Nat} {Q : State → Prop} {cc : ByteArray} {pc : Nat} {ls : Array Slot} {rest : List Value} {D : va_G} {cl : List vw_C} {A : Nat → Prop} {tys : List (ClassId × FieldType)} {ws : va_W} {H0 : Heap}
theorem mna (hexec : p.tables.exec = Jvm.exec) (hb : c.code = cc) {own : String} {index : Nat} {cy : ClassId} (hown : s.vm.findClass own = some m.cls) (hclink : (Cond.classLink own index "[[I").before args s = true) (hover : va_AOA .int s) (harr : (Cond.arrayClass .int).before args s = true) (hcy : s.vm.findClass (FieldType.array .int).toString = some cy)
    (hK : va_K D cl tys s) (hP : va_P D cl ws H) (hD : va_D A ws) (hS : va_S A H0 H locs) (hA : ∀ q, H0.size ≤ q → A q) {n k : Int32} {N' K' : Nat} (hn : ¬ n < 0) (hk : ¬ k < 0) (hN : n.toNatClampNeg = N') (hM : k.toNatClampNeg = K') (hb1 : N' * 4 ≤ 536870912) (hb2 : K' * 4 ≤ 536870912) (hcells : cells + (1 + N') ≤ R.cells) (hslots : slots + (N' + N' * K') ≤ R.slots) (hdg : decode cc pc = .ok (.multianewarray index 2, 4))
    (kk : ∀ (q : Nat) (gf : Nat → Option Nat) (rows : va_W) (cA : ClassId) (H1 : Heap), rowsOk cy K' rows → gridOk N' gf rows → va_K D cl (tys ++ [(cA, .array .int)]) s → va_P D cl ((ws ++ [(q, .inl (cA, N', .inr (.inr (.inr (.inr gf)))))]) ++ rows) H1 → va_D A ((ws ++ [(q, .inl (cA, N', .inr (.inr (.inr (.inr gf)))))]) ++ rows) → va_S A H0 H1 locs →
      W p l e R s m args below meth c H1 locs (cells + 1 + N') (slots + N' + N' * K') Q (F0 m (pc + 4) ls (.ref q :: rest))) : W p l e R s m args below meth c H locs cells slots Q (F0 m pc ls (.int k :: .int n :: rest)) := by
  have e0 : ws ++ va_pl [] (fun _ => (.inr (0, []) : va_E)) = ws := List.append_nil ws
  have hcl : ("[" ++ (FieldType.array .int).toString) = "[[I" := by decide
  refine va_mna (X := ws) (L := []) (f := fun _ => .inr (0, [])) (ty := .int) (cy := cy) (z := (K', .inl (fun _ => 0))) hexec hb hown (by rw [hcl]; exact hclink) hover harr hcy hK (by rw [e0]; exact hP) (by rw [e0]; exact hD) hS hA hn hk hN hM hb1 hb2 (by omega) rfl rfl hcells hslots (fun c => arrV_new c K' (.int 0)) hdg (fun q r cA H1 hinj _ hK hP hD hS => ?_)
  refine kk q _ _ cA H1 ?_ ?_ hK hP hD hS
  · intro x hx
    obtain ⟨a, ha, rfl⟩ := List.mem_map.mp hx
    rw [List.nil_append] at ha
    exact ⟨fun _ => 0, vr_up_in (α := va_E) (f := fun _ => .inr (0, [])) (v := .inl (cy, K', .inl (fun _ => 0))) ha⟩
  · intro i hi
    refine ⟨r i, _, if_pos hi, List.mem_map.mpr ⟨r i, ?_, rfl⟩⟩
    rw [List.nil_append]
    exact List.mem_map.mpr ⟨i, List.mem_range.mpr hi, rfl⟩
end SUPM
theorem Ev.recv {g : Gv} {A : Nat → Prop} {s : State} {H : Heap} {locs : List Loc} (h : Ev g A s) (hS : va_S A s.heap H locs) : ∃ cell : Cell, H[g.2.1]? = some cell ∧ cell.vm.isStatics = false ∧ s.vm.findClass RJ0 = some cell.cls := by
  obtain ⟨cell, h1, h2, h3, -⟩ := h.2.2.2.2.1.kept hS.2.1
  exact ⟨cell, h1, h2, h3⟩
theorem upd_all {f : Nat → Int32} {i : Nat} {v : Int32} (hi : i < 2 ^ 31) (h : ∀ j, j < i → f j = v) : ∀ j, j < i + 1 → upd f (nI i).toNatClampNeg v j = v := by
  intro j hj
  rw [nI_clamp hi]
  by_cases e : j = i
  · rw [e]; exact pk_us
  · rw [pk_un e]; exact h j (by omega)
