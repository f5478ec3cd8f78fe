/-! THE SMALL MACHINE. A state: (pc, locals, stack, world, cells made, slots made); a reference is a place of the world. -/
abbrev mx_C : Type := (Nat × vp_A) ⊕ (Nat × List Value)
abbrev mx_W : Type := List mx_C
abbrev mx_L : Type := List (Nat × Value)
abbrev mx_S : Type := Nat × mx_L × List Value × mx_W × Nat × Nat
abbrev mx_A : Type := Option Value × mx_W × Nat × Nat
/-- a method: name, own class, bytes, locals, answer, rank, parameters, kind (0 of an object, 1 static, 2 a constructor) and class; its links: fields (index, class, place), calls (index, number), classes (index, class), int constants, long constants -/
abbrev mx_M : Type := MethodName × String × ByteArray × Nat × Option FieldType × Nat × Nat × (Nat × Nat) × List (Nat × Nat × Nat) × List (Nat × Nat) × List (Nat × Nat) × List (Nat × Int32) × List (Nat × Int64)
abbrev mx_y (M : mx_M) : MethodName := M.1
abbrev mx_own (M : mx_M) : String := M.2.1
abbrev mx_cc (M : mx_M) : ByteArray := M.2.2.1
abbrev mx_ml (M : mx_M) : Nat := M.2.2.2.1
abbrev mx_ret (M : mx_M) : Option FieldType := M.2.2.2.2.1
abbrev mx_rk (M : mx_M) : Nat := M.2.2.2.2.2.1
abbrev mx_np (M : mx_M) : Nat := M.2.2.2.2.2.2.1
abbrev mx_kd (M : mx_M) : Nat := M.2.2.2.2.2.2.2.1.1
abbrev mx_ci (M : mx_M) : Nat := M.2.2.2.2.2.2.2.1.2
abbrev mx_lf (M : mx_M) : List (Nat × Nat × Nat) := M.2.2.2.2.2.2.2.2.1
abbrev mx_lm (M : mx_M) : List (Nat × Nat) := M.2.2.2.2.2.2.2.2.2.1
abbrev mx_lc (M : mx_M) : List (Nat × Nat) := M.2.2.2.2.2.2.2.2.2.2.1
abbrev mx_lk (M : mx_M) : List (Nat × Int32) := M.2.2.2.2.2.2.2.2.2.2.2.1
abbrev mx_ll (M : mx_M) : List (Nat × Int64) := M.2.2.2.2.2.2.2.2.2.2.2.2
def mx_fd {α : Type} (l : List (Nat × α)) (i : Nat) : Option α := (l.find? (fun q => q.1 == i)).map (fun q => q.2)
theorem mx_fd_mem {α : Type} {l : List (Nat × α)} {i : Nat} {a : α} (h : mx_fd l i = some a) : (i, a) ∈ l := by
  unfold mx_fd at h
  cases hq : l.find? (fun q => q.1 == i) with
  | none => rw [hq] at h; cases h
  | some q =>
    rw [hq] at h
    have h1 := List.mem_of_find?_eq_some hq
    have h2 := List.find?_some hq
    obtain ⟨q1, q2⟩ := q
    have e1 : q1 = i := by simpa using h2
    have e2 : q2 = a := by simpa using h
    rw [← e1, ← e2]
    exact h1
/-- a value over the heap: a place becomes an address -/
def mx_v (ad : Nat → Nat) (v : Value) : Value := match v with
  | .ref k => .ref (ad k)
  | v => v
theorem mx_v_cat (ad : Nat → Nat) (v : Value) : (mx_v ad v).category = v.category := by cases v <;> rfl
def mx_l (ad : Nat → Nat) (L : mx_L) : List (Nat × Value) := L.map (fun q => (q.1, mx_v ad q.2))
def mx_c (cT : Nat → ClassId) (ad : Nat → Nat) (c : mx_C) : va_E := match c with
  | .inl a => .inl (cT a.1, a.2)
  | .inr o => .inr (o.1, o.2.map (mx_v ad))
def mx_w (cT : Nat → ClassId) (ad : Nat → Nat) (w : mx_W) : va_W := w.mapIdx fun k c => (ad k, mx_c cT ad c)
theorem mx_w_at {cT : Nat → ClassId} {ad : Nat → Nat} {w : mx_W} {k : Nat} {c : mx_C} (h : w[k]? = some c) : (mx_w cT ad w)[k]? = some (ad k, mx_c cT ad c) := by
  unfold mx_w
  rw [List.getElem?_mapIdx, h]
  rfl
theorem mx_w_len {cT : Nat → ClassId} {ad : Nat → Nat} {w : mx_W} : (mx_w cT ad w).length = w.length := by
  unfold mx_w
  exact List.length_mapIdx
theorem mx_w_set {cT : Nat → ClassId} {ad : Nat → Nat} {w : mx_W} {k : Nat} {c : mx_C} : (mx_w cT ad w).set k (ad k, mx_c cT ad c) = mx_w cT ad (w.set k c) := by
  apply List.ext_getElem?
  intro j
  unfold mx_w
  rw [List.getElem?_set, List.getElem?_mapIdx, List.getElem?_mapIdx, List.getElem?_set, List.length_mapIdx]
  by_cases h : k = j
  · subst h
    by_cases h2 : k < w.length
    · simp [h2]
    · simp [h2]
  · simp [h]
def mx_okv (n : Nat) (v : Value) : Bool := match v with
  | .ref k => Nat.blt k n || Nat.ble 1000 k
  | _ => true
def mx_okc (n : Nat) (c : mx_C) : Bool := match c with
  | .inl _ => true
  | .inr o => o.2.all (mx_okv n)
def mx_okl (n : Nat) (L : mx_L) : Bool := L.all (fun q => mx_okv n q.2)
theorem mx_v_ag {n : Nat} {ad ad' : Nat → Nat} {v : Value} (h : mx_okv n v = true) (ha : ∀ k, k < n ∨ 1000 ≤ k → ad' k = ad k) : mx_v ad' v = mx_v ad v := by
  cases v with
  | ref k =>
    have hk : k < n ∨ 1000 ≤ k := (Bool.or_eq_true_iff.mp h).imp (fun z => Nat.le_of_ble_eq_true z) (fun z => Nat.le_of_ble_eq_true z)
    show Value.ref (ad' k) = Value.ref (ad k)
    rw [ha k hk]
  | _ => rfl
theorem mx_vs_ag {n : Nat} {ad ad' : Nat → Nat} {S : List Value} (h : S.all (mx_okv n) = true) (ha : ∀ k, k < n ∨ 1000 ≤ k → ad' k = ad k) : S.map (mx_v ad') = S.map (mx_v ad) := by
  apply List.map_congr_left
  intro v hv
  exact mx_v_ag (List.all_eq_true.mp h v hv) ha
theorem mx_l_ag {n : Nat} {ad ad' : Nat → Nat} {L : mx_L} (h : mx_okl n L = true) (ha : ∀ k, k < n ∨ 1000 ≤ k → ad' k = ad k) : mx_l ad' L = mx_l ad L := by
  apply List.map_congr_left
  intro q hq
  rw [mx_v_ag (List.all_eq_true.mp h q hq) ha]
theorem mx_c_ag {cT : Nat → ClassId} {n : Nat} {ad ad' : Nat → Nat} {c : mx_C} (h : mx_okc n c = true) (ha : ∀ k, k < n ∨ 1000 ≤ k → ad' k = ad k) : mx_c cT ad' c = mx_c cT ad c := by
  cases c with
  | inl a => rfl
  | inr o => show Sum.inr (o.1, o.2.map (mx_v ad')) = Sum.inr (o.1, o.2.map (mx_v ad)); rw [mx_vs_ag h ha]
def mx_ext (ad : Nat → Nat) (n q : Nat) : Nat → Nat := fun k => if k = n then q else ad k
theorem mx_ext_ag {ad : Nat → Nat} {n q : Nat} (hn : n < 1000) : ∀ k, k < n ∨ 1000 ≤ k → mx_ext ad n q k = ad k := fun k h => by
  unfold mx_ext
  rw [if_neg (by omega)]
theorem mx_w_push {cT : Nat → ClassId} {ad : Nat → Nat} {w : mx_W} {c : mx_C} {q : Nat} (hl : w.length < 1000) (hw : w.all (mx_okc w.length) = true) (hc : mx_okc w.length c = true) : mx_w cT ad w ++ [(q, mx_c cT ad c)] = mx_w cT (mx_ext ad w.length q) (w ++ [c]) := by
  unfold mx_w
  rw [List.mapIdx_append]
  congr 1
  · apply List.mapIdx_eq_mapIdx_iff.mpr
    intro i hi
    have h1 := List.all_eq_true.mp hw w[i] (List.getElem_mem hi)
    rw [mx_ext_ag hl i (Or.inl hi), mx_c_ag h1 (mx_ext_ag hl)]
  · simp only [List.mapIdx_cons, List.mapIdx_nil]
    rw [mx_c_ag hc (mx_ext_ag hl)]
    simp [mx_ext]
/-- locals: a store of one word; a local that is there keeps its place in the list -/
def mx_st1 (L : mx_L) (i : Nat) (v : Value) : mx_L := bif (L.filter (fun q => !(q.1 + 1 == i && q.2.category == 2))).any (fun q => q.1 == i) then (L.filter (fun q => !(q.1 + 1 == i && q.2.category == 2))).map (fun q => bif q.1 == i then (i, v) else q) else (i, v) :: L.filter (fun q => !(q.1 + 1 == i && q.2.category == 2))
theorem mx_st1_in {L : mx_L} {i : Nat} {v : Value} : ∀ q ∈ mx_st1 L i v, q ∈ (i, v) :: L.filter (fun q => !(q.1 == i) && !(q.1 + 1 == i && q.2.category == 2)) := by
  intro q hq
  have key : ∀ z ∈ L.filter (fun q => !(q.1 + 1 == i && q.2.category == 2)), (z.1 == i) = false → z ∈ (i, v) :: L.filter (fun q => !(q.1 == i) && !(q.1 + 1 == i && q.2.category == 2)) := by
    intro z hz h1
    obtain ⟨h2, h3⟩ := List.mem_filter.mp hz
    refine List.mem_cons_of_mem _ (List.mem_filter.mpr ⟨h2, ?_⟩)
    rw [h1]
    exact h3
  unfold mx_st1 at hq
  cases hb : (L.filter (fun q => !(q.1 + 1 == i && q.2.category == 2))).any (fun q => q.1 == i) with
  | true =>
    rw [hb] at hq
    obtain ⟨z, hz, rfl⟩ := List.mem_map.mp hq
    cases h1 : (z.1 == i) with
    | true => exact List.mem_cons_self
    | false => exact key z hz h1
  | false =>
    rw [hb] at hq
    rcases List.mem_cons.mp hq with rfl | hq
    · exact List.mem_cons_self
    · refine key q hq ?_
      rw [List.any_eq_false] at hb
      simpa using hb q hq
theorem mx_st1_has {ls : Array Slot} {nL : Nat} {ad : Nat → Nat} {L : mx_L} {i : Nat} {v : Value} (h : lv_has ls nL ((i, mx_v ad v) :: (mx_l ad L).filter (fun q => !(q.1 == i) && !(q.1 + 1 == i && q.2.category == 2)))) : lv_has ls nL (mx_l ad (mx_st1 L i v)) := by
  refine ⟨h.1, h.2.1, fun q hq => h.2.2 q ?_⟩
  obtain ⟨z, hz, rfl⟩ := List.mem_map.mp hq
  rcases List.mem_cons.mp (mx_st1_in z hz) with rfl | h1
  · exact List.mem_cons_self
  · obtain ⟨h2, h3⟩ := List.mem_filter.mp h1
    refine List.mem_cons_of_mem _ (List.mem_filter.mpr ⟨List.mem_map.mpr ⟨z, h2, rfl⟩, ?_⟩)
    show (!(z.1 == i) && !(z.1 + 1 == i && (mx_v ad z.2).category == 2)) = true
    rw [mx_v_cat]
    exact h3
theorem mx_l_mem {ad : Nat → Nat} {L : mx_L} {i : Nat} {v : Value} (h : mx_fd L i = some v) : (i, mx_v ad v) ∈ mx_l ad L := List.mem_map.mpr ⟨(i, v), mx_fd_mem h, rfl⟩
